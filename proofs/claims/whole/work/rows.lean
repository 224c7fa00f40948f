section
-- ===== PART A: goes FIRST, ahead of the names: the tables' words, and 'selects' of the private methods out of them =====
/-- a private method of a class that the tables say can be made, by its rows of tables_1 -/
def lw_okq (q : MethodName × Nat) : Prop := (q.1.cls ≠ "java/lang/invoke/MethodHandle" ∧ q.1.cls ≠ "java/lang/invoke/VarHandle") ∧ Cond.instantiable q.1.cls q.2 ∈ tables_1 ∧ Cond.privateMethod q.1 ∈ tables_1 ∧ Cond.instanceMethod q.1 ∈ tables_1
theorem lw_p0 : lw_okq (⟨"AskedTheOtherWayAbout", "refuse", "(I)I"⟩, 9) := ⟨⟨by decide +kernel, by decide +kernel⟩, List.mem_of_getElem? (i := 17) (by decide +kernel), List.mem_of_getElem? (i := 194) (by decide +kernel), List.mem_of_getElem? (i := 195) (by decide +kernel)⟩
theorem lw_p1 : lw_okq (⟨"AskedTheOtherWayAbout$Shelves", "holdsQuestion", "(I)Z"⟩, 3) := ⟨⟨by decide +kernel, by decide +kernel⟩, List.mem_of_getElem? (i := 89) (by decide +kernel), List.mem_of_getElem? (i := 215) (by decide +kernel), List.mem_of_getElem? (i := 216) (by decide +kernel)⟩
theorem lw_p2 : lw_okq (⟨"AskedTheOtherWayAbout$Shelves", "holdsRow", "(I)Z"⟩, 3) := ⟨⟨by decide +kernel, by decide +kernel⟩, List.mem_of_getElem? (i := 89) (by decide +kernel), List.mem_of_getElem? (i := 219) (by decide +kernel), List.mem_of_getElem? (i := 220) (by decide +kernel)⟩
theorem lw_p3 : lw_okq (⟨"AskedTheOtherWayAbout", "refuseFarBelow", "(I)I"⟩, 9) := ⟨⟨by decide +kernel, by decide +kernel⟩, List.mem_of_getElem? (i := 17) (by decide +kernel), List.mem_of_getElem? (i := 365) (by decide +kernel), List.mem_of_getElem? (i := 366) (by decide +kernel)⟩
theorem lw_p4 : lw_okq (⟨"AskedTheOtherWayAbout$TownText", "readItem", "()V"⟩, 5) := ⟨⟨by decide +kernel, by decide +kernel⟩, List.mem_of_getElem? (i := 106) (by decide +kernel), List.mem_of_getElem? (i := 441) (by decide +kernel), List.mem_of_getElem? (i := 442) (by decide +kernel)⟩
theorem lw_p5 : lw_okq (⟨"AskedTheOtherWayAbout$TownText", "letterHere", "()I"⟩, 5) := ⟨⟨by decide +kernel, by decide +kernel⟩, List.mem_of_getElem? (i := 106) (by decide +kernel), List.mem_of_getElem? (i := 445) (by decide +kernel), List.mem_of_getElem? (i := 446) (by decide +kernel)⟩
theorem lw_p6 : lw_okq (⟨"AskedTheOtherWayAbout$TownText", "readGroup", "()V"⟩, 5) := ⟨⟨by decide +kernel, by decide +kernel⟩, List.mem_of_getElem? (i := 106) (by decide +kernel), List.mem_of_getElem? (i := 449) (by decide +kernel), List.mem_of_getElem? (i := 450) (by decide +kernel)⟩
theorem lw_p7 : lw_okq (⟨"AskedTheOtherWayAbout$TownText", "readWord", "(Ljava/lang/String;)V"⟩, 5) := ⟨⟨by decide +kernel, by decide +kernel⟩, List.mem_of_getElem? (i := 106) (by decide +kernel), List.mem_of_getElem? (i := 454) (by decide +kernel), List.mem_of_getElem? (i := 455) (by decide +kernel)⟩
theorem lw_p8 : lw_okq (⟨"AskedTheOtherWayAbout$TownText", "readLetter", "(C)V"⟩, 5) := ⟨⟨by decide +kernel, by decide +kernel⟩, List.mem_of_getElem? (i := 106) (by decide +kernel), List.mem_of_getElem? (i := 506) (by decide +kernel), List.mem_of_getElem? (i := 507) (by decide +kernel)⟩
theorem lw_p9 : lw_okq (⟨"AskedTheOtherWayAbout$TownText", "faultAt", "(I)V"⟩, 5) := ⟨⟨by decide +kernel, by decide +kernel⟩, List.mem_of_getElem? (i := 106) (by decide +kernel), List.mem_of_getElem? (i := 510) (by decide +kernel), List.mem_of_getElem? (i := 511) (by decide +kernel)⟩
theorem lw_p10 : lw_okq (⟨"AskedTheOtherWayAbout$TownText", "readNumber", "(II)I"⟩, 5) := ⟨⟨by decide +kernel, by decide +kernel⟩, List.mem_of_getElem? (i := 106) (by decide +kernel), List.mem_of_getElem? (i := 515) (by decide +kernel), List.mem_of_getElem? (i := 516) (by decide +kernel)⟩
theorem lw_p11 : lw_okq (⟨"AskedTheOtherWayAbout$TownText", "readQuestion", "()V"⟩, 5) := ⟨⟨by decide +kernel, by decide +kernel⟩, List.mem_of_getElem? (i := 106) (by decide +kernel), List.mem_of_getElem? (i := 521) (by decide +kernel), List.mem_of_getElem? (i := 522) (by decide +kernel)⟩
theorem lw_p12 : lw_okq (⟨"AskedTheOtherWayAbout$TownText", "readBearing", "(I)V"⟩, 5) := ⟨⟨by decide +kernel, by decide +kernel⟩, List.mem_of_getElem? (i := 106) (by decide +kernel), List.mem_of_getElem? (i := 529) (by decide +kernel), List.mem_of_getElem? (i := 530) (by decide +kernel)⟩
theorem lw_p13 : lw_okq (⟨"AskedTheOtherWayAbout$Orders", "leastOf", "(LAskedTheOtherWayAbout$Town;II)I"⟩, 2) := ⟨⟨by decide +kernel, by decide +kernel⟩, List.mem_of_getElem? (i := 76) (by decide +kernel), List.mem_of_getElem? (i := 606) (by decide +kernel), List.mem_of_getElem? (i := 607) (by decide +kernel)⟩
theorem lw_p14 : lw_okq (⟨"AskedTheOtherWayAbout$Orders", "leansWithFirst", "(LAskedTheOtherWayAbout$Town;III)I"⟩, 2) := ⟨⟨by decide +kernel, by decide +kernel⟩, List.mem_of_getElem? (i := 76) (by decide +kernel), List.mem_of_getElem? (i := 612) (by decide +kernel), List.mem_of_getElem? (i := 613) (by decide +kernel)⟩
theorem lw_p15 : lw_okq (⟨"AskedTheOtherWayAbout$Orders", "firstOf", "(LAskedTheOtherWayAbout$Town;II)I"⟩, 2) := ⟨⟨by decide +kernel, by decide +kernel⟩, List.mem_of_getElem? (i := 76) (by decide +kernel), List.mem_of_getElem? (i := 635) (by decide +kernel), List.mem_of_getElem? (i := 636) (by decide +kernel)⟩
def lw_privs_1 : List (MethodName × Nat) := [(⟨"AskedTheOtherWayAbout", "refuse", "(I)I"⟩, 9), (⟨"AskedTheOtherWayAbout$Shelves", "holdsQuestion", "(I)Z"⟩, 3), (⟨"AskedTheOtherWayAbout$Shelves", "holdsRow", "(I)Z"⟩, 3), (⟨"AskedTheOtherWayAbout", "refuseFarBelow", "(I)I"⟩, 9), (⟨"AskedTheOtherWayAbout$TownText", "readItem", "()V"⟩, 5), (⟨"AskedTheOtherWayAbout$TownText", "letterHere", "()I"⟩, 5), (⟨"AskedTheOtherWayAbout$TownText", "readGroup", "()V"⟩, 5), (⟨"AskedTheOtherWayAbout$TownText", "readWord", "(Ljava/lang/String;)V"⟩, 5), (⟨"AskedTheOtherWayAbout$TownText", "readLetter", "(C)V"⟩, 5), (⟨"AskedTheOtherWayAbout$TownText", "faultAt", "(I)V"⟩, 5), (⟨"AskedTheOtherWayAbout$TownText", "readNumber", "(II)I"⟩, 5), (⟨"AskedTheOtherWayAbout$TownText", "readQuestion", "()V"⟩, 5), (⟨"AskedTheOtherWayAbout$TownText", "readBearing", "(I)V"⟩, 5), (⟨"AskedTheOtherWayAbout$Orders", "leastOf", "(LAskedTheOtherWayAbout$Town;II)I"⟩, 2), (⟨"AskedTheOtherWayAbout$Orders", "leansWithFirst", "(LAskedTheOtherWayAbout$Town;III)I"⟩, 2), (⟨"AskedTheOtherWayAbout$Orders", "firstOf", "(LAskedTheOtherWayAbout$Town;II)I"⟩, 2)]
theorem lw_r1 : ∀ q ∈ lw_privs_1, lw_okq q := List.forall_mem_cons.mpr ⟨lw_p0, List.forall_mem_cons.mpr ⟨lw_p1, List.forall_mem_cons.mpr ⟨lw_p2, List.forall_mem_cons.mpr ⟨lw_p3, List.forall_mem_cons.mpr ⟨lw_p4, List.forall_mem_cons.mpr ⟨lw_p5, List.forall_mem_cons.mpr ⟨lw_p6, List.forall_mem_cons.mpr ⟨lw_p7, List.forall_mem_cons.mpr ⟨lw_p8, List.forall_mem_cons.mpr ⟨lw_p9, List.forall_mem_cons.mpr ⟨lw_p10, List.forall_mem_cons.mpr ⟨lw_p11, List.forall_mem_cons.mpr ⟨lw_p12, List.forall_mem_cons.mpr ⟨lw_p13, List.forall_mem_cons.mpr ⟨lw_p14, List.forall_mem_cons.mpr ⟨lw_p15, fun _ h => absurd h List.not_mem_nil⟩⟩⟩⟩⟩⟩⟩⟩⟩⟩⟩⟩⟩⟩⟩⟩
theorem lw_p16 : lw_okq (⟨"AskedTheOtherWayAbout", "refuseBelowNone", "(I)I"⟩, 9) := ⟨⟨by decide +kernel, by decide +kernel⟩, List.mem_of_getElem? (i := 17) (by decide +kernel), List.mem_of_getElem? (i := 652) (by decide +kernel), List.mem_of_getElem? (i := 653) (by decide +kernel)⟩
theorem lw_p17 : lw_okq (⟨"AskedTheOtherWayAbout", "refusalOfRound", "(III)I"⟩, 9) := ⟨⟨by decide +kernel, by decide +kernel⟩, List.mem_of_getElem? (i := 17) (by decide +kernel), List.mem_of_getElem? (i := 719) (by decide +kernel), List.mem_of_getElem? (i := 720) (by decide +kernel)⟩
theorem lw_p18 : lw_okq (⟨"AskedTheOtherWayAbout", "wrongOfRound", "(II)I"⟩, 9) := ⟨⟨by decide +kernel, by decide +kernel⟩, List.mem_of_getElem? (i := 17) (by decide +kernel), List.mem_of_getElem? (i := 723) (by decide +kernel), List.mem_of_getElem? (i := 724) (by decide +kernel)⟩
theorem lw_p19 : lw_okq (⟨"AskedTheOtherWayAbout", "leansOfRound", "(II)I"⟩, 9) := ⟨⟨by decide +kernel, by decide +kernel⟩, List.mem_of_getElem? (i := 17) (by decide +kernel), List.mem_of_getElem? (i := 733) (by decide +kernel), List.mem_of_getElem? (i := 734) (by decide +kernel)⟩
theorem lw_p20 : lw_okq (⟨"AskedTheOtherWayAbout", "shareInRound", "(II)I"⟩, 9) := ⟨⟨by decide +kernel, by decide +kernel⟩, List.mem_of_getElem? (i := 17) (by decide +kernel), List.mem_of_getElem? (i := 738) (by decide +kernel), List.mem_of_getElem? (i := 739) (by decide +kernel)⟩
theorem lw_p21 : lw_okq (⟨"AskedTheOtherWayAbout$Town", "draw", "(I)I"⟩, 10) := ⟨⟨by decide +kernel, by decide +kernel⟩, List.mem_of_getElem? (i := 25) (by decide +kernel), List.mem_of_getElem? (i := 765) (by decide +kernel), List.mem_of_getElem? (i := 766) (by decide +kernel)⟩
theorem lw_p22 : lw_okq (⟨"AskedTheOtherWayAbout$Acts", "asksFrom", "(II)I"⟩, 5) := ⟨⟨by decide +kernel, by decide +kernel⟩, List.mem_of_getElem? (i := 133) (by decide +kernel), List.mem_of_getElem? (i := 786) (by decide +kernel), List.mem_of_getElem? (i := 787) (by decide +kernel)⟩
theorem lw_p23 : lw_okq (⟨"AskedTheOtherWayAbout$Acts", "begin", "(I)V"⟩, 5) := ⟨⟨by decide +kernel, by decide +kernel⟩, List.mem_of_getElem? (i := 133) (by decide +kernel), List.mem_of_getElem? (i := 790) (by decide +kernel), List.mem_of_getElem? (i := 791) (by decide +kernel)⟩
theorem lw_p24 : lw_okq (⟨"AskedTheOtherWayAbout$Acts", "leansFrom", "(II)I"⟩, 5) := ⟨⟨by decide +kernel, by decide +kernel⟩, List.mem_of_getElem? (i := 133) (by decide +kernel), List.mem_of_getElem? (i := 794) (by decide +kernel), List.mem_of_getElem? (i := 795) (by decide +kernel)⟩
theorem lw_p25 : lw_okq (⟨"AskedTheOtherWayAbout$Acts", "sumsFrom", "(II)I"⟩, 5) := ⟨⟨by decide +kernel, by decide +kernel⟩, List.mem_of_getElem? (i := 133) (by decide +kernel), List.mem_of_getElem? (i := 798) (by decide +kernel), List.mem_of_getElem? (i := 799) (by decide +kernel)⟩
theorem lw_p26 : lw_okq (⟨"AskedTheOtherWayAboutModel", "no", "(I)I"⟩, 33) := ⟨⟨by decide +kernel, by decide +kernel⟩, List.mem_of_getElem? (i := 829) (by decide +kernel), List.mem_of_getElem? (i := 942) (by decide +kernel), List.mem_of_getElem? (i := 943) (by decide +kernel)⟩
theorem lw_p27 : lw_okq (⟨"AskedTheOtherWayAboutModel", "noRow", "(I)I"⟩, 33) := ⟨⟨by decide +kernel, by decide +kernel⟩, List.mem_of_getElem? (i := 829) (by decide +kernel), List.mem_of_getElem? (i := 950) (by decide +kernel), List.mem_of_getElem? (i := 951) (by decide +kernel)⟩
theorem lw_p28 : lw_okq (⟨"AskedTheOtherWayAboutModel", "isRow", "(I)Z"⟩, 33) := ⟨⟨by decide +kernel, by decide +kernel⟩, List.mem_of_getElem? (i := 829) (by decide +kernel), List.mem_of_getElem? (i := 954) (by decide +kernel), List.mem_of_getElem? (i := 955) (by decide +kernel)⟩
theorem lw_p29 : lw_okq (⟨"AskedTheOtherWayAboutModel", "isQuestion", "(I)Z"⟩, 33) := ⟨⟨by decide +kernel, by decide +kernel⟩, List.mem_of_getElem? (i := 829) (by decide +kernel), List.mem_of_getElem? (i := 970) (by decide +kernel), List.mem_of_getElem? (i := 971) (by decide +kernel)⟩
theorem lw_p30 : lw_okq (⟨"AskedTheOtherWayAboutModel", "shareOf", "(I)I"⟩, 33) := ⟨⟨by decide +kernel, by decide +kernel⟩, List.mem_of_getElem? (i := 829) (by decide +kernel), List.mem_of_getElem? (i := 988) (by decide +kernel), List.mem_of_getElem? (i := 989) (by decide +kernel)⟩
theorem lw_p31 : lw_okq (⟨"AskedTheOtherWayAboutModel", "all", "(I)I"⟩, 33) := ⟨⟨by decide +kernel, by decide +kernel⟩, List.mem_of_getElem? (i := 829) (by decide +kernel), List.mem_of_getElem? (i := 992) (by decide +kernel), List.mem_of_getElem? (i := 993) (by decide +kernel)⟩
def lw_privs_2 : List (MethodName × Nat) := [(⟨"AskedTheOtherWayAbout", "refuseBelowNone", "(I)I"⟩, 9), (⟨"AskedTheOtherWayAbout", "refusalOfRound", "(III)I"⟩, 9), (⟨"AskedTheOtherWayAbout", "wrongOfRound", "(II)I"⟩, 9), (⟨"AskedTheOtherWayAbout", "leansOfRound", "(II)I"⟩, 9), (⟨"AskedTheOtherWayAbout", "shareInRound", "(II)I"⟩, 9), (⟨"AskedTheOtherWayAbout$Town", "draw", "(I)I"⟩, 10), (⟨"AskedTheOtherWayAbout$Acts", "asksFrom", "(II)I"⟩, 5), (⟨"AskedTheOtherWayAbout$Acts", "begin", "(I)V"⟩, 5), (⟨"AskedTheOtherWayAbout$Acts", "leansFrom", "(II)I"⟩, 5), (⟨"AskedTheOtherWayAbout$Acts", "sumsFrom", "(II)I"⟩, 5), (⟨"AskedTheOtherWayAboutModel", "no", "(I)I"⟩, 33), (⟨"AskedTheOtherWayAboutModel", "noRow", "(I)I"⟩, 33), (⟨"AskedTheOtherWayAboutModel", "isRow", "(I)Z"⟩, 33), (⟨"AskedTheOtherWayAboutModel", "isQuestion", "(I)Z"⟩, 33), (⟨"AskedTheOtherWayAboutModel", "shareOf", "(I)I"⟩, 33), (⟨"AskedTheOtherWayAboutModel", "all", "(I)I"⟩, 33)]
theorem lw_r2 : ∀ q ∈ lw_privs_2, lw_okq q := List.forall_mem_cons.mpr ⟨lw_p16, List.forall_mem_cons.mpr ⟨lw_p17, List.forall_mem_cons.mpr ⟨lw_p18, List.forall_mem_cons.mpr ⟨lw_p19, List.forall_mem_cons.mpr ⟨lw_p20, List.forall_mem_cons.mpr ⟨lw_p21, List.forall_mem_cons.mpr ⟨lw_p22, List.forall_mem_cons.mpr ⟨lw_p23, List.forall_mem_cons.mpr ⟨lw_p24, List.forall_mem_cons.mpr ⟨lw_p25, List.forall_mem_cons.mpr ⟨lw_p26, List.forall_mem_cons.mpr ⟨lw_p27, List.forall_mem_cons.mpr ⟨lw_p28, List.forall_mem_cons.mpr ⟨lw_p29, List.forall_mem_cons.mpr ⟨lw_p30, List.forall_mem_cons.mpr ⟨lw_p31, fun _ h => absurd h List.not_mem_nil⟩⟩⟩⟩⟩⟩⟩⟩⟩⟩⟩⟩⟩⟩⟩⟩
theorem lw_p32 : lw_okq (⟨"AskedTheOtherWayAboutModel", "yesBy", "(III)I"⟩, 33) := ⟨⟨by decide +kernel, by decide +kernel⟩, List.mem_of_getElem? (i := 829) (by decide +kernel), List.mem_of_getElem? (i := 996) (by decide +kernel), List.mem_of_getElem? (i := 997) (by decide +kernel)⟩
theorem lw_p33 : lw_okq (⟨"AskedTheOtherWayAboutModel", "yesOf", "(IIII)I"⟩, 33) := ⟨⟨by decide +kernel, by decide +kernel⟩, List.mem_of_getElem? (i := 829) (by decide +kernel), List.mem_of_getElem? (i := 1000) (by decide +kernel), List.mem_of_getElem? (i := 1001) (by decide +kernel)⟩
theorem lw_p34 : lw_okq (⟨"AskedTheOtherWayAboutModel", "people", "()I"⟩, 33) := ⟨⟨by decide +kernel, by decide +kernel⟩, List.mem_of_getElem? (i := 829) (by decide +kernel), List.mem_of_getElem? (i := 1005) (by decide +kernel), List.mem_of_getElem? (i := 1006) (by decide +kernel)⟩
theorem lw_p35 : lw_okq (⟨"AskedTheOtherWayAboutModel", "newQuestion", "(II)I"⟩, 33) := ⟨⟨by decide +kernel, by decide +kernel⟩, List.mem_of_getElem? (i := 829) (by decide +kernel), List.mem_of_getElem? (i := 1016) (by decide +kernel), List.mem_of_getElem? (i := 1017) (by decide +kernel)⟩
theorem lw_p36 : lw_okq (⟨"AskedTheOtherWayAboutModel", "newGroup", "(IIIII)I"⟩, 33) := ⟨⟨by decide +kernel, by decide +kernel⟩, List.mem_of_getElem? (i := 829) (by decide +kernel), List.mem_of_getElem? (i := 1024) (by decide +kernel), List.mem_of_getElem? (i := 1025) (by decide +kernel)⟩
theorem lw_p37 : lw_okq (⟨"AskedTheOtherWayAboutModel", "noMuch", "(I)I"⟩, 33) := ⟨⟨by decide +kernel, by decide +kernel⟩, List.mem_of_getElem? (i := 829) (by decide +kernel), List.mem_of_getElem? (i := 1032) (by decide +kernel), List.mem_of_getElem? (i := 1033) (by decide +kernel)⟩
theorem lw_p38 : lw_okq (⟨"AskedTheOtherWayAboutModel", "wrongOf", "(I)I"⟩, 33) := ⟨⟨by decide +kernel, by decide +kernel⟩, List.mem_of_getElem? (i := 829) (by decide +kernel), List.mem_of_getElem? (i := 1036) (by decide +kernel), List.mem_of_getElem? (i := 1037) (by decide +kernel)⟩
theorem lw_p39 : lw_okq (⟨"AskedTheOtherWayAboutModel", "isGroup", "(I)Z"⟩, 33) := ⟨⟨by decide +kernel, by decide +kernel⟩, List.mem_of_getElem? (i := 829) (by decide +kernel), List.mem_of_getElem? (i := 1048) (by decide +kernel), List.mem_of_getElem? (i := 1049) (by decide +kernel)⟩
theorem lw_p40 : lw_okq (⟨"AskedTheOtherWayAboutModel", "keep", "([I)V"⟩, 33) := ⟨⟨by decide +kernel, by decide +kernel⟩, List.mem_of_getElem? (i := 829) (by decide +kernel), List.mem_of_getElem? (i := 1064) (by decide +kernel), List.mem_of_getElem? (i := 1065) (by decide +kernel)⟩
theorem lw_p41 : lw_okq (⟨"AskedTheOtherWayAboutModel", "item", "()Z"⟩, 33) := ⟨⟨by decide +kernel, by decide +kernel⟩, List.mem_of_getElem? (i := 829) (by decide +kernel), List.mem_of_getElem? (i := 1068) (by decide +kernel), List.mem_of_getElem? (i := 1069) (by decide +kernel)⟩
theorem lw_p42 : lw_okq (⟨"AskedTheOtherWayAboutModel", "sign", "()I"⟩, 33) := ⟨⟨by decide +kernel, by decide +kernel⟩, List.mem_of_getElem? (i := 829) (by decide +kernel), List.mem_of_getElem? (i := 1072) (by decide +kernel), List.mem_of_getElem? (i := 1073) (by decide +kernel)⟩
theorem lw_p43 : lw_okq (⟨"AskedTheOtherWayAboutModel", "word", "(Ljava/lang/String;Z)Z"⟩, 33) := ⟨⟨by decide +kernel, by decide +kernel⟩, List.mem_of_getElem? (i := 829) (by decide +kernel), List.mem_of_getElem? (i := 1077) (by decide +kernel), List.mem_of_getElem? (i := 1078) (by decide +kernel)⟩
theorem lw_p44 : lw_okq (⟨"AskedTheOtherWayAboutModel", "word", "(Ljava/lang/String;)Z"⟩, 33) := ⟨⟨by decide +kernel, by decide +kernel⟩, List.mem_of_getElem? (i := 829) (by decide +kernel), List.mem_of_getElem? (i := 1081) (by decide +kernel), List.mem_of_getElem? (i := 1082) (by decide +kernel)⟩
theorem lw_p45 : lw_okq (⟨"AskedTheOtherWayAboutModel", "is", "(C)Z"⟩, 33) := ⟨⟨by decide +kernel, by decide +kernel⟩, List.mem_of_getElem? (i := 829) (by decide +kernel), List.mem_of_getElem? (i := 1087) (by decide +kernel), List.mem_of_getElem? (i := 1088) (by decide +kernel)⟩
theorem lw_p46 : lw_okq (⟨"AskedTheOtherWayAboutModel", "number", "(III)Z"⟩, 33) := ⟨⟨by decide +kernel, by decide +kernel⟩, List.mem_of_getElem? (i := 829) (by decide +kernel), List.mem_of_getElem? (i := 1091) (by decide +kernel), List.mem_of_getElem? (i := 1092) (by decide +kernel)⟩
theorem lw_p47 : lw_okq (⟨"AskedTheOtherWayAboutModel", "two", "()Z"⟩, 33) := ⟨⟨by decide +kernel, by decide +kernel⟩, List.mem_of_getElem? (i := 829) (by decide +kernel), List.mem_of_getElem? (i := 1097) (by decide +kernel), List.mem_of_getElem? (i := 1098) (by decide +kernel)⟩
def lw_privs_3 : List (MethodName × Nat) := [(⟨"AskedTheOtherWayAboutModel", "yesBy", "(III)I"⟩, 33), (⟨"AskedTheOtherWayAboutModel", "yesOf", "(IIII)I"⟩, 33), (⟨"AskedTheOtherWayAboutModel", "people", "()I"⟩, 33), (⟨"AskedTheOtherWayAboutModel", "newQuestion", "(II)I"⟩, 33), (⟨"AskedTheOtherWayAboutModel", "newGroup", "(IIIII)I"⟩, 33), (⟨"AskedTheOtherWayAboutModel", "noMuch", "(I)I"⟩, 33), (⟨"AskedTheOtherWayAboutModel", "wrongOf", "(I)I"⟩, 33), (⟨"AskedTheOtherWayAboutModel", "isGroup", "(I)Z"⟩, 33), (⟨"AskedTheOtherWayAboutModel", "keep", "([I)V"⟩, 33), (⟨"AskedTheOtherWayAboutModel", "item", "()Z"⟩, 33), (⟨"AskedTheOtherWayAboutModel", "sign", "()I"⟩, 33), (⟨"AskedTheOtherWayAboutModel", "word", "(Ljava/lang/String;Z)Z"⟩, 33), (⟨"AskedTheOtherWayAboutModel", "word", "(Ljava/lang/String;)Z"⟩, 33), (⟨"AskedTheOtherWayAboutModel", "is", "(C)Z"⟩, 33), (⟨"AskedTheOtherWayAboutModel", "number", "(III)Z"⟩, 33), (⟨"AskedTheOtherWayAboutModel", "two", "()Z"⟩, 33)]
theorem lw_r3 : ∀ q ∈ lw_privs_3, lw_okq q := List.forall_mem_cons.mpr ⟨lw_p32, List.forall_mem_cons.mpr ⟨lw_p33, List.forall_mem_cons.mpr ⟨lw_p34, List.forall_mem_cons.mpr ⟨lw_p35, List.forall_mem_cons.mpr ⟨lw_p36, List.forall_mem_cons.mpr ⟨lw_p37, List.forall_mem_cons.mpr ⟨lw_p38, List.forall_mem_cons.mpr ⟨lw_p39, List.forall_mem_cons.mpr ⟨lw_p40, List.forall_mem_cons.mpr ⟨lw_p41, List.forall_mem_cons.mpr ⟨lw_p42, List.forall_mem_cons.mpr ⟨lw_p43, List.forall_mem_cons.mpr ⟨lw_p44, List.forall_mem_cons.mpr ⟨lw_p45, List.forall_mem_cons.mpr ⟨lw_p46, List.forall_mem_cons.mpr ⟨lw_p47, fun _ h => absurd h List.not_mem_nil⟩⟩⟩⟩⟩⟩⟩⟩⟩⟩⟩⟩⟩⟩⟩⟩
theorem lw_p48 : lw_okq (⟨"AskedTheOtherWayAboutModel", "stands", "(IZ)Z"⟩, 33) := ⟨⟨by decide +kernel, by decide +kernel⟩, List.mem_of_getElem? (i := 829) (by decide +kernel), List.mem_of_getElem? (i := 1101) (by decide +kernel), List.mem_of_getElem? (i := 1102) (by decide +kernel)⟩
theorem lw_p49 : lw_okq (⟨"AskedTheOtherWayAboutModel", "again", "([I)V"⟩, 33) := ⟨⟨by decide +kernel, by decide +kernel⟩, List.mem_of_getElem? (i := 829) (by decide +kernel), List.mem_of_getElem? (i := 1108) (by decide +kernel), List.mem_of_getElem? (i := 1109) (by decide +kernel)⟩
theorem lw_p50 : lw_okq (⟨"AskedTheOtherWayAboutModel", "answered", "(I)I"⟩, 33) := ⟨⟨by decide +kernel, by decide +kernel⟩, List.mem_of_getElem? (i := 829) (by decide +kernel), List.mem_of_getElem? (i := 1127) (by decide +kernel), List.mem_of_getElem? (i := 1128) (by decide +kernel)⟩
theorem lw_p51 : lw_okq (⟨"AskedTheOtherWayAboutModel", "tries", "(I)I"⟩, 33) := ⟨⟨by decide +kernel, by decide +kernel⟩, List.mem_of_getElem? (i := 829) (by decide +kernel), List.mem_of_getElem? (i := 1131) (by decide +kernel), List.mem_of_getElem? (i := 1132) (by decide +kernel)⟩
theorem lw_p52 : lw_okq (⟨"AskedTheOtherWayAboutModel", "shareOfAnswers", "(II)I"⟩, 33) := ⟨⟨by decide +kernel, by decide +kernel⟩, List.mem_of_getElem? (i := 829) (by decide +kernel), List.mem_of_getElem? (i := 1139) (by decide +kernel), List.mem_of_getElem? (i := 1140) (by decide +kernel)⟩
theorem lw_p53 : lw_okq (⟨"AskedTheOtherWayAboutModel", "offBy", "(II)I"⟩, 33) := ⟨⟨by decide +kernel, by decide +kernel⟩, List.mem_of_getElem? (i := 829) (by decide +kernel), List.mem_of_getElem? (i := 1143) (by decide +kernel), List.mem_of_getElem? (i := 1144) (by decide +kernel)⟩
theorem lw_p54 : lw_okq (⟨"AskedTheOtherWayAboutModel", "leansOf", "([II)I"⟩, 33) := ⟨⟨by decide +kernel, by decide +kernel⟩, List.mem_of_getElem? (i := 829) (by decide +kernel), List.mem_of_getElem? (i := 1156) (by decide +kernel), List.mem_of_getElem? (i := 1157) (by decide +kernel)⟩
theorem lw_p55 : lw_okq (⟨"AskedTheOtherWayAboutModel", "shareIn", "([II)I"⟩, 33) := ⟨⟨by decide +kernel, by decide +kernel⟩, List.mem_of_getElem? (i := 829) (by decide +kernel), List.mem_of_getElem? (i := 1160) (by decide +kernel), List.mem_of_getElem? (i := 1161) (by decide +kernel)⟩
theorem lw_p56 : lw_okq (⟨"AskedTheOtherWayAboutModel", "next", "()Z"⟩, 33) := ⟨⟨by decide +kernel, by decide +kernel⟩, List.mem_of_getElem? (i := 829) (by decide +kernel), List.mem_of_getElem? (i := 1166) (by decide +kernel), List.mem_of_getElem? (i := 1167) (by decide +kernel)⟩
theorem lw_p57 : lw_okq (⟨"AskedTheOtherWayAboutModel", "swap", "(II)V"⟩, 33) := ⟨⟨by decide +kernel, by decide +kernel⟩, List.mem_of_getElem? (i := 829) (by decide +kernel), List.mem_of_getElem? (i := 1170) (by decide +kernel), List.mem_of_getElem? (i := 1171) (by decide +kernel)⟩
theorem lw_p58 : lw_okq (⟨"AskedTheOtherWayAboutModel", "no10", "(I)I"⟩, 33) := ⟨⟨by decide +kernel, by decide +kernel⟩, List.mem_of_getElem? (i := 829) (by decide +kernel), List.mem_of_getElem? (i := 1186) (by decide +kernel), List.mem_of_getElem? (i := 1187) (by decide +kernel)⟩
theorem lw_p59 : lw_okq (⟨"AskedTheOtherWayAboutModel", "costOf", "(I)I"⟩, 33) := ⟨⟨by decide +kernel, by decide +kernel⟩, List.mem_of_getElem? (i := 829) (by decide +kernel), List.mem_of_getElem? (i := 1194) (by decide +kernel), List.mem_of_getElem? (i := 1195) (by decide +kernel)⟩
theorem lw_p60 : lw_okq (⟨"AskedTheOtherWayAboutModel", "answeredLate", "(I)I"⟩, 33) := ⟨⟨by decide +kernel, by decide +kernel⟩, List.mem_of_getElem? (i := 829) (by decide +kernel), List.mem_of_getElem? (i := 1210) (by decide +kernel), List.mem_of_getElem? (i := 1211) (by decide +kernel)⟩
theorem lw_p61 : lw_okq (⟨"AskedTheOtherWayAboutModel", "shareOfHalf", "(II)I"⟩, 33) := ⟨⟨by decide +kernel, by decide +kernel⟩, List.mem_of_getElem? (i := 829) (by decide +kernel), List.mem_of_getElem? (i := 1222) (by decide +kernel), List.mem_of_getElem? (i := 1223) (by decide +kernel)⟩
theorem lw_p62 : lw_okq (⟨"AskedTheOtherWayAboutModel", "shareMoved", "(II)I"⟩, 33) := ⟨⟨by decide +kernel, by decide +kernel⟩, List.mem_of_getElem? (i := 829) (by decide +kernel), List.mem_of_getElem? (i := 1238) (by decide +kernel), List.mem_of_getElem? (i := 1239) (by decide +kernel)⟩
theorem lw_p63 : lw_okq (⟨"AskedTheOtherWayAboutModel", "noRound", "(II)I"⟩, 33) := ⟨⟨by decide +kernel, by decide +kernel⟩, List.mem_of_getElem? (i := 829) (by decide +kernel), List.mem_of_getElem? (i := 1246) (by decide +kernel), List.mem_of_getElem? (i := 1247) (by decide +kernel)⟩
def lw_privs_4 : List (MethodName × Nat) := [(⟨"AskedTheOtherWayAboutModel", "stands", "(IZ)Z"⟩, 33), (⟨"AskedTheOtherWayAboutModel", "again", "([I)V"⟩, 33), (⟨"AskedTheOtherWayAboutModel", "answered", "(I)I"⟩, 33), (⟨"AskedTheOtherWayAboutModel", "tries", "(I)I"⟩, 33), (⟨"AskedTheOtherWayAboutModel", "shareOfAnswers", "(II)I"⟩, 33), (⟨"AskedTheOtherWayAboutModel", "offBy", "(II)I"⟩, 33), (⟨"AskedTheOtherWayAboutModel", "leansOf", "([II)I"⟩, 33), (⟨"AskedTheOtherWayAboutModel", "shareIn", "([II)I"⟩, 33), (⟨"AskedTheOtherWayAboutModel", "next", "()Z"⟩, 33), (⟨"AskedTheOtherWayAboutModel", "swap", "(II)V"⟩, 33), (⟨"AskedTheOtherWayAboutModel", "no10", "(I)I"⟩, 33), (⟨"AskedTheOtherWayAboutModel", "costOf", "(I)I"⟩, 33), (⟨"AskedTheOtherWayAboutModel", "answeredLate", "(I)I"⟩, 33), (⟨"AskedTheOtherWayAboutModel", "shareOfHalf", "(II)I"⟩, 33), (⟨"AskedTheOtherWayAboutModel", "shareMoved", "(II)I"⟩, 33), (⟨"AskedTheOtherWayAboutModel", "noRound", "(II)I"⟩, 33)]
theorem lw_r4 : ∀ q ∈ lw_privs_4, lw_okq q := List.forall_mem_cons.mpr ⟨lw_p48, List.forall_mem_cons.mpr ⟨lw_p49, List.forall_mem_cons.mpr ⟨lw_p50, List.forall_mem_cons.mpr ⟨lw_p51, List.forall_mem_cons.mpr ⟨lw_p52, List.forall_mem_cons.mpr ⟨lw_p53, List.forall_mem_cons.mpr ⟨lw_p54, List.forall_mem_cons.mpr ⟨lw_p55, List.forall_mem_cons.mpr ⟨lw_p56, List.forall_mem_cons.mpr ⟨lw_p57, List.forall_mem_cons.mpr ⟨lw_p58, List.forall_mem_cons.mpr ⟨lw_p59, List.forall_mem_cons.mpr ⟨lw_p60, List.forall_mem_cons.mpr ⟨lw_p61, List.forall_mem_cons.mpr ⟨lw_p62, List.forall_mem_cons.mpr ⟨lw_p63, fun _ h => absurd h List.not_mem_nil⟩⟩⟩⟩⟩⟩⟩⟩⟩⟩⟩⟩⟩⟩⟩⟩
theorem lw_p64 : lw_okq (⟨"AskedTheOtherWayAboutModel", "wrong", "(II)I"⟩, 33) := ⟨⟨by decide +kernel, by decide +kernel⟩, List.mem_of_getElem? (i := 829) (by decide +kernel), List.mem_of_getElem? (i := 1250) (by decide +kernel), List.mem_of_getElem? (i := 1251) (by decide +kernel)⟩
theorem lw_p65 : lw_okq (⟨"AskedTheOtherWayAboutModel", "told", "(II)I"⟩, 33) := ⟨⟨by decide +kernel, by decide +kernel⟩, List.mem_of_getElem? (i := 829) (by decide +kernel), List.mem_of_getElem? (i := 1254) (by decide +kernel), List.mem_of_getElem? (i := 1255) (by decide +kernel)⟩
theorem lw_p66 : lw_okq (⟨"AskedTheOtherWayAboutModel", "draw", "(I)I"⟩, 33) := ⟨⟨by decide +kernel, by decide +kernel⟩, List.mem_of_getElem? (i := 829) (by decide +kernel), List.mem_of_getElem? (i := 1270) (by decide +kernel), List.mem_of_getElem? (i := 1271) (by decide +kernel)⟩
theorem lw_p67 : lw_okq (⟨"AskedTheOtherWayAboutModel", "asksBy", "(II)I"⟩, 33) := ⟨⟨by decide +kernel, by decide +kernel⟩, List.mem_of_getElem? (i := 829) (by decide +kernel), List.mem_of_getElem? (i := 1283) (by decide +kernel), List.mem_of_getElem? (i := 1284) (by decide +kernel)⟩
theorem lw_p68 : lw_okq (⟨"AskedTheOtherWayAboutModel", "ran", "(I)V"⟩, 33) := ⟨⟨by decide +kernel, by decide +kernel⟩, List.mem_of_getElem? (i := 829) (by decide +kernel), List.mem_of_getElem? (i := 1287) (by decide +kernel), List.mem_of_getElem? (i := 1288) (by decide +kernel)⟩
theorem lw_p69 : lw_okq (⟨"AskedTheOtherWayAboutModel", "leansBy", "(II)I"⟩, 33) := ⟨⟨by decide +kernel, by decide +kernel⟩, List.mem_of_getElem? (i := 829) (by decide +kernel), List.mem_of_getElem? (i := 1291) (by decide +kernel), List.mem_of_getElem? (i := 1292) (by decide +kernel)⟩
theorem lw_p70 : lw_okq (⟨"AskedTheOtherWayAboutModel", "sumsBy", "(II)I"⟩, 33) := ⟨⟨by decide +kernel, by decide +kernel⟩, List.mem_of_getElem? (i := 829) (by decide +kernel), List.mem_of_getElem? (i := 1295) (by decide +kernel), List.mem_of_getElem? (i := 1296) (by decide +kernel)⟩
def lw_privs_5 : List (MethodName × Nat) := [(⟨"AskedTheOtherWayAboutModel", "wrong", "(II)I"⟩, 33), (⟨"AskedTheOtherWayAboutModel", "told", "(II)I"⟩, 33), (⟨"AskedTheOtherWayAboutModel", "draw", "(I)I"⟩, 33), (⟨"AskedTheOtherWayAboutModel", "asksBy", "(II)I"⟩, 33), (⟨"AskedTheOtherWayAboutModel", "ran", "(I)V"⟩, 33), (⟨"AskedTheOtherWayAboutModel", "leansBy", "(II)I"⟩, 33), (⟨"AskedTheOtherWayAboutModel", "sumsBy", "(II)I"⟩, 33)]
theorem lw_r5 : ∀ q ∈ lw_privs_5, lw_okq q := List.forall_mem_cons.mpr ⟨lw_p64, List.forall_mem_cons.mpr ⟨lw_p65, List.forall_mem_cons.mpr ⟨lw_p66, List.forall_mem_cons.mpr ⟨lw_p67, List.forall_mem_cons.mpr ⟨lw_p68, List.forall_mem_cons.mpr ⟨lw_p69, List.forall_mem_cons.mpr ⟨lw_p70, fun _ h => absurd h List.not_mem_nil⟩⟩⟩⟩⟩⟩⟩
def lw_privs : List (MethodName × Nat) := lw_privs_1 ++ (lw_privs_2 ++ (lw_privs_3 ++ (lw_privs_4 ++ (lw_privs_5))))
def lw_tbl : List Cond := k2_sels lw_privs ++ tables_1
theorem lw_privs_ok : ∀ q ∈ lw_privs, lw_okq q := by
  show ∀ q ∈ lw_privs_1 ++ (lw_privs_2 ++ (lw_privs_3 ++ (lw_privs_4 ++ (lw_privs_5)))), lw_okq q
  exact List.forall_mem_append.mpr ⟨lw_r1, List.forall_mem_append.mpr ⟨lw_r2, List.forall_mem_append.mpr ⟨lw_r3, List.forall_mem_append.mpr ⟨lw_r4, lw_r5⟩⟩⟩⟩
-- ===== end of PART A; then your names; then what follows =====
end
section
/-! ===== BEGIN words of one list among another's, by their places ===== -/
theorem goodIn_r {big : List Cond} (ws : List Cond) (ps : List Nat) (hp : ws = ps.filterMap (fun i => big[i]?)) (h : ws.all goodWord = true) : GoodIn big ws := by
  intro w hw
  have h1 := List.all_eq_true.mp h w hw
  rw [hp] at hw
  obtain ⟨i, -, hi⟩ := List.mem_filterMap.mp hw
  have hm : w ∈ big := by first | exact List.mem_of_getElem? hi | exact List.getElem?_mem hi
  exact ⟨hm, good_of_word h1⟩
theorem goodIn_app {big a b : List Cond} (ha : GoodIn big a) (hb : GoodIn big b) : GoodIn big (a ++ b) := fun w h => (List.mem_append.mp h).elim (ha w) (hb w)
theorem goodIn_ca {big a b : List Cond} {c : Cond} (ha : GoodIn big (c :: a)) (hb : GoodIn big b) : GoodIn big (c :: (a ++ b)) := fun w h => (List.mem_cons.mp h).elim (fun e => ha w (List.mem_cons.mpr (Or.inl e))) (fun h => (List.mem_append.mp h).elim (fun h => ha w (List.mem_cons.mpr (Or.inr h))) (hb w))
theorem goodIn_sub {big ws : List Cond} (hm : ∀ w ∈ ws, w ∈ big) (h : ws.all goodWord = true) : GoodIn big ws := fun w hw => ⟨hm w hw, good_of_word (List.all_eq_true.mp h w hw)⟩
/-! ===== END ===== -/

/-! ===== BEGIN printed: names, fields, word lists, decode rows ===== -/
def RX0 : String := "AskedTheOtherWayAbout$Acts"
def TX0 : u_T := fun k => match k with
  | 0 => ("AskedTheOtherWayAbout$Acts", "kept", "[I", true)
  | 1 => ("AskedTheOtherWayAbout$Acts", "bodies", "I", false)
  | 2 => ("AskedTheOtherWayAbout$Acts", "number", "I", false)
  | 3 => ("AskedTheOtherWayAbout$Acts", "kind", "I", false)
  | _ => ("AskedTheOtherWayAbout$Acts", "a", "I", false)
def tyX0 : Nat → FieldType := fun k => match k with
  | 0 => .array .int
  | 1 => .int
  | 2 => .int
  | 3 => .int
  | _ => .int
abbrev wsX00 : List Cond := u_ws RX0 TX0 5
theorem nmX0 : ∀ a, a < 5 → ∀ b, b < 5 → a ≠ b → (TX0 a).2.1 ≠ (TX0 b).2.1 := by decide +kernel
theorem tyX0_ok : ∀ k, k < 5 → parseFieldDescriptor (TX0 k).2.2.1 = some (tyX0 k) := by decide +kernel
abbrev cX0_init : ByteArray := prog_2_method_1_code
def yX0_init : MethodName := ⟨RX0, "<init>", "()V"⟩
abbrev cX0_forget : ByteArray := prog_2_method_2_code
def yX0_forget : MethodName := ⟨RX0, "forget", "()V"⟩
abbrev cX0_run : ByteArray := prog_2_method_3_code
def yX0_run : MethodName := ⟨RX0, "run", "(IIIII)I"⟩
abbrev cX0_traceAt : ByteArray := prog_2_method_4_code
def yX0_traceAt : MethodName := ⟨RX0, "traceAt", "(I)I"⟩
abbrev cX0_begin : ByteArray := prog_2_method_5_code
def yX0_begin : MethodName := ⟨RX0, "begin", "(I)V"⟩
abbrev cX0_asksFrom : ByteArray := prog_2_method_6_code
def yX0_asksFrom : MethodName := ⟨RX0, "asksFrom", "(II)I"⟩
abbrev cX0_leansFrom : ByteArray := prog_2_method_7_code
def yX0_leansFrom : MethodName := ⟨RX0, "leansFrom", "(II)I"⟩
abbrev cX0_sumsFrom : ByteArray := prog_2_method_8_code
def yX0_sumsFrom : MethodName := ⟨RX0, "sumsFrom", "(II)I"⟩
def RX1 : String := "AskedTheOtherWayAbout$Orders"
def TX1 : u_T := fun k => match k with
  | 0 => ("AskedTheOtherWayAbout$Orders", "shares", "[I", true)
  | _ => ("AskedTheOtherWayAbout$Orders", "leastOfRest", "[I", true)
def tyX1 : Nat → FieldType := fun k => match k with
  | 0 => .array .int
  | _ => .array .int
abbrev wsX10 : List Cond := u_ws RX1 TX1 2
theorem nmX1 : ∀ a, a < 2 → ∀ b, b < 2 → a ≠ b → (TX1 a).2.1 ≠ (TX1 b).2.1 := by decide +kernel
theorem tyX1_ok : ∀ k, k < 2 → parseFieldDescriptor (TX1 k).2.2.1 = some (tyX1 k) := by decide +kernel
abbrev cX1_init : ByteArray := prog_3_method_1_code
def yX1_init : MethodName := ⟨RX1, "<init>", "()V"⟩
abbrev cX1_leansOfBest : ByteArray := prog_3_method_2_code
def yX1_leansOfBest : MethodName := ⟨RX1, "leansOfBest", "(LAskedTheOtherWayAbout$Town;I)I"⟩
abbrev cX1_questionOfBest : ByteArray := prog_3_method_3_code
def yX1_questionOfBest : MethodName := ⟨RX1, "questionOfBest", "(LAskedTheOtherWayAbout$Town;II)I"⟩
abbrev cX1_leastOf : ByteArray := prog_3_method_4_code
def yX1_leastOf : MethodName := ⟨RX1, "leastOf", "(LAskedTheOtherWayAbout$Town;II)I"⟩
abbrev cX1_firstOf : ByteArray := prog_3_method_5_code
def yX1_firstOf : MethodName := ⟨RX1, "firstOf", "(LAskedTheOtherWayAbout$Town;II)I"⟩
abbrev cX1_leansWithFirst : ByteArray := prog_3_method_6_code
def yX1_leansWithFirst : MethodName := ⟨RX1, "leansWithFirst", "(LAskedTheOtherWayAbout$Town;III)I"⟩
def RX2 : String := "AskedTheOtherWayAbout$Shelves"
def TX2 : u_T := fun k => match k with
  | 0 => ("AskedTheOtherWayAbout$Shelves", "held", "[I", true)
  | 1 => ("AskedTheOtherWayAbout$Shelves", "sizes", "[I", true)
  | _ => ("AskedTheOtherWayAbout$Shelves", "elements", "[J", true)
def tyX2 : Nat → FieldType := fun k => match k with
  | 0 => .array .int
  | 1 => .array .int
  | _ => .array .long
abbrev wsX20 : List Cond := u_ws RX2 TX2 3
theorem nmX2 : ∀ a, a < 3 → ∀ b, b < 3 → a ≠ b → (TX2 a).2.1 ≠ (TX2 b).2.1 := by decide +kernel
theorem tyX2_ok : ∀ k, k < 3 → parseFieldDescriptor (TX2 k).2.2.1 = some (tyX2 k) := by decide +kernel
abbrev cX2_init : ByteArray := prog_4_method_1_code
def yX2_init : MethodName := ⟨RX2, "<init>", "()V"⟩
abbrev cX2_heldBy : ByteArray := prog_4_method_2_code
def yX2_heldBy : MethodName := ⟨RX2, "heldBy", "(I)I"⟩
abbrev cX2_sizeOf : ByteArray := prog_4_method_3_code
def yX2_sizeOf : MethodName := ⟨RX2, "sizeOf", "(I)I"⟩
abbrev cX2_holdsRow : ByteArray := prog_4_method_4_code
def yX2_holdsRow : MethodName := ⟨RX2, "holdsRow", "(I)Z"⟩
abbrev cX2_holdsQuestion : ByteArray := prog_4_method_5_code
def yX2_holdsQuestion : MethodName := ⟨RX2, "holdsQuestion", "(I)Z"⟩
abbrev cX2_refusalOfRow : ByteArray := prog_4_method_6_code
def yX2_refusalOfRow : MethodName := ⟨RX2, "refusalOfRow", "(I)I"⟩
abbrev cX2_refusalOfRows : ByteArray := prog_4_method_7_code
def yX2_refusalOfRows : MethodName := ⟨RX2, "refusalOfRows", "(II)I"⟩
abbrev cX2_has : ByteArray := prog_4_method_8_code
def yX2_has : MethodName := ⟨RX2, "has", "(III)Z"⟩
abbrev cX2_putRow : ByteArray := prog_4_method_9_code
def yX2_putRow : MethodName := ⟨RX2, "putRow", "(III)V"⟩
abbrev cX2_putQuestion : ByteArray := prog_4_method_10_code
def yX2_putQuestion : MethodName := ⟨RX2, "putQuestion", "(II)V"⟩
abbrev cX2_dropQuestionsFrom : ByteArray := prog_4_method_11_code
def yX2_dropQuestionsFrom : MethodName := ⟨RX2, "dropQuestionsFrom", "(I)V"⟩
abbrev cX2_putElement : ByteArray := prog_4_method_12_code
def yX2_putElement : MethodName := ⟨RX2, "putElement", "(IIJ)V"⟩
abbrev cX2_lowestBits : ByteArray := prog_4_method_13_code
def yX2_lowestBits : MethodName := ⟨RX2, "lowestBits", "(IJ)J"⟩
abbrev cX2_copyElements : ByteArray := prog_4_method_14_code
def yX2_copyElements : MethodName := ⟨RX2, "copyElements", "(IIIII)V"⟩
abbrev cX2_longAt : ByteArray := prog_4_method_15_code
def yX2_longAt : MethodName := ⟨RX2, "longAt", "(II)J"⟩
abbrev cX2_intAt : ByteArray := prog_4_method_16_code
def yX2_intAt : MethodName := ⟨RX2, "intAt", "(II)I"⟩
abbrev cX2_copyInts : ByteArray := prog_4_method_17_code
def yX2_copyInts : MethodName := ⟨RX2, "copyInts", "(I[I)V"⟩
def RX3 : String := "AskedTheOtherWayAbout$Town"
def TX3 : u_T := fun k => match k with
  | 0 => ("AskedTheOtherWayAbout$Town", "questions", "[I", true)
  | 1 => ("AskedTheOtherWayAbout$Town", "bearings", "[I", true)
  | 2 => ("AskedTheOtherWayAbout$Town", "groups", "[I", true)
  | 3 => ("AskedTheOtherWayAbout$Town", "questionCount", "I", false)
  | 4 => ("AskedTheOtherWayAbout$Town", "groupCount", "I", false)
  | 5 => ("AskedTheOtherWayAbout$Town", "penny", "I", false)
  | 6 => ("AskedTheOtherWayAbout$Town", "half", "I", false)
  | 7 => ("AskedTheOtherWayAbout$Town", "seed", "I", false)
  | 8 => ("AskedTheOtherWayAbout$Town", "asked", "I", false)
  | _ => ("AskedTheOtherWayAbout$Town", "yeses", "I", false)
def tyX3 : Nat → FieldType := fun k => match k with
  | 0 => .array .int
  | 1 => .array .int
  | 2 => .array .int
  | 3 => .int
  | 4 => .int
  | 5 => .int
  | 6 => .int
  | 7 => .int
  | 8 => .int
  | _ => .int
abbrev wsX30 : List Cond := u_ws RX3 TX3 10
theorem nmX3 : ∀ a, a < 10 → ∀ b, b < 10 → a ≠ b → (TX3 a).2.1 ≠ (TX3 b).2.1 := by decide +kernel
theorem tyX3_ok : ∀ k, k < 10 → parseFieldDescriptor (TX3 k).2.2.1 = some (tyX3 k) := by decide +kernel
abbrev cX3_init : ByteArray := prog_5_method_1_code
def yX3_init : MethodName := ⟨RX3, "<init>", "()V"⟩
abbrev cX3_become : ByteArray := prog_5_method_2_code
def yX3_become : MethodName := ⟨RX3, "become", "(LAskedTheOtherWayAbout$Town;)V"⟩
abbrev cX3_hasQuestion : ByteArray := prog_5_method_3_code
def yX3_hasQuestion : MethodName := ⟨RX3, "hasQuestion", "(I)Z"⟩
abbrev cX3_hasQuestions : ByteArray := prog_5_method_4_code
def yX3_hasQuestions : MethodName := ⟨RX3, "hasQuestions", "(I)Z"⟩
abbrev cX3_hasGroup : ByteArray := prog_5_method_5_code
def yX3_hasGroup : MethodName := ⟨RX3, "hasGroup", "(I)Z"⟩
abbrev cX3_hasRoomForQuestion : ByteArray := prog_5_method_6_code
def yX3_hasRoomForQuestion : MethodName := ⟨RX3, "hasRoomForQuestion", "()Z"⟩
abbrev cX3_hasRoomForGroup : ByteArray := prog_5_method_7_code
def yX3_hasRoomForGroup : MethodName := ⟨RX3, "hasRoomForGroup", "()Z"⟩
abbrev cX3_addQuestion : ByteArray := prog_5_method_8_code
def yX3_addQuestion : MethodName := ⟨RX3, "addQuestion", "(II)I"⟩
abbrev cX3_addGroup : ByteArray := prog_5_method_9_code
def yX3_addGroup : MethodName := ⟨RX3, "addGroup", "(IIIII)I"⟩
abbrev cX3_splitGroup : ByteArray := prog_5_method_10_code
def yX3_splitGroup : MethodName := ⟨RX3, "splitGroup", "(III)I"⟩
abbrev cX3_kindOf : ByteArray := prog_5_method_11_code
def yX3_kindOf : MethodName := ⟨RX3, "kindOf", "(I)I"⟩
abbrev cX3_aOf : ByteArray := prog_5_method_12_code
def yX3_aOf : MethodName := ⟨RX3, "aOf", "(I)I"⟩
abbrev cX3_bearingOf : ByteArray := prog_5_method_13_code
def yX3_bearingOf : MethodName := ⟨RX3, "bearingOf", "(II)I"⟩
abbrev cX3_putBearing : ByteArray := prog_5_method_14_code
def yX3_putBearing : MethodName := ⟨RX3, "putBearing", "(III)V"⟩
abbrev cX3_countOf : ByteArray := prog_5_method_15_code
def yX3_countOf : MethodName := ⟨RX3, "countOf", "(I)I"⟩
abbrev cX3_viewOf : ByteArray := prog_5_method_16_code
def yX3_viewOf : MethodName := ⟨RX3, "viewOf", "(I)I"⟩
abbrev cX3_putView : ByteArray := prog_5_method_17_code
def yX3_putView : MethodName := ⟨RX3, "putView", "(II)V"⟩
abbrev cX3_gladOf : ByteArray := prog_5_method_18_code
def yX3_gladOf : MethodName := ⟨RX3, "gladOf", "(I)I"⟩
abbrev cX3_homeOf : ByteArray := prog_5_method_19_code
def yX3_homeOf : MethodName := ⟨RX3, "homeOf", "(I)I"⟩
abbrev cX3_willOf : ByteArray := prog_5_method_20_code
def yX3_willOf : MethodName := ⟨RX3, "willOf", "(I)I"⟩
abbrev cX3_yesAs : ByteArray := prog_5_method_21_code
def yX3_yesAs : MethodName := ⟨RX3, "yesAs", "(IIII)I"⟩
abbrev cX3_yesOf : ByteArray := prog_5_method_22_code
def yX3_yesOf : MethodName := ⟨RX3, "yesOf", "(III)I"⟩
abbrev cX3_peopleOf : ByteArray := prog_5_method_23_code
def yX3_peopleOf : MethodName := ⟨RX3, "peopleOf", "(I)I"⟩
abbrev cX3_allOf : ByteArray := prog_5_method_24_code
def yX3_allOf : MethodName := ⟨RX3, "allOf", "(II)I"⟩
abbrev cX3_shareOf : ByteArray := prog_5_method_25_code
def yX3_shareOf : MethodName := ⟨RX3, "shareOf", "(II)I"⟩
abbrev cX3_shareBehind : ByteArray := prog_5_method_26_code
def yX3_shareBehind : MethodName := ⟨RX3, "shareBehind", "(III)I"⟩
abbrev cX3_holding : ByteArray := prog_5_method_27_code
def yX3_holding : MethodName := ⟨RX3, "holding", "()I"⟩
abbrev cX3_wrongOf : ByteArray := prog_5_method_28_code
def yX3_wrongOf : MethodName := ⟨RX3, "wrongOf", "(I)I"⟩
abbrev cX3_leastMoved : ByteArray := prog_5_method_29_code
def yX3_leastMoved : MethodName := ⟨RX3, "leastMoved", "(II)I"⟩
abbrev cX3_knock : ByteArray := prog_5_method_30_code
def yX3_knock : MethodName := ⟨RX3, "knock", "()V"⟩
abbrev cX3_draw : ByteArray := prog_5_method_31_code
def yX3_draw : MethodName := ⟨RX3, "draw", "(I)I"⟩
def RX4 : String := "AskedTheOtherWayAbout$TownText"
def TX4 : u_T := fun k => match k with
  | 0 => ("AskedTheOtherWayAbout$TownText", "letters", "[I", true)
  | 1 => ("AskedTheOtherWayAbout$TownText", "draft", "LAskedTheOtherWayAbout$Town;", true)
  | 2 => ("AskedTheOtherWayAbout$TownText", "fault", "I", false)
  | 3 => ("AskedTheOtherWayAbout$TownText", "size", "I", false)
  | _ => ("AskedTheOtherWayAbout$TownText", "place", "I", false)
def tyX4 : Nat → FieldType := fun k => match k with
  | 0 => .array .int
  | 1 => .object "AskedTheOtherWayAbout$Town"
  | 2 => .int
  | 3 => .int
  | _ => .int
abbrev wsX40 : List Cond := u_ws RX4 TX4 5
theorem nmX4 : ∀ a, a < 5 → ∀ b, b < 5 → a ≠ b → (TX4 a).2.1 ≠ (TX4 b).2.1 := by decide +kernel
theorem tyX4_ok : ∀ k, k < 5 → parseFieldDescriptor (TX4 k).2.2.1 = some (tyX4 k) := by decide +kernel
abbrev cX4_init : ByteArray := prog_6_method_1_code
def yX4_init : MethodName := ⟨RX4, "<init>", "()V"⟩
abbrev cX4_read : ByteArray := prog_6_method_2_code
def yX4_read : MethodName := ⟨RX4, "read", "(ILAskedTheOtherWayAbout$Town;)I"⟩
abbrev cX4_readItem : ByteArray := prog_6_method_3_code
def yX4_readItem : MethodName := ⟨RX4, "readItem", "()V"⟩
abbrev cX4_readGroup : ByteArray := prog_6_method_4_code
def yX4_readGroup : MethodName := ⟨RX4, "readGroup", "()V"⟩
abbrev cX4_readQuestion : ByteArray := prog_6_method_5_code
def yX4_readQuestion : MethodName := ⟨RX4, "readQuestion", "()V"⟩
abbrev cX4_readBearing : ByteArray := prog_6_method_6_code
def yX4_readBearing : MethodName := ⟨RX4, "readBearing", "(I)V"⟩
abbrev cX4_faultAt : ByteArray := prog_6_method_7_code
def yX4_faultAt : MethodName := ⟨RX4, "faultAt", "(I)V"⟩
abbrev cX4_letterHere : ByteArray := prog_6_method_8_code
def yX4_letterHere : MethodName := ⟨RX4, "letterHere", "()I"⟩
abbrev cX4_readLetter : ByteArray := prog_6_method_9_code
def yX4_readLetter : MethodName := ⟨RX4, "readLetter", "(C)V"⟩
abbrev cX4_readWord : ByteArray := prog_6_method_10_code
def yX4_readWord : MethodName := ⟨RX4, "readWord", "(Ljava/lang/String;)V"⟩
abbrev cX4_readNumber : ByteArray := prog_6_method_11_code
def yX4_readNumber : MethodName := ⟨RX4, "readNumber", "(II)I"⟩
def RX5 : String := "AskedTheOtherWayAbout$Tries"
def TX5 : u_T := fun k => match k with
  | _ => ("", "", "", false)
def tyX5 : Nat → FieldType := fun k => match k with
  | _ => .int
abbrev wsX50 : List Cond := u_ws RX5 TX5 0
theorem nmX5 : ∀ a, a < 0 → ∀ b, b < 0 → a ≠ b → (TX5 a).2.1 ≠ (TX5 b).2.1 := by decide +kernel
theorem tyX5_ok : ∀ k, k < 0 → parseFieldDescriptor (TX5 k).2.2.1 = some (tyX5 k) := by decide +kernel
abbrev cX5_leftOf : ByteArray := prog_7_method_2_code
def yX5_leftOf : MethodName := ⟨RX5, "leftOf", "(LAskedTheOtherWayAbout$Town;II)I"⟩
abbrev cX5_answersOf : ByteArray := prog_7_method_3_code
def yX5_answersOf : MethodName := ⟨RX5, "answersOf", "(LAskedTheOtherWayAbout$Town;II)I"⟩
abbrev cX5_leftBy : ByteArray := prog_7_method_4_code
def yX5_leftBy : MethodName := ⟨RX5, "leftBy", "(LAskedTheOtherWayAbout$Town;I)I"⟩
abbrev cX5_answersBetween : ByteArray := prog_7_method_5_code
def yX5_answersBetween : MethodName := ⟨RX5, "answersBetween", "(LAskedTheOtherWayAbout$Town;II)I"⟩
abbrev cX5_shareBetween : ByteArray := prog_7_method_6_code
def yX5_shareBetween : MethodName := ⟨RX5, "shareBetween", "(LAskedTheOtherWayAbout$Town;III)I"⟩
abbrev cX5_offBy : ByteArray := prog_7_method_7_code
def yX5_offBy : MethodName := ⟨RX5, "offBy", "(LAskedTheOtherWayAbout$Town;II)I"⟩
abbrev cX5_costOf : ByteArray := prog_7_method_8_code
def yX5_costOf : MethodName := ⟨RX5, "costOf", "(LAskedTheOtherWayAbout$Town;I)I"⟩
abbrev cX5_enoughFor : ByteArray := prog_7_method_9_code
def yX5_enoughFor : MethodName := ⟨RX5, "enoughFor", "(LAskedTheOtherWayAbout$Town;II)I"⟩
abbrev cX5_finest : ByteArray := prog_7_method_10_code
def yX5_finest : MethodName := ⟨RX5, "finest", "(LAskedTheOtherWayAbout$Town;II)I"⟩
abbrev cX5_groupsThatNeverAnswer : ByteArray := prog_7_method_11_code
def yX5_groupsThatNeverAnswer : MethodName := ⟨RX5, "groupsThatNeverAnswer", "(LAskedTheOtherWayAbout$Town;)I"⟩
def RX6 : String := "AskedTheOtherWayAbout"
def TX6 : u_T := fun k => match k with
  | 0 => ("AskedTheOtherWayAbout", "town", "LAskedTheOtherWayAbout$Town;", true)
  | 1 => ("AskedTheOtherWayAbout", "image", "LAskedTheOtherWayAbout$Town;", true)
  | 2 => ("AskedTheOtherWayAbout", "imageTaken", "Z", false)
  | 3 => ("AskedTheOtherWayAbout", "orders", "LAskedTheOtherWayAbout$Orders;", true)
  | 4 => ("AskedTheOtherWayAbout", "shelves", "LAskedTheOtherWayAbout$Shelves;", true)
  | 5 => ("AskedTheOtherWayAbout", "townText", "LAskedTheOtherWayAbout$TownText;", true)
  | 6 => ("AskedTheOtherWayAbout", "acts", "LAskedTheOtherWayAbout$Acts;", true)
  | 7 => ("AskedTheOtherWayAbout", "refusals", "[I", true)
  | _ => ("AskedTheOtherWayAbout", "latestFault", "I", false)
def tyX6 : Nat → FieldType := fun k => match k with
  | 0 => .object "AskedTheOtherWayAbout$Town"
  | 1 => .object "AskedTheOtherWayAbout$Town"
  | 2 => .boolean
  | 3 => .object "AskedTheOtherWayAbout$Orders"
  | 4 => .object "AskedTheOtherWayAbout$Shelves"
  | 5 => .object "AskedTheOtherWayAbout$TownText"
  | 6 => .object "AskedTheOtherWayAbout$Acts"
  | 7 => .array .int
  | _ => .int
abbrev wsX60 : List Cond := u_ws RX6 TX6 9
theorem nmX6 : ∀ a, a < 9 → ∀ b, b < 9 → a ≠ b → (TX6 a).2.1 ≠ (TX6 b).2.1 := by decide +kernel
theorem tyX6_ok : ∀ k, k < 9 → parseFieldDescriptor (TX6 k).2.2.1 = some (tyX6 k) := by decide +kernel
abbrev cX6_init : ByteArray := prog_1_method_1_code
def yX6_init : MethodName := ⟨RX6, "<init>", "()V"⟩
abbrev cX6_row : ByteArray := prog_1_method_2_code
def yX6_row : MethodName := ⟨RX6, "row", "(III)I"⟩
abbrev cX6_set : ByteArray := prog_1_method_3_code
def yX6_set : MethodName := ⟨RX6, "set", "(IIJ)I"⟩
abbrev cX6_copy : ByteArray := prog_1_method_4_code
def yX6_copy : MethodName := ⟨RX6, "copy", "(IIIII)I"⟩
abbrev cX6_element : ByteArray := prog_1_method_5_code
def yX6_element : MethodName := ⟨RX6, "element", "(II)J"⟩
abbrev cX6_show : ByteArray := prog_1_method_6_code
def yX6_show : MethodName := ⟨RX6, "show", "(II)I"⟩
abbrev cX6_holds : ByteArray := prog_1_method_7_code
def yX6_holds : MethodName := ⟨RX6, "holds", "(I)I"⟩
abbrev cX6_says : ByteArray := prog_1_method_8_code
def yX6_says : MethodName := ⟨RX6, "says", "(II)I"⟩
abbrev cX6_question : ByteArray := prog_1_method_9_code
def yX6_question : MethodName := ⟨RX6, "question", "(II)I"⟩
abbrev cX6_group : ByteArray := prog_1_method_10_code
def yX6_group : MethodName := ⟨RX6, "group", "(IIIII)I"⟩
abbrev cX6_questionOf : ByteArray := prog_1_method_11_code
def yX6_questionOf : MethodName := ⟨RX6, "questionOf", "(II)I"⟩
abbrev cX6_groupOf : ByteArray := prog_1_method_12_code
def yX6_groupOf : MethodName := ⟨RX6, "groupOf", "(II)I"⟩
abbrev cX6_bears : ByteArray := prog_1_method_13_code
def yX6_bears : MethodName := ⟨RX6, "bears", "(III)I"⟩
abbrev cX6_ask : ByteArray := prog_1_method_14_code
def yX6_ask : MethodName := ⟨RX6, "ask", "(II)I"⟩
abbrev cX6_town : ByteArray := prog_1_method_15_code
def yX6_town : MethodName := ⟨RX6, "town", "(I)I"⟩
abbrev cX6_fault : ByteArray := prog_1_method_16_code
def yX6_fault : MethodName := ⟨RX6, "fault", "()I"⟩
abbrev cX6_yes : ByteArray := prog_1_method_17_code
def yX6_yes : MethodName := ⟨RX6, "yes", "(III)I"⟩
abbrev cX6_answers : ByteArray := prog_1_method_18_code
def yX6_answers : MethodName := ⟨RX6, "answers", "(II)I"⟩
abbrev cX6_by : ByteArray := prog_1_method_19_code
def yX6_by : MethodName := ⟨RX6, "by", "(III)I"⟩
abbrev cX6_hold : ByteArray := prog_1_method_20_code
def yX6_hold : MethodName := ⟨RX6, "hold", "()I"⟩
abbrev cX6_order : ByteArray := prog_1_method_21_code
def yX6_order : MethodName := ⟨RX6, "order", "(II)I"⟩
abbrev cX6_blame : ByteArray := prog_1_method_22_code
def yX6_blame : MethodName := ⟨RX6, "blame", "()I"⟩
abbrev cX6_nothing : ByteArray := prog_1_method_23_code
def yX6_nothing : MethodName := ⟨RX6, "nothing", "(II)I"⟩
abbrev cX6_enough : ByteArray := prog_1_method_24_code
def yX6_enough : MethodName := ⟨RX6, "enough", "(II)I"⟩
abbrev cX6_cost : ByteArray := prog_1_method_25_code
def yX6_cost : MethodName := ⟨RX6, "cost", "(I)I"⟩
abbrev cX6_fine : ByteArray := prog_1_method_26_code
def yX6_fine : MethodName := ⟨RX6, "fine", "(II)I"⟩
abbrev cX6_never : ByteArray := prog_1_method_27_code
def yX6_never : MethodName := ⟨RX6, "never", "()I"⟩
abbrev cX6_late : ByteArray := prog_1_method_28_code
def yX6_late : MethodName := ⟨RX6, "late", "(II)I"⟩
abbrev cX6_fits : ByteArray := prog_1_method_29_code
def yX6_fits : MethodName := ⟨RX6, "fits", "(II)I"⟩
abbrev cX6_halves : ByteArray := prog_1_method_30_code
def yX6_halves : MethodName := ⟨RX6, "halves", "(I)I"⟩
abbrev cX6_twin : ByteArray := prog_1_method_31_code
def yX6_twin : MethodName := ⟨RX6, "twin", "(I)I"⟩
abbrev cX6_nearest : ByteArray := prog_1_method_32_code
def yX6_nearest : MethodName := ⟨RX6, "nearest", "()I"⟩
abbrev cX6_move : ByteArray := prog_1_method_33_code
def yX6_move : MethodName := ⟨RX6, "move", "(II)I"⟩
abbrev cX6_judge : ByteArray := prog_1_method_34_code
def yX6_judge : MethodName := ⟨RX6, "judge", "(II)I"⟩
abbrev cX6_round : ByteArray := prog_1_method_35_code
def yX6_round : MethodName := ⟨RX6, "round", "(III)I"⟩
abbrev cX6_change : ByteArray := prog_1_method_36_code
def yX6_change : MethodName := ⟨RX6, "change", "(III)I"⟩
abbrev cX6_doors : ByteArray := prog_1_method_37_code
def yX6_doors : MethodName := ⟨RX6, "doors", "(I)I"⟩
abbrev cX6_seed : ByteArray := prog_1_method_38_code
def yX6_seed : MethodName := ⟨RX6, "seed", "(I)I"⟩
abbrev cX6_act : ByteArray := prog_1_method_39_code
def yX6_act : MethodName := ⟨RX6, "act", "(III)I"⟩
abbrev cX6_trace : ByteArray := prog_1_method_40_code
def yX6_trace : MethodName := ⟨RX6, "trace", "(I)I"⟩
abbrev cX6_image : ByteArray := prog_1_method_41_code
def yX6_image : MethodName := ⟨RX6, "image", "()I"⟩
abbrev cX6_restore : ByteArray := prog_1_method_42_code
def yX6_restore : MethodName := ⟨RX6, "restore", "()I"⟩
abbrev cX6_status : ByteArray := prog_1_method_43_code
def yX6_status : MethodName := ⟨RX6, "status", "(I)I"⟩
abbrev cX6_refuse : ByteArray := prog_1_method_44_code
def yX6_refuse : MethodName := ⟨RX6, "refuse", "(I)I"⟩
abbrev cX6_refuseFarBelow : ByteArray := prog_1_method_45_code
def yX6_refuseFarBelow : MethodName := ⟨RX6, "refuseFarBelow", "(I)I"⟩
abbrev cX6_refuseBelowNone : ByteArray := prog_1_method_46_code
def yX6_refuseBelowNone : MethodName := ⟨RX6, "refuseBelowNone", "(I)I"⟩
abbrev cX6_refusalOfRound : ByteArray := prog_1_method_47_code
def yX6_refusalOfRound : MethodName := ⟨RX6, "refusalOfRound", "(III)I"⟩
abbrev cX6_wrongOfRound : ByteArray := prog_1_method_48_code
def yX6_wrongOfRound : MethodName := ⟨RX6, "wrongOfRound", "(II)I"⟩
abbrev cX6_leansOfRound : ByteArray := prog_1_method_49_code
def yX6_leansOfRound : MethodName := ⟨RX6, "leansOfRound", "(II)I"⟩
abbrev cX6_shareInRound : ByteArray := prog_1_method_50_code
def yX6_shareInRound : MethodName := ⟨RX6, "shareInRound", "(II)I"⟩
abbrev cX6_isWithin : ByteArray := prog_1_method_51_code
def yX6_isWithin : MethodName := ⟨RX6, "isWithin", "(III)Z"⟩
abbrev cX6_isShelf : ByteArray := prog_1_method_52_code
def yX6_isShelf : MethodName := ⟨RX6, "isShelf", "(I)Z"⟩
abbrev cX6_isKind : ByteArray := prog_1_method_53_code
def yX6_isKind : MethodName := ⟨RX6, "isKind", "(I)Z"⟩
abbrev cX6_contains : ByteArray := prog_1_method_54_code
def yX6_contains : MethodName := ⟨RX6, "contains", "(II)Z"⟩
abbrev cX6_isOrUnder : ByteArray := prog_1_method_55_code
def yX6_isOrUnder : MethodName := ⟨RX6, "isOrUnder", "(II)Z"⟩
abbrev cX6_thousandths : ByteArray := prog_1_method_56_code
def yX6_thousandths : MethodName := ⟨RX6, "thousandths", "(II)I"⟩
abbrev cX6_yesBy : ByteArray := prog_1_method_57_code
def yX6_yesBy : MethodName := ⟨RX6, "yesBy", "(IIIII)I"⟩
def RX7 : String := "AskedTheOtherWayAboutModel"
def TX7 : u_T := fun k => match k with
  | 0 => ("AskedTheOtherWayAboutModel", "holding", "[I", true)
  | 1 => ("AskedTheOtherWayAboutModel", "rowLength", "[I", true)
  | 2 => ("AskedTheOtherWayAboutModel", "rowOf", "[J", true)
  | 3 => ("AskedTheOtherWayAboutModel", "questions", "I", false)
  | 4 => ("AskedTheOtherWayAboutModel", "kind", "[I", true)
  | 5 => ("AskedTheOtherWayAboutModel", "own", "[I", true)
  | 6 => ("AskedTheOtherWayAboutModel", "bears", "[I", true)
  | 7 => ("AskedTheOtherWayAboutModel", "groups", "I", false)
  | 8 => ("AskedTheOtherWayAboutModel", "count", "[I", true)
  | 9 => ("AskedTheOtherWayAboutModel", "view", "[I", true)
  | 10 => ("AskedTheOtherWayAboutModel", "glad", "[I", true)
  | 11 => ("AskedTheOtherWayAboutModel", "home", "[I", true)
  | 12 => ("AskedTheOtherWayAboutModel", "will", "[I", true)
  | 13 => ("AskedTheOtherWayAboutModel", "penny", "I", false)
  | 14 => ("AskedTheOtherWayAboutModel", "half", "I", false)
  | 15 => ("AskedTheOtherWayAboutModel", "asked", "I", false)
  | 16 => ("AskedTheOtherWayAboutModel", "yeses", "I", false)
  | 17 => ("AskedTheOtherWayAboutModel", "seed", "I", false)
  | 18 => ("AskedTheOtherWayAboutModel", "fault", "I", false)
  | 19 => ("AskedTheOtherWayAboutModel", "refusals", "[I", true)
  | 20 => ("AskedTheOtherWayAboutModel", "traced", "I", false)
  | 21 => ("AskedTheOtherWayAboutModel", "traces", "[I", true)
  | 22 => ("AskedTheOtherWayAboutModel", "imaged", "Z", false)
  | 23 => ("AskedTheOtherWayAboutModel", "old", "[I", true)
  | 24 => ("AskedTheOtherWayAboutModel", "ahead", "[I", true)
  | 25 => ("AskedTheOtherWayAboutModel", "reading", "I", false)
  | 26 => ("AskedTheOtherWayAboutModel", "at", "I", false)
  | 27 => ("AskedTheOtherWayAboutModel", "numbers", "[I", true)
  | 28 => ("AskedTheOtherWayAboutModel", "answer", "[I", true)
  | 29 => ("AskedTheOtherWayAboutModel", "left", "[I", true)
  | 30 => ("AskedTheOtherWayAboutModel", "order", "[I", true)
  | 31 => ("AskedTheOtherWayAboutModel", "best", "[I", true)
  | _ => ("AskedTheOtherWayAboutModel", "many", "I", false)
def tyX7 : Nat → FieldType := fun k => match k with
  | 0 => .array .int
  | 1 => .array .int
  | 2 => .array .long
  | 3 => .int
  | 4 => .array .int
  | 5 => .array .int
  | 6 => .array .int
  | 7 => .int
  | 8 => .array .int
  | 9 => .array .int
  | 10 => .array .int
  | 11 => .array .int
  | 12 => .array .int
  | 13 => .int
  | 14 => .int
  | 15 => .int
  | 16 => .int
  | 17 => .int
  | 18 => .int
  | 19 => .array .int
  | 20 => .int
  | 21 => .array .int
  | 22 => .boolean
  | 23 => .array .int
  | 24 => .array .int
  | 25 => .int
  | 26 => .int
  | 27 => .array .int
  | 28 => .array .int
  | 29 => .array .int
  | 30 => .array .int
  | 31 => .array .int
  | _ => .int
abbrev wsX70 : List Cond := u_ws RX7 TX7 33
theorem nmX7 : ∀ a, a < 33 → ∀ b, b < 33 → a ≠ b → (TX7 a).2.1 ≠ (TX7 b).2.1 := by decide +kernel
theorem tyX7_ok : ∀ k, k < 33 → parseFieldDescriptor (TX7 k).2.2.1 = some (tyX7 k) := by decide +kernel
abbrev cX7_init : ByteArray := prog_9_method_1_code
def yX7_init : MethodName := ⟨RX7, "<init>", "()V"⟩
abbrev cX7_no : ByteArray := prog_9_method_2_code
def yX7_no : MethodName := ⟨RX7, "no", "(I)I"⟩
abbrev cX7_no10 : ByteArray := prog_9_method_3_code
def yX7_no10 : MethodName := ⟨RX7, "no10", "(I)I"⟩
abbrev cX7_noMuch : ByteArray := prog_9_method_4_code
def yX7_noMuch : MethodName := ⟨RX7, "noMuch", "(I)I"⟩
abbrev cX7_within : ByteArray := prog_9_method_5_code
def yX7_within : MethodName := ⟨RX7, "within", "(III)Z"⟩
abbrev cX7_has : ByteArray := prog_9_method_6_code
def yX7_has : MethodName := ⟨RX7, "has", "(II)Z"⟩
abbrev cX7_isQuestion : ByteArray := prog_9_method_7_code
def yX7_isQuestion : MethodName := ⟨RX7, "isQuestion", "(I)Z"⟩
abbrev cX7_isGroup : ByteArray := prog_9_method_8_code
def yX7_isGroup : MethodName := ⟨RX7, "isGroup", "(I)Z"⟩
abbrev cX7_isRow : ByteArray := prog_9_method_9_code
def yX7_isRow : MethodName := ⟨RX7, "isRow", "(I)Z"⟩
abbrev cX7_row : ByteArray := prog_9_method_10_code
def yX7_row : MethodName := ⟨RX7, "row", "(III)I"⟩
abbrev cX7_noRow : ByteArray := prog_9_method_11_code
def yX7_noRow : MethodName := ⟨RX7, "noRow", "(I)I"⟩
abbrev cX7_set : ByteArray := prog_9_method_12_code
def yX7_set : MethodName := ⟨RX7, "set", "(IIJ)I"⟩
abbrev cX7_copy : ByteArray := prog_9_method_13_code
def yX7_copy : MethodName := ⟨RX7, "copy", "(IIIII)I"⟩
abbrev cX7_element : ByteArray := prog_9_method_14_code
def yX7_element : MethodName := ⟨RX7, "element", "(II)J"⟩
abbrev cX7_show : ByteArray := prog_9_method_15_code
def yX7_show : MethodName := ⟨RX7, "show", "(II)I"⟩
abbrev cX7_holds : ByteArray := prog_9_method_16_code
def yX7_holds : MethodName := ⟨RX7, "holds", "(I)I"⟩
abbrev cX7_above : ByteArray := prog_9_method_17_code
def yX7_above : MethodName := ⟨RX7, "above", "(I)I"⟩
abbrev cX7_isUnder : ByteArray := prog_9_method_18_code
def yX7_isUnder : MethodName := ⟨RX7, "isUnder", "(II)Z"⟩
abbrev cX7_says : ByteArray := prog_9_method_19_code
def yX7_says : MethodName := ⟨RX7, "says", "(II)I"⟩
abbrev cX7_newQuestion : ByteArray := prog_9_method_20_code
def yX7_newQuestion : MethodName := ⟨RX7, "newQuestion", "(II)I"⟩
abbrev cX7_question : ByteArray := prog_9_method_21_code
def yX7_question : MethodName := ⟨RX7, "question", "(II)I"⟩
abbrev cX7_newGroup : ByteArray := prog_9_method_22_code
def yX7_newGroup : MethodName := ⟨RX7, "newGroup", "(IIIII)I"⟩
abbrev cX7_group : ByteArray := prog_9_method_23_code
def yX7_group : MethodName := ⟨RX7, "group", "(IIIII)I"⟩
abbrev cX7_questionOf : ByteArray := prog_9_method_24_code
def yX7_questionOf : MethodName := ⟨RX7, "questionOf", "(II)I"⟩
abbrev cX7_groupOf : ByteArray := prog_9_method_25_code
def yX7_groupOf : MethodName := ⟨RX7, "groupOf", "(II)I"⟩
abbrev cX7_bears : ByteArray := prog_9_method_26_code
def yX7_bears : MethodName := ⟨RX7, "bears", "(III)I"⟩
abbrev cX7_ask : ByteArray := prog_9_method_27_code
def yX7_ask : MethodName := ⟨RX7, "ask", "(II)I"⟩
abbrev cX7_sign : ByteArray := prog_9_method_28_code
def yX7_sign : MethodName := ⟨RX7, "sign", "()I"⟩
abbrev cX7_is : ByteArray := prog_9_method_29_code
def yX7_is : MethodName := ⟨RX7, "is", "(C)Z"⟩
abbrev cX7_word : ByteArray := prog_9_method_30_code
def yX7_word : MethodName := ⟨RX7, "word", "(Ljava/lang/String;)Z"⟩
abbrev cX7_word_ : ByteArray := prog_9_method_31_code
def yX7_word_ : MethodName := ⟨RX7, "word", "(Ljava/lang/String;Z)Z"⟩
abbrev cX7_number : ByteArray := prog_9_method_32_code
def yX7_number : MethodName := ⟨RX7, "number", "(III)Z"⟩
abbrev cX7_stands : ByteArray := prog_9_method_33_code
def yX7_stands : MethodName := ⟨RX7, "stands", "(IZ)Z"⟩
abbrev cX7_two : ByteArray := prog_9_method_34_code
def yX7_two : MethodName := ⟨RX7, "two", "()Z"⟩
abbrev cX7_item : ByteArray := prog_9_method_35_code
def yX7_item : MethodName := ⟨RX7, "item", "()Z"⟩
abbrev cX7_town : ByteArray := prog_9_method_36_code
def yX7_town : MethodName := ⟨RX7, "town", "(I)I"⟩
abbrev cX7_fault : ByteArray := prog_9_method_37_code
def yX7_fault : MethodName := ⟨RX7, "fault", "()I"⟩
abbrev cX7_yesOf : ByteArray := prog_9_method_38_code
def yX7_yesOf : MethodName := ⟨RX7, "yesOf", "(IIII)I"⟩
abbrev cX7_yesBy : ByteArray := prog_9_method_39_code
def yX7_yesBy : MethodName := ⟨RX7, "yesBy", "(III)I"⟩
abbrev cX7_yes : ByteArray := prog_9_method_40_code
def yX7_yes : MethodName := ⟨RX7, "yes", "(III)I"⟩
abbrev cX7_all : ByteArray := prog_9_method_41_code
def yX7_all : MethodName := ⟨RX7, "all", "(I)I"⟩
abbrev cX7_people : ByteArray := prog_9_method_42_code
def yX7_people : MethodName := ⟨RX7, "people", "()I"⟩
abbrev cX7_thousandths : ByteArray := prog_9_method_43_code
def yX7_thousandths : MethodName := ⟨RX7, "thousandths", "(II)I"⟩
abbrev cX7_shareOf : ByteArray := prog_9_method_44_code
def yX7_shareOf : MethodName := ⟨RX7, "shareOf", "(I)I"⟩
abbrev cX7_tries : ByteArray := prog_9_method_45_code
def yX7_tries : MethodName := ⟨RX7, "tries", "(I)I"⟩
abbrev cX7_answered : ByteArray := prog_9_method_46_code
def yX7_answered : MethodName := ⟨RX7, "answered", "(I)I"⟩
abbrev cX7_answeredLate : ByteArray := prog_9_method_47_code
def yX7_answeredLate : MethodName := ⟨RX7, "answeredLate", "(I)I"⟩
abbrev cX7_shareOfAnswers : ByteArray := prog_9_method_48_code
def yX7_shareOfAnswers : MethodName := ⟨RX7, "shareOfAnswers", "(II)I"⟩
abbrev cX7_isTries : ByteArray := prog_9_method_49_code
def yX7_isTries : MethodName := ⟨RX7, "isTries", "(I)Z"⟩
abbrev cX7_answers : ByteArray := prog_9_method_50_code
def yX7_answers : MethodName := ⟨RX7, "answers", "(II)I"⟩
abbrev cX7_offBy : ByteArray := prog_9_method_51_code
def yX7_offBy : MethodName := ⟨RX7, "offBy", "(II)I"⟩
abbrev cX7_by : ByteArray := prog_9_method_52_code
def yX7_by : MethodName := ⟨RX7, "by", "(III)I"⟩
abbrev cX7_hold : ByteArray := prog_9_method_53_code
def yX7_hold : MethodName := ⟨RX7, "hold", "()I"⟩
abbrev cX7_wrongOf : ByteArray := prog_9_method_54_code
def yX7_wrongOf : MethodName := ⟨RX7, "wrongOf", "(I)I"⟩
abbrev cX7_shareIn : ByteArray := prog_9_method_55_code
def yX7_shareIn : MethodName := ⟨RX7, "shareIn", "([II)I"⟩
abbrev cX7_leansOf : ByteArray := prog_9_method_56_code
def yX7_leansOf : MethodName := ⟨RX7, "leansOf", "([II)I"⟩
abbrev cX7_next : ByteArray := prog_9_method_57_code
def yX7_next : MethodName := ⟨RX7, "next", "()Z"⟩
abbrev cX7_swap : ByteArray := prog_9_method_58_code
def yX7_swap : MethodName := ⟨RX7, "swap", "(II)V"⟩
abbrev cX7_order : ByteArray := prog_9_method_59_code
def yX7_order : MethodName := ⟨RX7, "order", "(II)I"⟩
abbrev cX7_blame : ByteArray := prog_9_method_60_code
def yX7_blame : MethodName := ⟨RX7, "blame", "()I"⟩
abbrev cX7_nothing : ByteArray := prog_9_method_61_code
def yX7_nothing : MethodName := ⟨RX7, "nothing", "(II)I"⟩
abbrev cX7_enough : ByteArray := prog_9_method_62_code
def yX7_enough : MethodName := ⟨RX7, "enough", "(II)I"⟩
abbrev cX7_costOf : ByteArray := prog_9_method_63_code
def yX7_costOf : MethodName := ⟨RX7, "costOf", "(I)I"⟩
abbrev cX7_cost : ByteArray := prog_9_method_64_code
def yX7_cost : MethodName := ⟨RX7, "cost", "(I)I"⟩
abbrev cX7_fine : ByteArray := prog_9_method_65_code
def yX7_fine : MethodName := ⟨RX7, "fine", "(II)I"⟩
abbrev cX7_never : ByteArray := prog_9_method_66_code
def yX7_never : MethodName := ⟨RX7, "never", "()I"⟩
abbrev cX7_late : ByteArray := prog_9_method_67_code
def yX7_late : MethodName := ⟨RX7, "late", "(II)I"⟩
abbrev cX7_fits : ByteArray := prog_9_method_68_code
def yX7_fits : MethodName := ⟨RX7, "fits", "(II)I"⟩
abbrev cX7_shareOfHalf : ByteArray := prog_9_method_69_code
def yX7_shareOfHalf : MethodName := ⟨RX7, "shareOfHalf", "(II)I"⟩
abbrev cX7_halves : ByteArray := prog_9_method_70_code
def yX7_halves : MethodName := ⟨RX7, "halves", "(I)I"⟩
abbrev cX7_twin : ByteArray := prog_9_method_71_code
def yX7_twin : MethodName := ⟨RX7, "twin", "(I)I"⟩
abbrev cX7_nearest : ByteArray := prog_9_method_72_code
def yX7_nearest : MethodName := ⟨RX7, "nearest", "()I"⟩
abbrev cX7_shareMoved : ByteArray := prog_9_method_73_code
def yX7_shareMoved : MethodName := ⟨RX7, "shareMoved", "(II)I"⟩
abbrev cX7_move : ByteArray := prog_9_method_74_code
def yX7_move : MethodName := ⟨RX7, "move", "(II)I"⟩
abbrev cX7_told : ByteArray := prog_9_method_75_code
def yX7_told : MethodName := ⟨RX7, "told", "(II)I"⟩
abbrev cX7_noRound : ByteArray := prog_9_method_76_code
def yX7_noRound : MethodName := ⟨RX7, "noRound", "(II)I"⟩
abbrev cX7_wrong : ByteArray := prog_9_method_77_code
def yX7_wrong : MethodName := ⟨RX7, "wrong", "(II)I"⟩
abbrev cX7_judge : ByteArray := prog_9_method_78_code
def yX7_judge : MethodName := ⟨RX7, "judge", "(II)I"⟩
abbrev cX7_round : ByteArray := prog_9_method_79_code
def yX7_round : MethodName := ⟨RX7, "round", "(III)I"⟩
abbrev cX7_change : ByteArray := prog_9_method_80_code
def yX7_change : MethodName := ⟨RX7, "change", "(III)I"⟩
abbrev cX7_draw : ByteArray := prog_9_method_81_code
def yX7_draw : MethodName := ⟨RX7, "draw", "(I)I"⟩
abbrev cX7_doors : ByteArray := prog_9_method_82_code
def yX7_doors : MethodName := ⟨RX7, "doors", "(I)I"⟩
abbrev cX7_seed : ByteArray := prog_9_method_83_code
def yX7_seed : MethodName := ⟨RX7, "seed", "(I)I"⟩
abbrev cX7_ran : ByteArray := prog_9_method_84_code
def yX7_ran : MethodName := ⟨RX7, "ran", "(I)V"⟩
abbrev cX7_asksBy : ByteArray := prog_9_method_85_code
def yX7_asksBy : MethodName := ⟨RX7, "asksBy", "(II)I"⟩
abbrev cX7_leansBy : ByteArray := prog_9_method_86_code
def yX7_leansBy : MethodName := ⟨RX7, "leansBy", "(II)I"⟩
abbrev cX7_sumsBy : ByteArray := prog_9_method_87_code
def yX7_sumsBy : MethodName := ⟨RX7, "sumsBy", "(II)I"⟩
abbrev cX7_act : ByteArray := prog_9_method_88_code
def yX7_act : MethodName := ⟨RX7, "act", "(III)I"⟩
abbrev cX7_trace : ByteArray := prog_9_method_89_code
def yX7_trace : MethodName := ⟨RX7, "trace", "(I)I"⟩
abbrev cX7_keep : ByteArray := prog_9_method_90_code
def yX7_keep : MethodName := ⟨RX7, "keep", "([I)V"⟩
abbrev cX7_again : ByteArray := prog_9_method_91_code
def yX7_again : MethodName := ⟨RX7, "again", "([I)V"⟩
abbrev cX7_image : ByteArray := prog_9_method_92_code
def yX7_image : MethodName := ⟨RX7, "image", "()I"⟩
abbrev cX7_restore : ByteArray := prog_9_method_93_code
def yX7_restore : MethodName := ⟨RX7, "restore", "()I"⟩
abbrev cX7_status : ByteArray := prog_9_method_94_code
def yX7_status : MethodName := ⟨RX7, "status", "(I)I"⟩
def RJ6 : String := "java/lang/Integer"
def TJ6 : u_T := fun k => match k with
  | _ => ("", "", "", false)
def tyJ6 : Nat → FieldType := fun k => match k with
  | _ => .int
abbrev wsJ60 : List Cond := u_ws RJ6 TJ6 0
theorem nmJ6 : ∀ a, a < 0 → ∀ b, b < 0 → a ≠ b → (TJ6 a).2.1 ≠ (TJ6 b).2.1 := by decide +kernel
theorem tyJ6_ok : ∀ k, k < 0 → parseFieldDescriptor (TJ6 k).2.2.1 = some (tyJ6 k) := by decide +kernel
abbrev cJ6_bitCount_0f7a4 : ByteArray := prog_10_method_49_code
def yJ6_bitCount_0f7a4 : MethodName := ⟨RJ6, "bitCount", "(I)I"⟩
def RJ9 : String := "java/lang/Math"
def TJ9 : u_T := fun k => match k with
  | _ => ("", "", "", false)
def tyJ9 : Nat → FieldType := fun k => match k with
  | _ => .int
abbrev wsJ90 : List Cond := u_ws RJ9 TJ9 0
theorem nmJ9 : ∀ a, a < 0 → ∀ b, b < 0 → a ≠ b → (TJ9 a).2.1 ≠ (TJ9 b).2.1 := by decide +kernel
theorem tyJ9_ok : ∀ k, k < 0 → parseFieldDescriptor (TJ9 k).2.2.1 = some (tyJ9 k) := by decide +kernel
abbrev cJ9_abs_0f7a4 : ByteArray := prog_11_method_59_code
def yJ9_abs_0f7a4 : MethodName := ⟨RJ9, "abs", "(I)I"⟩
abbrev cJ9_max_7cf53 : ByteArray := prog_11_method_65_code
def yJ9_max_7cf53 : MethodName := ⟨RJ9, "max", "(II)I"⟩
abbrev cJ9_min_7cf53 : ByteArray := prog_11_method_69_code
def yJ9_min_7cf53 : MethodName := ⟨RJ9, "min", "(II)I"⟩
def RJ0 : String := "java/lang/String"
def TJ0 : u_T := fun k => match k with
  | _ => ("", "", "", false)
def tyJ0 : Nat → FieldType := fun k => match k with
  | _ => .int
abbrev wsJ00 : List Cond := u_ws RJ0 TJ0 0
theorem nmJ0 : ∀ a, a < 0 → ∀ b, b < 0 → a ≠ b → (TJ0 a).2.1 ≠ (TJ0 b).2.1 := by decide +kernel
theorem tyJ0_ok : ∀ k, k < 0 → parseFieldDescriptor (TJ0 k).2.2.1 = some (tyJ0 k) := by decide +kernel
abbrev cJ0_length_8abf5 : ByteArray := prog_12_method_54_code
def yJ0_length_8abf5 : MethodName := ⟨RJ0, "length", "()I"⟩
abbrev cJ0_charAt_5068e : ByteArray := prog_12_method_56_code
def yJ0_charAt_5068e : MethodName := ⟨RJ0, "charAt", "(I)C"⟩
abbrev cJ0_coder_7d493 : ByteArray := prog_12_method_152_code
def yJ0_coder_7d493 : MethodName := ⟨RJ0, "coder", "()B"⟩
abbrev cJ0_isLatin1_aae02 : ByteArray := prog_12_method_154_code
def yJ0_isLatin1_aae02 : MethodName := ⟨RJ0, "isLatin1", "()Z"⟩
abbrev cJ0_checkIndex_df160 : ByteArray := prog_12_method_155_code
def yJ0_checkIndex_df160 : MethodName := ⟨RJ0, "checkIndex", "(II)V"⟩
def RJ1 : String := "java/lang/StringLatin1"
def TJ1 : u_T := fun k => match k with
  | _ => ("", "", "", false)
def tyJ1 : Nat → FieldType := fun k => match k with
  | _ => .int
abbrev wsJ10 : List Cond := u_ws RJ1 TJ1 0
theorem nmJ1 : ∀ a, a < 0 → ∀ b, b < 0 → a ≠ b → (TJ1 a).2.1 ≠ (TJ1 b).2.1 := by decide +kernel
theorem tyJ1_ok : ∀ k, k < 0 → parseFieldDescriptor (TJ1 k).2.2.1 = some (tyJ1 k) := by decide +kernel
abbrev cJ1_charAt_3b067 : ByteArray := prog_13_method_2_code
def yJ1_charAt_3b067 : MethodName := ⟨RJ1, "charAt", "([BI)C"⟩
def RJ2 : String := "java/lang/StringUTF16"
def TJ2 : u_T := fun k => match k with
  | _ => ("", "", "", false)
def tyJ2 : Nat → FieldType := fun k => match k with
  | _ => .int
abbrev wsJ20 : List Cond := u_ws RJ2 TJ2 0
theorem nmJ2 : ∀ a, a < 0 → ∀ b, b < 0 → a ≠ b → (TJ2 a).2.1 ≠ (TJ2 b).2.1 := by decide +kernel
theorem tyJ2_ok : ∀ k, k < 0 → parseFieldDescriptor (TJ2 k).2.2.1 = some (tyJ2 k) := by decide +kernel
abbrev cJ2_getChar_3b067 : ByteArray := prog_14_method_5_code
def yJ2_getChar_3b067 : MethodName := ⟨RJ2, "getChar", "([BI)C"⟩
abbrev cJ2_length_9d52b : ByteArray := prog_14_method_6_code
def yJ2_length_9d52b : MethodName := ⟨RJ2, "length", "([B)I"⟩
abbrev cJ2_charAt_3b067 : ByteArray := prog_14_method_83_code
def yJ2_charAt_3b067 : MethodName := ⟨RJ2, "charAt", "([BI)C"⟩
abbrev cJ2_checkIndex_2214a : ByteArray := prog_14_method_91_code
def yJ2_checkIndex_2214a : MethodName := ⟨RJ2, "checkIndex", "(I[B)V"⟩
def RJ10 : String := "java/lang/System"
def TJ10 : u_T := fun k => match k with
  | _ => ("", "", "", false)
def tyJ10 : Nat → FieldType := fun k => match k with
  | _ => .int
abbrev wsJ100 : List Cond := u_ws RJ10 TJ10 0
theorem nmJ10 : ∀ a, a < 0 → ∀ b, b < 0 → a ≠ b → (TJ10 a).2.1 ≠ (TJ10 b).2.1 := by decide +kernel
theorem tyJ10_ok : ∀ k, k < 0 → parseFieldDescriptor (TJ10 k).2.2.1 = some (tyJ10 k) := by decide +kernel
def RJ3 : String := "jdk/internal/util/Preconditions"
def TJ3 : u_T := fun k => match k with
  | _ => ("", "", "", false)
def tyJ3 : Nat → FieldType := fun k => match k with
  | _ => .int
abbrev wsJ30 : List Cond := u_ws RJ3 TJ3 0
theorem nmJ3 : ∀ a, a < 0 → ∀ b, b < 0 → a ≠ b → (TJ3 a).2.1 ≠ (TJ3 b).2.1 := by decide +kernel
theorem tyJ3_ok : ∀ k, k < 0 → parseFieldDescriptor (TJ3 k).2.2.1 = some (tyJ3 k) := by decide +kernel
abbrev cJ3_checkIndex_8e157 : ByteArray := prog_16_method_11_code
def yJ3_checkIndex_8e157 : MethodName := ⟨RJ3, "checkIndex", "(IILjava/util/function/BiFunction;)I"⟩
def RL : String := "AskedTheOtherWayAboutLaw"
abbrev cL_law : ByteArray := code
def yL_law : MethodName := ⟨RL, "law", "([I)Z"⟩
abbrev vwCl : List vw_C := [(RX0, TX0, 5), (RX1, TX1, 2), (RX2, TX2, 3), (RX3, TX3, 10), (RX4, TX4, 5), (RX6, TX6, 9), (RX7, TX7, 33)]
end
section
/-- the tables' words that hold of warmer tables too: the words of every contract -/
def big : List Cond := lw_tbl.filter goodWord
theorem big_in : ∀ w ∈ big, w ∈ lw_tbl := fun w h => (List.mem_filter.mp h).1
theorem big_good : GoodIn big big := fun w h => ⟨h, good_of_word (List.mem_filter.mp h).2⟩
theorem big_0 {w : Cond} (h : w ∈ k2_sels lw_privs) (g : goodWord w = true) : w ∈ big := List.mem_filter.mpr ⟨List.mem_append_left _ h, g⟩
theorem big_1 {w : Cond} (h : w ∈ tables_1_1) (g : goodWord w = true) : w ∈ big := List.mem_filter.mpr ⟨List.mem_append_right _ (List.mem_append_left _ h), g⟩
theorem big_2 {w : Cond} (h : w ∈ tables_1_2) (g : goodWord w = true) : w ∈ big := List.mem_filter.mpr ⟨List.mem_append_right _ (List.mem_append_right _ (List.mem_append_left _ h)), g⟩
theorem big_3 {w : Cond} (h : w ∈ tables_1_3) (g : goodWord w = true) : w ∈ big := List.mem_filter.mpr ⟨List.mem_append_right _ (List.mem_append_right _ (List.mem_append_right _ (List.mem_append_left _ h))), g⟩
theorem big_4 {w : Cond} (h : w ∈ tables_1_4) (g : goodWord w = true) : w ∈ big := List.mem_filter.mpr ⟨List.mem_append_right _ (List.mem_append_right _ (List.mem_append_right _ (List.mem_append_right _ (List.mem_append_left _ h)))), g⟩
theorem big_5 {w : Cond} (h : w ∈ tables_1_5) (g : goodWord w = true) : w ∈ big := List.mem_filter.mpr ⟨List.mem_append_right _ (List.mem_append_right _ (List.mem_append_right _ (List.mem_append_right _ (List.mem_append_right _ (List.mem_append_left _ h))))), g⟩
theorem big_6 {w : Cond} (h : w ∈ tables_1_6) (g : goodWord w = true) : w ∈ big := List.mem_filter.mpr ⟨List.mem_append_right _ (List.mem_append_right _ (List.mem_append_right _ (List.mem_append_right _ (List.mem_append_right _ (List.mem_append_right _ (h)))))), g⟩
theorem me_X6_refuse : Cond.selects RX6 yX6_refuse yX6_refuse ∈ big := big_0 (List.mem_of_getElem? (i := 0) rfl) rfl
theorem me_X2_holdsQuestion : Cond.selects RX2 yX2_holdsQuestion yX2_holdsQuestion ∈ big := big_0 (List.mem_of_getElem? (i := 1) rfl) rfl
theorem me_X2_holdsRow : Cond.selects RX2 yX2_holdsRow yX2_holdsRow ∈ big := big_0 (List.mem_of_getElem? (i := 2) rfl) rfl
theorem me_X6_refuseFarBelow : Cond.selects RX6 yX6_refuseFarBelow yX6_refuseFarBelow ∈ big := big_0 (List.mem_of_getElem? (i := 3) rfl) rfl
theorem me_X4_readItem : Cond.selects RX4 yX4_readItem yX4_readItem ∈ big := big_0 (List.mem_of_getElem? (i := 4) rfl) rfl
theorem me_X4_letterHere : Cond.selects RX4 yX4_letterHere yX4_letterHere ∈ big := big_0 (List.mem_of_getElem? (i := 5) rfl) rfl
theorem me_X4_readGroup : Cond.selects RX4 yX4_readGroup yX4_readGroup ∈ big := big_0 (List.mem_of_getElem? (i := 6) rfl) rfl
theorem me_X4_readWord : Cond.selects RX4 yX4_readWord yX4_readWord ∈ big := big_0 (List.mem_of_getElem? (i := 7) rfl) rfl
theorem me_X4_readLetter : Cond.selects RX4 yX4_readLetter yX4_readLetter ∈ big := big_0 (List.mem_of_getElem? (i := 8) rfl) rfl
theorem me_X4_faultAt : Cond.selects RX4 yX4_faultAt yX4_faultAt ∈ big := big_0 (List.mem_of_getElem? (i := 9) rfl) rfl
theorem me_X4_readNumber : Cond.selects RX4 yX4_readNumber yX4_readNumber ∈ big := big_0 (List.mem_of_getElem? (i := 10) rfl) rfl
theorem me_X4_readQuestion : Cond.selects RX4 yX4_readQuestion yX4_readQuestion ∈ big := big_0 (List.mem_of_getElem? (i := 11) rfl) rfl
theorem me_X4_readBearing : Cond.selects RX4 yX4_readBearing yX4_readBearing ∈ big := big_0 (List.mem_of_getElem? (i := 12) rfl) rfl
theorem me_X1_leastOf : Cond.selects RX1 yX1_leastOf yX1_leastOf ∈ big := big_0 (List.mem_of_getElem? (i := 13) rfl) rfl
theorem me_X1_leansWithFirst : Cond.selects RX1 yX1_leansWithFirst yX1_leansWithFirst ∈ big := big_0 (List.mem_of_getElem? (i := 14) rfl) rfl
theorem me_X1_firstOf : Cond.selects RX1 yX1_firstOf yX1_firstOf ∈ big := big_0 (List.mem_of_getElem? (i := 15) rfl) rfl
theorem me_X6_refuseBelowNone : Cond.selects RX6 yX6_refuseBelowNone yX6_refuseBelowNone ∈ big := big_0 (List.mem_of_getElem? (i := 16) rfl) rfl
theorem me_X6_refusalOfRound : Cond.selects RX6 yX6_refusalOfRound yX6_refusalOfRound ∈ big := big_0 (List.mem_of_getElem? (i := 17) rfl) rfl
theorem me_X6_wrongOfRound : Cond.selects RX6 yX6_wrongOfRound yX6_wrongOfRound ∈ big := big_0 (List.mem_of_getElem? (i := 18) rfl) rfl
theorem me_X6_leansOfRound : Cond.selects RX6 yX6_leansOfRound yX6_leansOfRound ∈ big := big_0 (List.mem_of_getElem? (i := 19) rfl) rfl
theorem me_X6_shareInRound : Cond.selects RX6 yX6_shareInRound yX6_shareInRound ∈ big := big_0 (List.mem_of_getElem? (i := 20) rfl) rfl
theorem me_X3_draw : Cond.selects RX3 yX3_draw yX3_draw ∈ big := big_0 (List.mem_of_getElem? (i := 21) rfl) rfl
theorem me_X0_asksFrom : Cond.selects RX0 yX0_asksFrom yX0_asksFrom ∈ big := big_0 (List.mem_of_getElem? (i := 22) rfl) rfl
theorem me_X0_begin : Cond.selects RX0 yX0_begin yX0_begin ∈ big := big_0 (List.mem_of_getElem? (i := 23) rfl) rfl
theorem me_X0_leansFrom : Cond.selects RX0 yX0_leansFrom yX0_leansFrom ∈ big := big_0 (List.mem_of_getElem? (i := 24) rfl) rfl
theorem me_X0_sumsFrom : Cond.selects RX0 yX0_sumsFrom yX0_sumsFrom ∈ big := big_0 (List.mem_of_getElem? (i := 25) rfl) rfl
theorem me_X7_no : Cond.selects RX7 yX7_no yX7_no ∈ big := big_0 (List.mem_of_getElem? (i := 26) rfl) rfl
theorem me_X7_noRow : Cond.selects RX7 yX7_noRow yX7_noRow ∈ big := big_0 (List.mem_of_getElem? (i := 27) rfl) rfl
theorem me_X7_isRow : Cond.selects RX7 yX7_isRow yX7_isRow ∈ big := big_0 (List.mem_of_getElem? (i := 28) rfl) rfl
theorem me_X7_isQuestion : Cond.selects RX7 yX7_isQuestion yX7_isQuestion ∈ big := big_0 (List.mem_of_getElem? (i := 29) rfl) rfl
theorem me_X7_shareOf : Cond.selects RX7 yX7_shareOf yX7_shareOf ∈ big := big_0 (List.mem_of_getElem? (i := 30) rfl) rfl
theorem me_X7_all : Cond.selects RX7 yX7_all yX7_all ∈ big := big_0 (List.mem_of_getElem? (i := 31) rfl) rfl
theorem me_X7_yesBy : Cond.selects RX7 yX7_yesBy yX7_yesBy ∈ big := big_0 (List.mem_of_getElem? (i := 32) rfl) rfl
theorem me_X7_yesOf : Cond.selects RX7 yX7_yesOf yX7_yesOf ∈ big := big_0 (List.mem_of_getElem? (i := 33) rfl) rfl
theorem me_X7_people : Cond.selects RX7 yX7_people yX7_people ∈ big := big_0 (List.mem_of_getElem? (i := 34) rfl) rfl
theorem me_X7_newQuestion : Cond.selects RX7 yX7_newQuestion yX7_newQuestion ∈ big := big_0 (List.mem_of_getElem? (i := 35) rfl) rfl
theorem me_X7_newGroup : Cond.selects RX7 yX7_newGroup yX7_newGroup ∈ big := big_0 (List.mem_of_getElem? (i := 36) rfl) rfl
theorem me_X7_noMuch : Cond.selects RX7 yX7_noMuch yX7_noMuch ∈ big := big_0 (List.mem_of_getElem? (i := 37) rfl) rfl
theorem me_X7_wrongOf : Cond.selects RX7 yX7_wrongOf yX7_wrongOf ∈ big := big_0 (List.mem_of_getElem? (i := 38) rfl) rfl
theorem me_X7_isGroup : Cond.selects RX7 yX7_isGroup yX7_isGroup ∈ big := big_0 (List.mem_of_getElem? (i := 39) rfl) rfl
theorem me_X7_keep : Cond.selects RX7 yX7_keep yX7_keep ∈ big := big_0 (List.mem_of_getElem? (i := 40) rfl) rfl
theorem me_X7_item : Cond.selects RX7 yX7_item yX7_item ∈ big := big_0 (List.mem_of_getElem? (i := 41) rfl) rfl
theorem me_X7_sign : Cond.selects RX7 yX7_sign yX7_sign ∈ big := big_0 (List.mem_of_getElem? (i := 42) rfl) rfl
theorem me_X7_word_ : Cond.selects RX7 yX7_word_ yX7_word_ ∈ big := big_0 (List.mem_of_getElem? (i := 43) rfl) rfl
theorem me_X7_word : Cond.selects RX7 yX7_word yX7_word ∈ big := big_0 (List.mem_of_getElem? (i := 44) rfl) rfl
theorem me_X7_is : Cond.selects RX7 yX7_is yX7_is ∈ big := big_0 (List.mem_of_getElem? (i := 45) rfl) rfl
theorem me_X7_number : Cond.selects RX7 yX7_number yX7_number ∈ big := big_0 (List.mem_of_getElem? (i := 46) rfl) rfl
theorem me_X7_two : Cond.selects RX7 yX7_two yX7_two ∈ big := big_0 (List.mem_of_getElem? (i := 47) rfl) rfl
theorem me_X7_stands : Cond.selects RX7 yX7_stands yX7_stands ∈ big := big_0 (List.mem_of_getElem? (i := 48) rfl) rfl
theorem me_X7_again : Cond.selects RX7 yX7_again yX7_again ∈ big := big_0 (List.mem_of_getElem? (i := 49) rfl) rfl
theorem me_X7_answered : Cond.selects RX7 yX7_answered yX7_answered ∈ big := big_0 (List.mem_of_getElem? (i := 50) rfl) rfl
theorem me_X7_tries : Cond.selects RX7 yX7_tries yX7_tries ∈ big := big_0 (List.mem_of_getElem? (i := 51) rfl) rfl
theorem me_X7_shareOfAnswers : Cond.selects RX7 yX7_shareOfAnswers yX7_shareOfAnswers ∈ big := big_0 (List.mem_of_getElem? (i := 52) rfl) rfl
theorem me_X7_offBy : Cond.selects RX7 yX7_offBy yX7_offBy ∈ big := big_0 (List.mem_of_getElem? (i := 53) rfl) rfl
theorem me_X7_leansOf : Cond.selects RX7 yX7_leansOf yX7_leansOf ∈ big := big_0 (List.mem_of_getElem? (i := 54) rfl) rfl
theorem me_X7_shareIn : Cond.selects RX7 yX7_shareIn yX7_shareIn ∈ big := big_0 (List.mem_of_getElem? (i := 55) rfl) rfl
theorem me_X7_next : Cond.selects RX7 yX7_next yX7_next ∈ big := big_0 (List.mem_of_getElem? (i := 56) rfl) rfl
theorem me_X7_swap : Cond.selects RX7 yX7_swap yX7_swap ∈ big := big_0 (List.mem_of_getElem? (i := 57) rfl) rfl
theorem me_X7_no10 : Cond.selects RX7 yX7_no10 yX7_no10 ∈ big := big_0 (List.mem_of_getElem? (i := 58) rfl) rfl
theorem me_X7_costOf : Cond.selects RX7 yX7_costOf yX7_costOf ∈ big := big_0 (List.mem_of_getElem? (i := 59) rfl) rfl
theorem me_X7_answeredLate : Cond.selects RX7 yX7_answeredLate yX7_answeredLate ∈ big := big_0 (List.mem_of_getElem? (i := 60) rfl) rfl
theorem me_X7_shareOfHalf : Cond.selects RX7 yX7_shareOfHalf yX7_shareOfHalf ∈ big := big_0 (List.mem_of_getElem? (i := 61) rfl) rfl
theorem me_X7_shareMoved : Cond.selects RX7 yX7_shareMoved yX7_shareMoved ∈ big := big_0 (List.mem_of_getElem? (i := 62) rfl) rfl
theorem me_X7_noRound : Cond.selects RX7 yX7_noRound yX7_noRound ∈ big := big_0 (List.mem_of_getElem? (i := 63) rfl) rfl
theorem me_X7_wrong : Cond.selects RX7 yX7_wrong yX7_wrong ∈ big := big_0 (List.mem_of_getElem? (i := 64) rfl) rfl
theorem me_X7_told : Cond.selects RX7 yX7_told yX7_told ∈ big := big_0 (List.mem_of_getElem? (i := 65) rfl) rfl
theorem me_X7_draw : Cond.selects RX7 yX7_draw yX7_draw ∈ big := big_0 (List.mem_of_getElem? (i := 66) rfl) rfl
theorem me_X7_asksBy : Cond.selects RX7 yX7_asksBy yX7_asksBy ∈ big := big_0 (List.mem_of_getElem? (i := 67) rfl) rfl
theorem me_X7_ran : Cond.selects RX7 yX7_ran yX7_ran ∈ big := big_0 (List.mem_of_getElem? (i := 68) rfl) rfl
theorem me_X7_leansBy : Cond.selects RX7 yX7_leansBy yX7_leansBy ∈ big := big_0 (List.mem_of_getElem? (i := 69) rfl) rfl
theorem me_X7_sumsBy : Cond.selects RX7 yX7_sumsBy yX7_sumsBy ∈ big := big_0 (List.mem_of_getElem? (i := 70) rfl) rfl
theorem mt_L : Cond.initialized RL ∈ big := big_1 (List.mem_of_getElem? (i := 0) rfl) rfl
theorem mt_X6 : Cond.initialized RX6 ∈ big := big_1 (List.mem_of_getElem? (i := 1) rfl) rfl
theorem mt_X3 : Cond.initialized RX3 ∈ big := big_1 (List.mem_of_getElem? (i := 2) rfl) rfl
theorem mt_X1 : Cond.initialized RX1 ∈ big := big_1 (List.mem_of_getElem? (i := 3) rfl) rfl
theorem mt_X2 : Cond.initialized RX2 ∈ big := big_1 (List.mem_of_getElem? (i := 4) rfl) rfl
theorem mt_X4 : Cond.initialized RX4 ∈ big := big_1 (List.mem_of_getElem? (i := 5) rfl) rfl
theorem mt_X0 : Cond.initialized RX0 ∈ big := big_1 (List.mem_of_getElem? (i := 6) rfl) rfl
theorem mt_X7 : Cond.initialized RX7 ∈ big := big_1 (List.mem_of_getElem? (i := 7) rfl) rfl
theorem mt_J10 : Cond.initialized RJ10 ∈ big := big_1 (List.mem_of_getElem? (i := 8) rfl) rfl
theorem mt_J9 : Cond.initialized RJ9 ∈ big := big_1 (List.mem_of_getElem? (i := 9) rfl) rfl
theorem mt_J0 : Cond.initialized RJ0 ∈ big := big_1 (List.mem_of_getElem? (i := 10) rfl) rfl
theorem mt_J1 : Cond.initialized RJ1 ∈ big := big_1 (List.mem_of_getElem? (i := 11) rfl) rfl
theorem mt_J3 : Cond.initialized RJ3 ∈ big := big_1 (List.mem_of_getElem? (i := 12) rfl) rfl
theorem mt_J2 : Cond.initialized RJ2 ∈ big := big_1 (List.mem_of_getElem? (i := 13) rfl) rfl
theorem mt_X5 : Cond.initialized RX5 ∈ big := big_1 (List.mem_of_getElem? (i := 14) rfl) rfl
theorem mt_J6 : Cond.initialized RJ6 ∈ big := big_1 (List.mem_of_getElem? (i := 15) rfl) rfl
theorem mn_L_7 : Cond.classLink RL 7 RX6 ∈ big := big_1 (List.mem_of_getElem? (i := 16) rfl) rfl
theorem mb_X6 : Cond.instantiable RX6 9 ∈ big := big_1 (List.mem_of_getElem? (i := 17) rfl) rfl
theorem ml_L_9 : Cond.methodLink RL 9 yX6_init ∈ big := big_1 (List.mem_of_getElem? (i := 18) rfl) rfl
theorem mi_X6_init : Cond.instanceMethod yX6_init ∈ big := big_1 (List.mem_of_getElem? (i := 19) rfl) rfl
theorem mc_X6_init : Cond.code yX6_init cX6_init 1 (none) ∈ big := big_1 (List.mem_of_getElem? (i := 20) rfl) rfl
theorem ml_X6_1 : Cond.methodLink RX6 1 objectInit ∈ big := big_1 (List.mem_of_getElem? (i := 21) rfl) rfl
theorem mi_objectInit : Cond.instanceMethod objectInit ∈ big := big_1 (List.mem_of_getElem? (i := 22) rfl) rfl
theorem mc_objectInit : Cond.code objectInit ⟨#[0xb1]⟩ 1 none ∈ big := big_1 (List.mem_of_getElem? (i := 23) rfl) rfl
theorem mn_X6_7 : Cond.classLink RX6 7 RX3 ∈ big := big_1 (List.mem_of_getElem? (i := 24) rfl) rfl
theorem mb_X3 : Cond.instantiable RX3 10 ∈ big := big_1 (List.mem_of_getElem? (i := 25) rfl) rfl
theorem mi_X3_init : Cond.instanceMethod yX3_init ∈ big := big_1 (List.mem_of_getElem? (i := 27) rfl) rfl
theorem mc_X3_init : Cond.code yX3_init cX3_init 1 (none) ∈ big := big_1 (List.mem_of_getElem? (i := 28) rfl) rfl
theorem ml_X3_3 : Cond.methodLink RX3 3 objectInit ∈ big := big_1 (List.mem_of_getElem? (i := 29) rfl) rfl
theorem mf_X3_11 : Cond.fieldLink RX3 11 "AskedTheOtherWayAbout$Town" "questions" "[I" ∈ big := big_1 (List.mem_of_getElem? (i := 30) rfl) rfl
theorem mf_X3_15 : Cond.fieldLink RX3 15 "AskedTheOtherWayAbout$Town" "bearings" "[I" ∈ big := big_1 (List.mem_of_getElem? (i := 31) rfl) rfl
theorem mf_X3_18 : Cond.fieldLink RX3 18 "AskedTheOtherWayAbout$Town" "groups" "[I" ∈ big := big_1 (List.mem_of_getElem? (i := 32) rfl) rfl
theorem mf_X1_18 : Cond.fieldLink RX1 18 "AskedTheOtherWayAbout$Town" "questionCount" "I" ∈ big := big_1 (List.mem_of_getElem? (i := 33) rfl) rfl
theorem mf_X3_34 : Cond.fieldLink RX3 34 "AskedTheOtherWayAbout$Town" "questionCount" "I" ∈ big := big_1 (List.mem_of_getElem? (i := 34) rfl) rfl
theorem mf_X4_98 : Cond.fieldLink RX4 98 "AskedTheOtherWayAbout$Town" "questionCount" "I" ∈ big := big_1 (List.mem_of_getElem? (i := 35) rfl) rfl
theorem mf_X6_239 : Cond.fieldLink RX6 239 "AskedTheOtherWayAbout$Town" "questionCount" "I" ∈ big := big_1 (List.mem_of_getElem? (i := 36) rfl) rfl
theorem mf_X3_37 : Cond.fieldLink RX3 37 "AskedTheOtherWayAbout$Town" "groupCount" "I" ∈ big := big_1 (List.mem_of_getElem? (i := 37) rfl) rfl
theorem mf_X5_21 : Cond.fieldLink RX5 21 "AskedTheOtherWayAbout$Town" "groupCount" "I" ∈ big := big_1 (List.mem_of_getElem? (i := 38) rfl) rfl
theorem mf_X6_285 : Cond.fieldLink RX6 285 "AskedTheOtherWayAbout$Town" "groupCount" "I" ∈ big := big_1 (List.mem_of_getElem? (i := 39) rfl) rfl
theorem mf_X3_21 : Cond.fieldLink RX3 21 "AskedTheOtherWayAbout$Town" "penny" "I" ∈ big := big_1 (List.mem_of_getElem? (i := 40) rfl) rfl
theorem mf_X4_71 : Cond.fieldLink RX4 71 "AskedTheOtherWayAbout$Town" "penny" "I" ∈ big := big_1 (List.mem_of_getElem? (i := 41) rfl) rfl
theorem mf_X5_56 : Cond.fieldLink RX5 56 "AskedTheOtherWayAbout$Town" "penny" "I" ∈ big := big_1 (List.mem_of_getElem? (i := 42) rfl) rfl
theorem mf_X6_170 : Cond.fieldLink RX6 170 "AskedTheOtherWayAbout$Town" "penny" "I" ∈ big := big_1 (List.mem_of_getElem? (i := 43) rfl) rfl
theorem mf_X3_40 : Cond.fieldLink RX3 40 "AskedTheOtherWayAbout$Town" "half" "I" ∈ big := big_1 (List.mem_of_getElem? (i := 44) rfl) rfl
theorem mf_X4_75 : Cond.fieldLink RX4 75 "AskedTheOtherWayAbout$Town" "half" "I" ∈ big := big_1 (List.mem_of_getElem? (i := 45) rfl) rfl
theorem mf_X6_173 : Cond.fieldLink RX6 173 "AskedTheOtherWayAbout$Town" "half" "I" ∈ big := big_1 (List.mem_of_getElem? (i := 46) rfl) rfl
theorem mf_X3_25 : Cond.fieldLink RX3 25 "AskedTheOtherWayAbout$Town" "seed" "I" ∈ big := big_1 (List.mem_of_getElem? (i := 47) rfl) rfl
theorem mf_X6_294 : Cond.fieldLink RX6 294 "AskedTheOtherWayAbout$Town" "seed" "I" ∈ big := big_1 (List.mem_of_getElem? (i := 48) rfl) rfl
theorem mf_X3_43 : Cond.fieldLink RX3 43 "AskedTheOtherWayAbout$Town" "asked" "I" ∈ big := big_1 (List.mem_of_getElem? (i := 49) rfl) rfl
theorem mf_X6_317 : Cond.fieldLink RX6 317 "AskedTheOtherWayAbout$Town" "asked" "I" ∈ big := big_1 (List.mem_of_getElem? (i := 50) rfl) rfl
theorem mf_X3_46 : Cond.fieldLink RX3 46 "AskedTheOtherWayAbout$Town" "yeses" "I" ∈ big := big_1 (List.mem_of_getElem? (i := 51) rfl) rfl
theorem mf_X6_288 : Cond.fieldLink RX6 288 "AskedTheOtherWayAbout$Town" "yeses" "I" ∈ big := big_1 (List.mem_of_getElem? (i := 52) rfl) rfl
theorem ma_int : Cond.arrayClass .int ∈ big := big_1 (List.mem_of_getElem? (i := 74) rfl) rfl
theorem mn_X6_19 : Cond.classLink RX6 19 RX1 ∈ big := big_1 (List.mem_of_getElem? (i := 75) rfl) rfl
theorem mb_X1 : Cond.instantiable RX1 2 ∈ big := big_1 (List.mem_of_getElem? (i := 76) rfl) rfl
theorem mi_X1_init : Cond.instanceMethod yX1_init ∈ big := big_1 (List.mem_of_getElem? (i := 78) rfl) rfl
theorem mc_X1_init : Cond.code yX1_init cX1_init 1 (none) ∈ big := big_1 (List.mem_of_getElem? (i := 79) rfl) rfl
theorem ml_X1_3 : Cond.methodLink RX1 3 objectInit ∈ big := big_1 (List.mem_of_getElem? (i := 80) rfl) rfl
theorem mf_X1_9 : Cond.fieldLink RX1 9 "AskedTheOtherWayAbout$Orders" "shares" "[I" ∈ big := big_1 (List.mem_of_getElem? (i := 81) rfl) rfl
theorem mf_X1_15 : Cond.fieldLink RX1 15 "AskedTheOtherWayAbout$Orders" "leastOfRest" "[I" ∈ big := big_1 (List.mem_of_getElem? (i := 82) rfl) rfl
theorem mn_X6_26 : Cond.classLink RX6 26 RX2 ∈ big := big_1 (List.mem_of_getElem? (i := 88) rfl) rfl
theorem mb_X2 : Cond.instantiable RX2 3 ∈ big := big_1 (List.mem_of_getElem? (i := 89) rfl) rfl
theorem ml_X6_28 : Cond.methodLink RX6 28 yX2_init ∈ big := big_1 (List.mem_of_getElem? (i := 90) rfl) rfl
theorem mi_X2_init : Cond.instanceMethod yX2_init ∈ big := big_1 (List.mem_of_getElem? (i := 91) rfl) rfl
theorem mc_X2_init : Cond.code yX2_init cX2_init 2 (none) ∈ big := big_1 (List.mem_of_getElem? (i := 92) rfl) rfl
theorem ml_X2_3 : Cond.methodLink RX2 3 objectInit ∈ big := big_1 (List.mem_of_getElem? (i := 93) rfl) rfl
theorem mf_X2_9 : Cond.fieldLink RX2 9 "AskedTheOtherWayAbout$Shelves" "held" "[I" ∈ big := big_1 (List.mem_of_getElem? (i := 94) rfl) rfl
theorem mf_X2_15 : Cond.fieldLink RX2 15 "AskedTheOtherWayAbout$Shelves" "sizes" "[I" ∈ big := big_1 (List.mem_of_getElem? (i := 95) rfl) rfl
theorem mf_X2_18 : Cond.fieldLink RX2 18 "AskedTheOtherWayAbout$Shelves" "elements" "[J" ∈ big := big_1 (List.mem_of_getElem? (i := 96) rfl) rfl
theorem ma_long : Cond.arrayClass .long ∈ big := big_1 (List.mem_of_getElem? (i := 104) rfl) rfl
theorem mn_X6_33 : Cond.classLink RX6 33 RX4 ∈ big := big_1 (List.mem_of_getElem? (i := 105) rfl) rfl
theorem mb_X4 : Cond.instantiable RX4 5 ∈ big := big_1 (List.mem_of_getElem? (i := 106) rfl) rfl
theorem mi_X4_init : Cond.instanceMethod yX4_init ∈ big := big_1 (List.mem_of_getElem? (i := 108) rfl) rfl
theorem mc_X4_init : Cond.code yX4_init cX4_init 1 (none) ∈ big := big_1 (List.mem_of_getElem? (i := 109) rfl) rfl
theorem ml_X4_3 : Cond.methodLink RX4 3 objectInit ∈ big := big_1 (List.mem_of_getElem? (i := 110) rfl) rfl
theorem mn_X4_15 : Cond.classLink RX4 15 RX3 ∈ big := big_1 (List.mem_of_getElem? (i := 111) rfl) rfl
theorem mf_X4_9 : Cond.fieldLink RX4 9 "AskedTheOtherWayAbout$TownText" "letters" "[I" ∈ big := big_1 (List.mem_of_getElem? (i := 113) rfl) rfl
theorem mf_X6_176 : Cond.fieldLink RX6 176 "AskedTheOtherWayAbout$TownText" "letters" "[I" ∈ big := big_1 (List.mem_of_getElem? (i := 114) rfl) rfl
theorem mf_X4_18 : Cond.fieldLink RX4 18 "AskedTheOtherWayAbout$TownText" "draft" "LAskedTheOtherWayAbout$Town;" ∈ big := big_1 (List.mem_of_getElem? (i := 115) rfl) rfl
theorem mf_X6_193 : Cond.fieldLink RX6 193 "AskedTheOtherWayAbout$TownText" "draft" "LAskedTheOtherWayAbout$Town;" ∈ big := big_1 (List.mem_of_getElem? (i := 116) rfl) rfl
theorem mf_X4_22 : Cond.fieldLink RX4 22 "AskedTheOtherWayAbout$TownText" "fault" "I" ∈ big := big_1 (List.mem_of_getElem? (i := 117) rfl) rfl
theorem mf_X6_190 : Cond.fieldLink RX6 190 "AskedTheOtherWayAbout$TownText" "fault" "I" ∈ big := big_1 (List.mem_of_getElem? (i := 118) rfl) rfl
theorem mf_X4_30 : Cond.fieldLink RX4 30 "AskedTheOtherWayAbout$TownText" "size" "I" ∈ big := big_1 (List.mem_of_getElem? (i := 119) rfl) rfl
theorem mf_X4_33 : Cond.fieldLink RX4 33 "AskedTheOtherWayAbout$TownText" "place" "I" ∈ big := big_1 (List.mem_of_getElem? (i := 120) rfl) rfl
theorem mn_X6_40 : Cond.classLink RX6 40 RX0 ∈ big := big_1 (List.mem_of_getElem? (i := 132) rfl) rfl
theorem mb_X0 : Cond.instantiable RX0 5 ∈ big := big_1 (List.mem_of_getElem? (i := 133) rfl) rfl
theorem mi_X0_init : Cond.instanceMethod yX0_init ∈ big := big_1 (List.mem_of_getElem? (i := 135) rfl) rfl
theorem mc_X0_init : Cond.code yX0_init cX0_init 1 (none) ∈ big := big_1 (List.mem_of_getElem? (i := 136) rfl) rfl
theorem ml_X0_3 : Cond.methodLink RX0 3 objectInit ∈ big := big_1 (List.mem_of_getElem? (i := 137) rfl) rfl
theorem mf_X0_11 : Cond.fieldLink RX0 11 "AskedTheOtherWayAbout$Acts" "kept" "[I" ∈ big := big_1 (List.mem_of_getElem? (i := 138) rfl) rfl
theorem mf_X0_15 : Cond.fieldLink RX0 15 "AskedTheOtherWayAbout$Acts" "bodies" "I" ∈ big := big_1 (List.mem_of_getElem? (i := 139) rfl) rfl
theorem mf_X6_320 : Cond.fieldLink RX6 320 "AskedTheOtherWayAbout$Acts" "bodies" "I" ∈ big := big_1 (List.mem_of_getElem? (i := 140) rfl) rfl
theorem mf_X0_19 : Cond.fieldLink RX0 19 "AskedTheOtherWayAbout$Acts" "number" "I" ∈ big := big_1 (List.mem_of_getElem? (i := 141) rfl) rfl
theorem mf_X0_22 : Cond.fieldLink RX0 22 "AskedTheOtherWayAbout$Acts" "kind" "I" ∈ big := big_1 (List.mem_of_getElem? (i := 142) rfl) rfl
theorem mf_X0_25 : Cond.fieldLink RX0 25 "AskedTheOtherWayAbout$Acts" "a" "I" ∈ big := big_1 (List.mem_of_getElem? (i := 143) rfl) rfl
theorem mf_X6_10 : Cond.fieldLink RX6 10 "AskedTheOtherWayAbout" "town" "LAskedTheOtherWayAbout$Town;" ∈ big := big_1 (List.mem_of_getElem? (i := 155) rfl) rfl
theorem mf_X6_16 : Cond.fieldLink RX6 16 "AskedTheOtherWayAbout" "image" "LAskedTheOtherWayAbout$Town;" ∈ big := big_1 (List.mem_of_getElem? (i := 156) rfl) rfl
theorem mf_X6_306 : Cond.fieldLink RX6 306 "AskedTheOtherWayAbout" "imageTaken" "Z" ∈ big := big_1 (List.mem_of_getElem? (i := 157) rfl) rfl
theorem mf_X6_22 : Cond.fieldLink RX6 22 "AskedTheOtherWayAbout" "orders" "LAskedTheOtherWayAbout$Orders;" ∈ big := big_1 (List.mem_of_getElem? (i := 158) rfl) rfl
theorem mf_X6_29 : Cond.fieldLink RX6 29 "AskedTheOtherWayAbout" "shelves" "LAskedTheOtherWayAbout$Shelves;" ∈ big := big_1 (List.mem_of_getElem? (i := 159) rfl) rfl
theorem mf_X6_36 : Cond.fieldLink RX6 36 "AskedTheOtherWayAbout" "townText" "LAskedTheOtherWayAbout$TownText;" ∈ big := big_1 (List.mem_of_getElem? (i := 160) rfl) rfl
theorem mf_X6_43 : Cond.fieldLink RX6 43 "AskedTheOtherWayAbout" "acts" "LAskedTheOtherWayAbout$Acts;" ∈ big := big_1 (List.mem_of_getElem? (i := 161) rfl) rfl
theorem mf_X6_47 : Cond.fieldLink RX6 47 "AskedTheOtherWayAbout" "refusals" "[I" ∈ big := big_1 (List.mem_of_getElem? (i := 162) rfl) rfl
theorem mf_X6_51 : Cond.fieldLink RX6 51 "AskedTheOtherWayAbout" "latestFault" "I" ∈ big := big_1 (List.mem_of_getElem? (i := 163) rfl) rfl
theorem ml_L_13 : Cond.methodLink RL 13 yX6_row ∈ big := big_1 (List.mem_of_getElem? (i := 183) rfl) rfl
theorem mi_X6_row : Cond.instanceMethod yX6_row ∈ big := big_1 (List.mem_of_getElem? (i := 184) rfl) rfl
theorem me_X6_row : Cond.selects RX6 yX6_row yX6_row ∈ big := big_1 (List.mem_of_getElem? (i := 185) rfl) rfl
theorem mc_X6_row : Cond.code yX6_row cX6_row 4 (some .int) ∈ big := big_1 (List.mem_of_getElem? (i := 186) rfl) rfl
theorem ml_X6_55 : Cond.methodLink RX6 55 yX6_isShelf ∈ big := big_1 (List.mem_of_getElem? (i := 187) rfl) rfl
theorem ms_X6_isShelf : Cond.static yX6_isShelf ∈ big := big_1 (List.mem_of_getElem? (i := 188) rfl) rfl
theorem mc_X6_isShelf : Cond.code yX6_isShelf cX6_isShelf 1 (some .boolean) ∈ big := big_1 (List.mem_of_getElem? (i := 189) rfl) rfl
theorem ml_X6_63 : Cond.methodLink RX6 63 yX6_isWithin ∈ big := big_1 (List.mem_of_getElem? (i := 190) rfl) rfl
theorem ms_X6_isWithin : Cond.static yX6_isWithin ∈ big := big_1 (List.mem_of_getElem? (i := 191) rfl) rfl
theorem mc_X6_isWithin : Cond.code yX6_isWithin cX6_isWithin 3 (some .boolean) ∈ big := big_1 (List.mem_of_getElem? (i := 192) rfl) rfl
theorem ml_X6_59 : Cond.methodLink RX6 59 yX6_refuse ∈ big := big_1 (List.mem_of_getElem? (i := 193) rfl) rfl
theorem mi_X6_refuse : Cond.instanceMethod yX6_refuse ∈ big := big_1 (List.mem_of_getElem? (i := 195) rfl) rfl
theorem mc_X6_refuse : Cond.code yX6_refuse cX6_refuse 2 (some .int) ∈ big := big_1 (List.mem_of_getElem? (i := 196) rfl) rfl
theorem ml_X6_67 : Cond.methodLink RX6 67 yX2_putRow ∈ big := big_1 (List.mem_of_getElem? (i := 197) rfl) rfl
theorem mi_X2_putRow : Cond.instanceMethod yX2_putRow ∈ big := big_1 (List.mem_of_getElem? (i := 198) rfl) rfl
theorem me_X2_putRow : Cond.selects RX2 yX2_putRow yX2_putRow ∈ big := big_1 (List.mem_of_getElem? (i := 199) rfl) rfl
theorem mc_X2_putRow : Cond.code yX2_putRow cX2_putRow 5 (none) ∈ big := big_1 (List.mem_of_getElem? (i := 200) rfl) rfl
theorem ml_L_20 : Cond.methodLink RL 20 yX6_set ∈ big := big_1 (List.mem_of_getElem? (i := 201) rfl) rfl
theorem mi_X6_set : Cond.instanceMethod yX6_set ∈ big := big_1 (List.mem_of_getElem? (i := 202) rfl) rfl
theorem me_X6_set : Cond.selects RX6 yX6_set yX6_set ∈ big := big_1 (List.mem_of_getElem? (i := 203) rfl) rfl
theorem mc_X6_set : Cond.code yX6_set cX6_set 6 (some .int) ∈ big := big_1 (List.mem_of_getElem? (i := 204) rfl) rfl
theorem ml_X6_71 : Cond.methodLink RX6 71 yX2_refusalOfRow ∈ big := big_1 (List.mem_of_getElem? (i := 205) rfl) rfl
theorem mi_X2_refusalOfRow : Cond.instanceMethod yX2_refusalOfRow ∈ big := big_1 (List.mem_of_getElem? (i := 206) rfl) rfl
theorem me_X2_refusalOfRow : Cond.selects RX2 yX2_refusalOfRow yX2_refusalOfRow ∈ big := big_1 (List.mem_of_getElem? (i := 207) rfl) rfl
theorem mc_X2_refusalOfRow : Cond.code yX2_refusalOfRow cX2_refusalOfRow 2 (some .int) ∈ big := big_1 (List.mem_of_getElem? (i := 208) rfl) rfl
theorem ml_X2_22 : Cond.methodLink RX2 22 yX2_refusalOfRows ∈ big := big_1 (List.mem_of_getElem? (i := 209) rfl) rfl
theorem mi_X2_refusalOfRows : Cond.instanceMethod yX2_refusalOfRows ∈ big := big_1 (List.mem_of_getElem? (i := 210) rfl) rfl
theorem me_X2_refusalOfRows : Cond.selects RX2 yX2_refusalOfRows yX2_refusalOfRows ∈ big := big_1 (List.mem_of_getElem? (i := 211) rfl) rfl
theorem mc_X2_refusalOfRows : Cond.code yX2_refusalOfRows cX2_refusalOfRows 3 (some .int) ∈ big := big_1 (List.mem_of_getElem? (i := 212) rfl) rfl
theorem ml_X2_30 : Cond.methodLink RX2 30 yX2_holdsQuestion ∈ big := big_1 (List.mem_of_getElem? (i := 214) rfl) rfl
theorem mi_X2_holdsQuestion : Cond.instanceMethod yX2_holdsQuestion ∈ big := big_1 (List.mem_of_getElem? (i := 216) rfl) rfl
theorem mc_X2_holdsQuestion : Cond.code yX2_holdsQuestion cX2_holdsQuestion 2 (some .boolean) ∈ big := big_1 (List.mem_of_getElem? (i := 217) rfl) rfl
theorem ml_X2_33 : Cond.methodLink RX2 33 yX2_holdsRow ∈ big := big_1 (List.mem_of_getElem? (i := 218) rfl) rfl
theorem mi_X2_holdsRow : Cond.instanceMethod yX2_holdsRow ∈ big := big_1 (List.mem_of_getElem? (i := 220) rfl) rfl
theorem mc_X2_holdsRow : Cond.code yX2_holdsRow cX2_holdsRow 2 (some .boolean) ∈ big := big_1 (List.mem_of_getElem? (i := 221) rfl) rfl
theorem ml_X6_74 : Cond.methodLink RX6 74 yX2_has ∈ big := big_1 (List.mem_of_getElem? (i := 222) rfl) rfl
theorem mi_X2_has : Cond.instanceMethod yX2_has ∈ big := big_1 (List.mem_of_getElem? (i := 223) rfl) rfl
theorem me_X2_has : Cond.selects RX2 yX2_has yX2_has ∈ big := big_1 (List.mem_of_getElem? (i := 224) rfl) rfl
theorem mc_X2_has : Cond.code yX2_has cX2_has 4 (some .boolean) ∈ big := big_1 (List.mem_of_getElem? (i := 225) rfl) rfl
theorem ml_X6_77 : Cond.methodLink RX6 77 yX2_putElement ∈ big := big_1 (List.mem_of_getElem? (i := 226) rfl) rfl
theorem mi_X2_putElement : Cond.instanceMethod yX2_putElement ∈ big := big_1 (List.mem_of_getElem? (i := 227) rfl) rfl
theorem me_X2_putElement : Cond.selects RX2 yX2_putElement yX2_putElement ∈ big := big_1 (List.mem_of_getElem? (i := 228) rfl) rfl
theorem mc_X2_putElement : Cond.code yX2_putElement cX2_putElement 5 (none) ∈ big := big_1 (List.mem_of_getElem? (i := 229) rfl) rfl
theorem ml_X2_36 : Cond.methodLink RX2 36 yX2_lowestBits ∈ big := big_1 (List.mem_of_getElem? (i := 230) rfl) rfl
theorem ms_X2_lowestBits : Cond.static yX2_lowestBits ∈ big := big_1 (List.mem_of_getElem? (i := 231) rfl) rfl
theorem mc_X2_lowestBits : Cond.code yX2_lowestBits cX2_lowestBits 3 (some .long) ∈ big := big_1 (List.mem_of_getElem? (i := 232) rfl) rfl
theorem ml_L_25 : Cond.methodLink RL 25 yX6_copy ∈ big := big_1 (List.mem_of_getElem? (i := 233) rfl) rfl
theorem mi_X6_copy : Cond.instanceMethod yX6_copy ∈ big := big_1 (List.mem_of_getElem? (i := 234) rfl) rfl
theorem me_X6_copy : Cond.selects RX6 yX6_copy yX6_copy ∈ big := big_1 (List.mem_of_getElem? (i := 235) rfl) rfl
theorem mc_X6_copy : Cond.code yX6_copy cX6_copy 7 (some .int) ∈ big := big_1 (List.mem_of_getElem? (i := 236) rfl) rfl
theorem ml_X6_81 : Cond.methodLink RX6 81 yX2_refusalOfRows ∈ big := big_1 (List.mem_of_getElem? (i := 237) rfl) rfl
theorem ml_X6_85 : Cond.methodLink RX6 85 yX2_copyElements ∈ big := big_1 (List.mem_of_getElem? (i := 238) rfl) rfl
theorem mi_X2_copyElements : Cond.instanceMethod yX2_copyElements ∈ big := big_1 (List.mem_of_getElem? (i := 239) rfl) rfl
theorem me_X2_copyElements : Cond.selects RX2 yX2_copyElements yX2_copyElements ∈ big := big_2 (List.mem_of_getElem? (i := 0) rfl) rfl
theorem mc_X2_copyElements : Cond.code yX2_copyElements cX2_copyElements 6 (none) ∈ big := big_2 (List.mem_of_getElem? (i := 1) rfl) rfl
theorem ml_X2_40 : Cond.methodLink RX2 40 arraycopyName ∈ big := big_2 (List.mem_of_getElem? (i := 2) rfl) rfl
theorem ms_arraycopy : Cond.static arraycopyName ∈ big := big_2 (List.mem_of_getElem? (i := 3) rfl) rfl
theorem mv_arraycopy : Cond.native arraycopyName ∈ big := big_2 (List.mem_of_getElem? (i := 4) rfl) rfl
theorem ml_L_30 : Cond.methodLink RL 30 yX6_element ∈ big := big_2 (List.mem_of_getElem? (i := 5) rfl) rfl
theorem mi_X6_element : Cond.instanceMethod yX6_element ∈ big := big_2 (List.mem_of_getElem? (i := 6) rfl) rfl
theorem me_X6_element : Cond.selects RX6 yX6_element yX6_element ∈ big := big_2 (List.mem_of_getElem? (i := 7) rfl) rfl
theorem mc_X6_element : Cond.code yX6_element cX6_element 3 (some .long) ∈ big := big_2 (List.mem_of_getElem? (i := 8) rfl) rfl
theorem ml_X6_89 : Cond.methodLink RX6 89 yX2_longAt ∈ big := big_2 (List.mem_of_getElem? (i := 9) rfl) rfl
theorem mi_X2_longAt : Cond.instanceMethod yX2_longAt ∈ big := big_2 (List.mem_of_getElem? (i := 10) rfl) rfl
theorem me_X2_longAt : Cond.selects RX2 yX2_longAt yX2_longAt ∈ big := big_2 (List.mem_of_getElem? (i := 11) rfl) rfl
theorem mc_X2_longAt : Cond.code yX2_longAt cX2_longAt 3 (some .long) ∈ big := big_2 (List.mem_of_getElem? (i := 12) rfl) rfl
theorem ml_L_35 : Cond.methodLink RL 35 yX6_show ∈ big := big_2 (List.mem_of_getElem? (i := 13) rfl) rfl
theorem mi_X6_show : Cond.instanceMethod yX6_show ∈ big := big_2 (List.mem_of_getElem? (i := 14) rfl) rfl
theorem me_X6_show : Cond.selects RX6 yX6_show yX6_show ∈ big := big_2 (List.mem_of_getElem? (i := 15) rfl) rfl
theorem mc_X6_show : Cond.code yX6_show cX6_show 3 (some .int) ∈ big := big_2 (List.mem_of_getElem? (i := 16) rfl) rfl
theorem ml_X6_93 : Cond.methodLink RX6 93 yX3_hasQuestion ∈ big := big_2 (List.mem_of_getElem? (i := 17) rfl) rfl
theorem mi_X3_hasQuestion : Cond.instanceMethod yX3_hasQuestion ∈ big := big_2 (List.mem_of_getElem? (i := 18) rfl) rfl
theorem me_X3_hasQuestion : Cond.selects RX3 yX3_hasQuestion yX3_hasQuestion ∈ big := big_2 (List.mem_of_getElem? (i := 19) rfl) rfl
theorem mc_X3_hasQuestion : Cond.code yX3_hasQuestion cX3_hasQuestion 2 (some .boolean) ∈ big := big_2 (List.mem_of_getElem? (i := 20) rfl) rfl
theorem ml_X6_96 : Cond.methodLink RX6 96 yX2_putQuestion ∈ big := big_2 (List.mem_of_getElem? (i := 22) rfl) rfl
theorem mi_X2_putQuestion : Cond.instanceMethod yX2_putQuestion ∈ big := big_2 (List.mem_of_getElem? (i := 23) rfl) rfl
theorem me_X2_putQuestion : Cond.selects RX2 yX2_putQuestion yX2_putQuestion ∈ big := big_2 (List.mem_of_getElem? (i := 24) rfl) rfl
theorem mc_X2_putQuestion : Cond.code yX2_putQuestion cX2_putQuestion 3 (none) ∈ big := big_2 (List.mem_of_getElem? (i := 25) rfl) rfl
theorem ml_L_40 : Cond.methodLink RL 40 yX6_holds ∈ big := big_2 (List.mem_of_getElem? (i := 26) rfl) rfl
theorem mi_X6_holds : Cond.instanceMethod yX6_holds ∈ big := big_2 (List.mem_of_getElem? (i := 27) rfl) rfl
theorem me_X6_holds : Cond.selects RX6 yX6_holds yX6_holds ∈ big := big_2 (List.mem_of_getElem? (i := 28) rfl) rfl
theorem mc_X6_holds : Cond.code yX6_holds cX6_holds 2 (some .int) ∈ big := big_2 (List.mem_of_getElem? (i := 29) rfl) rfl
theorem ml_X6_100 : Cond.methodLink RX6 100 yX2_heldBy ∈ big := big_2 (List.mem_of_getElem? (i := 30) rfl) rfl
theorem mi_X2_heldBy : Cond.instanceMethod yX2_heldBy ∈ big := big_2 (List.mem_of_getElem? (i := 31) rfl) rfl
theorem me_X2_heldBy : Cond.selects RX2 yX2_heldBy yX2_heldBy ∈ big := big_2 (List.mem_of_getElem? (i := 32) rfl) rfl
theorem mc_X2_heldBy : Cond.code yX2_heldBy cX2_heldBy 2 (some .int) ∈ big := big_2 (List.mem_of_getElem? (i := 33) rfl) rfl
theorem ml_L_45 : Cond.methodLink RL 45 yX6_says ∈ big := big_2 (List.mem_of_getElem? (i := 34) rfl) rfl
theorem mi_X6_says : Cond.instanceMethod yX6_says ∈ big := big_2 (List.mem_of_getElem? (i := 35) rfl) rfl
theorem me_X6_says : Cond.selects RX6 yX6_says yX6_says ∈ big := big_2 (List.mem_of_getElem? (i := 36) rfl) rfl
theorem mc_X6_says : Cond.code yX6_says cX6_says 4 (some .int) ∈ big := big_2 (List.mem_of_getElem? (i := 37) rfl) rfl
theorem ml_X6_103 : Cond.methodLink RX6 103 yX6_isKind ∈ big := big_2 (List.mem_of_getElem? (i := 38) rfl) rfl
theorem ms_X6_isKind : Cond.static yX6_isKind ∈ big := big_2 (List.mem_of_getElem? (i := 39) rfl) rfl
theorem mc_X6_isKind : Cond.code yX6_isKind cX6_isKind 1 (some .boolean) ∈ big := big_2 (List.mem_of_getElem? (i := 40) rfl) rfl
theorem ml_X6_106 : Cond.methodLink RX6 106 yX3_kindOf ∈ big := big_2 (List.mem_of_getElem? (i := 41) rfl) rfl
theorem mi_X3_kindOf : Cond.instanceMethod yX3_kindOf ∈ big := big_2 (List.mem_of_getElem? (i := 42) rfl) rfl
theorem me_X3_kindOf : Cond.selects RX3 yX3_kindOf yX3_kindOf ∈ big := big_2 (List.mem_of_getElem? (i := 43) rfl) rfl
theorem mc_X3_kindOf : Cond.code yX3_kindOf cX3_kindOf 2 (some .int) ∈ big := big_2 (List.mem_of_getElem? (i := 44) rfl) rfl
theorem ml_X6_109 : Cond.methodLink RX6 109 yX6_isOrUnder ∈ big := big_2 (List.mem_of_getElem? (i := 45) rfl) rfl
theorem ms_X6_isOrUnder : Cond.static yX6_isOrUnder ∈ big := big_2 (List.mem_of_getElem? (i := 46) rfl) rfl
theorem mc_X6_isOrUnder : Cond.code yX6_isOrUnder cX6_isOrUnder 4 (some .boolean) ∈ big := big_2 (List.mem_of_getElem? (i := 47) rfl) rfl
theorem mf_X6_332 : Cond.fieldLink RX6 332 "AskedTheOtherWayAbout" "ABOVE" "[I" ∈ big := big_2 (List.mem_of_getElem? (i := 48) rfl) rfl
theorem ml_X6_113 : Cond.methodLink RX6 113 yX3_shareOf ∈ big := big_2 (List.mem_of_getElem? (i := 50) rfl) rfl
theorem mi_X3_shareOf : Cond.instanceMethod yX3_shareOf ∈ big := big_2 (List.mem_of_getElem? (i := 51) rfl) rfl
theorem me_X3_shareOf : Cond.selects RX3 yX3_shareOf yX3_shareOf ∈ big := big_2 (List.mem_of_getElem? (i := 52) rfl) rfl
theorem mc_X3_shareOf : Cond.code yX3_shareOf cX3_shareOf 3 (some .int) ∈ big := big_2 (List.mem_of_getElem? (i := 53) rfl) rfl
theorem ml_X3_90 : Cond.methodLink RX3 90 yX3_allOf ∈ big := big_2 (List.mem_of_getElem? (i := 54) rfl) rfl
theorem mi_X3_allOf : Cond.instanceMethod yX3_allOf ∈ big := big_2 (List.mem_of_getElem? (i := 55) rfl) rfl
theorem me_X3_allOf : Cond.selects RX3 yX3_allOf yX3_allOf ∈ big := big_2 (List.mem_of_getElem? (i := 56) rfl) rfl
theorem mc_X3_allOf : Cond.code yX3_allOf cX3_allOf 5 (some .int) ∈ big := big_2 (List.mem_of_getElem? (i := 57) rfl) rfl
theorem ms_X6_contains : Cond.static yX6_contains ∈ big := big_2 (List.mem_of_getElem? (i := 59) rfl) rfl
theorem mc_X6_contains : Cond.code yX6_contains cX6_contains 2 (some .boolean) ∈ big := big_2 (List.mem_of_getElem? (i := 60) rfl) rfl
theorem ml_X3_83 : Cond.methodLink RX3 83 yX3_countOf ∈ big := big_2 (List.mem_of_getElem? (i := 61) rfl) rfl
theorem mi_X3_countOf : Cond.instanceMethod yX3_countOf ∈ big := big_2 (List.mem_of_getElem? (i := 62) rfl) rfl
theorem me_X3_countOf : Cond.selects RX3 yX3_countOf yX3_countOf ∈ big := big_2 (List.mem_of_getElem? (i := 63) rfl) rfl
theorem mc_X3_countOf : Cond.code yX3_countOf cX3_countOf 2 (some .int) ∈ big := big_2 (List.mem_of_getElem? (i := 64) rfl) rfl
theorem ml_X3_86 : Cond.methodLink RX3 86 yX3_yesOf ∈ big := big_2 (List.mem_of_getElem? (i := 65) rfl) rfl
theorem mi_X3_yesOf : Cond.instanceMethod yX3_yesOf ∈ big := big_2 (List.mem_of_getElem? (i := 66) rfl) rfl
theorem me_X3_yesOf : Cond.selects RX3 yX3_yesOf yX3_yesOf ∈ big := big_2 (List.mem_of_getElem? (i := 67) rfl) rfl
theorem mc_X3_yesOf : Cond.code yX3_yesOf cX3_yesOf 4 (some .int) ∈ big := big_2 (List.mem_of_getElem? (i := 68) rfl) rfl
theorem ml_X3_67 : Cond.methodLink RX3 67 yX3_kindOf ∈ big := big_2 (List.mem_of_getElem? (i := 69) rfl) rfl
theorem ml_X3_70 : Cond.methodLink RX3 70 yX3_aOf ∈ big := big_2 (List.mem_of_getElem? (i := 70) rfl) rfl
theorem mi_X3_aOf : Cond.instanceMethod yX3_aOf ∈ big := big_2 (List.mem_of_getElem? (i := 71) rfl) rfl
theorem me_X3_aOf : Cond.selects RX3 yX3_aOf yX3_aOf ∈ big := big_2 (List.mem_of_getElem? (i := 72) rfl) rfl
theorem mc_X3_aOf : Cond.code yX3_aOf cX3_aOf 2 (some .int) ∈ big := big_2 (List.mem_of_getElem? (i := 73) rfl) rfl
theorem ml_X3_76 : Cond.methodLink RX3 76 yX3_viewOf ∈ big := big_2 (List.mem_of_getElem? (i := 74) rfl) rfl
theorem mi_X3_viewOf : Cond.instanceMethod yX3_viewOf ∈ big := big_2 (List.mem_of_getElem? (i := 75) rfl) rfl
theorem me_X3_viewOf : Cond.selects RX3 yX3_viewOf yX3_viewOf ∈ big := big_2 (List.mem_of_getElem? (i := 76) rfl) rfl
theorem mc_X3_viewOf : Cond.code yX3_viewOf cX3_viewOf 2 (some .int) ∈ big := big_2 (List.mem_of_getElem? (i := 77) rfl) rfl
theorem ml_X3_53 : Cond.methodLink RX3 53 yX3_gladOf ∈ big := big_2 (List.mem_of_getElem? (i := 78) rfl) rfl
theorem mi_X3_gladOf : Cond.instanceMethod yX3_gladOf ∈ big := big_2 (List.mem_of_getElem? (i := 79) rfl) rfl
theorem me_X3_gladOf : Cond.selects RX3 yX3_gladOf yX3_gladOf ∈ big := big_2 (List.mem_of_getElem? (i := 80) rfl) rfl
theorem mc_X3_gladOf : Cond.code yX3_gladOf cX3_gladOf 2 (some .int) ∈ big := big_2 (List.mem_of_getElem? (i := 81) rfl) rfl
theorem ms_X6_yesBy : Cond.static yX6_yesBy ∈ big := big_2 (List.mem_of_getElem? (i := 83) rfl) rfl
theorem mc_X6_yesBy : Cond.code yX6_yesBy cX6_yesBy 9 (some .int) ∈ big := big_2 (List.mem_of_getElem? (i := 84) rfl) rfl
theorem ml_X3_94 : Cond.methodLink RX3 94 yX3_peopleOf ∈ big := big_2 (List.mem_of_getElem? (i := 85) rfl) rfl
theorem mi_X3_peopleOf : Cond.instanceMethod yX3_peopleOf ∈ big := big_2 (List.mem_of_getElem? (i := 86) rfl) rfl
theorem me_X3_peopleOf : Cond.selects RX3 yX3_peopleOf yX3_peopleOf ∈ big := big_2 (List.mem_of_getElem? (i := 87) rfl) rfl
theorem mc_X3_peopleOf : Cond.code yX3_peopleOf cX3_peopleOf 4 (some .int) ∈ big := big_2 (List.mem_of_getElem? (i := 88) rfl) rfl
theorem ms_X6_thousandths : Cond.static yX6_thousandths ∈ big := big_2 (List.mem_of_getElem? (i := 90) rfl) rfl
theorem mc_X6_thousandths : Cond.code yX6_thousandths cX6_thousandths 2 (some .int) ∈ big := big_2 (List.mem_of_getElem? (i := 91) rfl) rfl
theorem ml_X6_116 : Cond.methodLink RX6 116 yX3_yesAs ∈ big := big_2 (List.mem_of_getElem? (i := 92) rfl) rfl
theorem mi_X3_yesAs : Cond.instanceMethod yX3_yesAs ∈ big := big_2 (List.mem_of_getElem? (i := 93) rfl) rfl
theorem me_X3_yesAs : Cond.selects RX3 yX3_yesAs yX3_yesAs ∈ big := big_2 (List.mem_of_getElem? (i := 94) rfl) rfl
theorem mc_X3_yesAs : Cond.code yX3_yesAs cX3_yesAs 5 (some .int) ∈ big := big_2 (List.mem_of_getElem? (i := 95) rfl) rfl
theorem ml_L_49 : Cond.methodLink RL 49 yX6_question ∈ big := big_2 (List.mem_of_getElem? (i := 96) rfl) rfl
theorem mi_X6_question : Cond.instanceMethod yX6_question ∈ big := big_2 (List.mem_of_getElem? (i := 97) rfl) rfl
theorem me_X6_question : Cond.selects RX6 yX6_question yX6_question ∈ big := big_2 (List.mem_of_getElem? (i := 98) rfl) rfl
theorem mc_X6_question : Cond.code yX6_question cX6_question 3 (some .int) ∈ big := big_2 (List.mem_of_getElem? (i := 99) rfl) rfl
theorem ml_X6_120 : Cond.methodLink RX6 120 yX3_hasRoomForQuestion ∈ big := big_2 (List.mem_of_getElem? (i := 100) rfl) rfl
theorem mi_X3_hasRoomForQuestion : Cond.instanceMethod yX3_hasRoomForQuestion ∈ big := big_2 (List.mem_of_getElem? (i := 101) rfl) rfl
theorem me_X3_hasRoomForQuestion : Cond.selects RX3 yX3_hasRoomForQuestion yX3_hasRoomForQuestion ∈ big := big_2 (List.mem_of_getElem? (i := 102) rfl) rfl
theorem mc_X3_hasRoomForQuestion : Cond.code yX3_hasRoomForQuestion cX3_hasRoomForQuestion 1 (some .boolean) ∈ big := big_2 (List.mem_of_getElem? (i := 103) rfl) rfl
theorem ml_X6_124 : Cond.methodLink RX6 124 yX3_addQuestion ∈ big := big_2 (List.mem_of_getElem? (i := 104) rfl) rfl
theorem mi_X3_addQuestion : Cond.instanceMethod yX3_addQuestion ∈ big := big_2 (List.mem_of_getElem? (i := 105) rfl) rfl
theorem me_X3_addQuestion : Cond.selects RX3 yX3_addQuestion yX3_addQuestion ∈ big := big_2 (List.mem_of_getElem? (i := 106) rfl) rfl
theorem mc_X3_addQuestion : Cond.code yX3_addQuestion cX3_addQuestion 4 (some .int) ∈ big := big_2 (List.mem_of_getElem? (i := 107) rfl) rfl
theorem ml_L_53 : Cond.methodLink RL 53 yX6_group ∈ big := big_2 (List.mem_of_getElem? (i := 108) rfl) rfl
theorem mi_X6_group : Cond.instanceMethod yX6_group ∈ big := big_2 (List.mem_of_getElem? (i := 109) rfl) rfl
theorem me_X6_group : Cond.selects RX6 yX6_group yX6_group ∈ big := big_2 (List.mem_of_getElem? (i := 110) rfl) rfl
theorem mc_X6_group : Cond.code yX6_group cX6_group 7 (some .int) ∈ big := big_2 (List.mem_of_getElem? (i := 111) rfl) rfl
theorem ml_X6_127 : Cond.methodLink RX6 127 yX3_hasRoomForGroup ∈ big := big_2 (List.mem_of_getElem? (i := 112) rfl) rfl
theorem mi_X3_hasRoomForGroup : Cond.instanceMethod yX3_hasRoomForGroup ∈ big := big_2 (List.mem_of_getElem? (i := 113) rfl) rfl
theorem me_X3_hasRoomForGroup : Cond.selects RX3 yX3_hasRoomForGroup yX3_hasRoomForGroup ∈ big := big_2 (List.mem_of_getElem? (i := 114) rfl) rfl
theorem mc_X3_hasRoomForGroup : Cond.code yX3_hasRoomForGroup cX3_hasRoomForGroup 1 (some .boolean) ∈ big := big_2 (List.mem_of_getElem? (i := 115) rfl) rfl
theorem ml_X6_130 : Cond.methodLink RX6 130 yX3_addGroup ∈ big := big_2 (List.mem_of_getElem? (i := 116) rfl) rfl
theorem mi_X3_addGroup : Cond.instanceMethod yX3_addGroup ∈ big := big_2 (List.mem_of_getElem? (i := 117) rfl) rfl
theorem me_X3_addGroup : Cond.selects RX3 yX3_addGroup yX3_addGroup ∈ big := big_2 (List.mem_of_getElem? (i := 118) rfl) rfl
theorem mc_X3_addGroup : Cond.code yX3_addGroup cX3_addGroup 8 (some .int) ∈ big := big_2 (List.mem_of_getElem? (i := 119) rfl) rfl
theorem ml_L_57 : Cond.methodLink RL 57 yX6_questionOf ∈ big := big_2 (List.mem_of_getElem? (i := 120) rfl) rfl
theorem mi_X6_questionOf : Cond.instanceMethod yX6_questionOf ∈ big := big_2 (List.mem_of_getElem? (i := 121) rfl) rfl
theorem me_X6_questionOf : Cond.selects RX6 yX6_questionOf yX6_questionOf ∈ big := big_2 (List.mem_of_getElem? (i := 122) rfl) rfl
theorem mc_X6_questionOf : Cond.code yX6_questionOf cX6_questionOf 3 (some .int) ∈ big := big_2 (List.mem_of_getElem? (i := 123) rfl) rfl
theorem ml_X6_134 : Cond.methodLink RX6 134 yX6_refuseFarBelow ∈ big := big_2 (List.mem_of_getElem? (i := 124) rfl) rfl
theorem mi_X6_refuseFarBelow : Cond.instanceMethod yX6_refuseFarBelow ∈ big := big_2 (List.mem_of_getElem? (i := 126) rfl) rfl
theorem mc_X6_refuseFarBelow : Cond.code yX6_refuseFarBelow cX6_refuseFarBelow 2 (some .int) ∈ big := big_2 (List.mem_of_getElem? (i := 127) rfl) rfl
theorem ml_X6_137 : Cond.methodLink RX6 137 yX3_aOf ∈ big := big_2 (List.mem_of_getElem? (i := 128) rfl) rfl
theorem ml_X6_140 : Cond.methodLink RX6 140 yX3_allOf ∈ big := big_2 (List.mem_of_getElem? (i := 129) rfl) rfl
theorem ml_X6_143 : Cond.methodLink RX6 143 yX3_wrongOf ∈ big := big_2 (List.mem_of_getElem? (i := 130) rfl) rfl
theorem mi_X3_wrongOf : Cond.instanceMethod yX3_wrongOf ∈ big := big_2 (List.mem_of_getElem? (i := 131) rfl) rfl
theorem me_X3_wrongOf : Cond.selects RX3 yX3_wrongOf yX3_wrongOf ∈ big := big_2 (List.mem_of_getElem? (i := 132) rfl) rfl
theorem mc_X3_wrongOf : Cond.code yX3_wrongOf cX3_wrongOf 4 (some .int) ∈ big := big_2 (List.mem_of_getElem? (i := 133) rfl) rfl
theorem ml_X3_111 : Cond.methodLink RX3 111 yX3_shareOf ∈ big := big_2 (List.mem_of_getElem? (i := 134) rfl) rfl
theorem ml_X3_117 : Cond.methodLink RX3 117 yX3_holding ∈ big := big_2 (List.mem_of_getElem? (i := 136) rfl) rfl
theorem mi_X3_holding : Cond.instanceMethod yX3_holding ∈ big := big_2 (List.mem_of_getElem? (i := 137) rfl) rfl
theorem me_X3_holding : Cond.selects RX3 yX3_holding yX3_holding ∈ big := big_2 (List.mem_of_getElem? (i := 138) rfl) rfl
theorem mc_X3_holding : Cond.code yX3_holding cX3_holding 3 (some .int) ∈ big := big_2 (List.mem_of_getElem? (i := 139) rfl) rfl
theorem ml_L_61 : Cond.methodLink RL 61 yX6_groupOf ∈ big := big_2 (List.mem_of_getElem? (i := 140) rfl) rfl
theorem mi_X6_groupOf : Cond.instanceMethod yX6_groupOf ∈ big := big_2 (List.mem_of_getElem? (i := 141) rfl) rfl
theorem me_X6_groupOf : Cond.selects RX6 yX6_groupOf yX6_groupOf ∈ big := big_2 (List.mem_of_getElem? (i := 142) rfl) rfl
theorem mc_X6_groupOf : Cond.code yX6_groupOf cX6_groupOf 3 (some .int) ∈ big := big_2 (List.mem_of_getElem? (i := 143) rfl) rfl
theorem ml_X6_146 : Cond.methodLink RX6 146 yX3_hasGroup ∈ big := big_2 (List.mem_of_getElem? (i := 144) rfl) rfl
theorem mi_X3_hasGroup : Cond.instanceMethod yX3_hasGroup ∈ big := big_2 (List.mem_of_getElem? (i := 145) rfl) rfl
theorem me_X3_hasGroup : Cond.selects RX3 yX3_hasGroup yX3_hasGroup ∈ big := big_2 (List.mem_of_getElem? (i := 146) rfl) rfl
theorem mc_X3_hasGroup : Cond.code yX3_hasGroup cX3_hasGroup 2 (some .boolean) ∈ big := big_2 (List.mem_of_getElem? (i := 147) rfl) rfl
theorem ml_X6_149 : Cond.methodLink RX6 149 yX3_countOf ∈ big := big_2 (List.mem_of_getElem? (i := 148) rfl) rfl
theorem ml_X6_152 : Cond.methodLink RX6 152 yX3_viewOf ∈ big := big_2 (List.mem_of_getElem? (i := 149) rfl) rfl
theorem ml_X6_155 : Cond.methodLink RX6 155 yX3_gladOf ∈ big := big_2 (List.mem_of_getElem? (i := 150) rfl) rfl
theorem ml_X6_158 : Cond.methodLink RX6 158 yX3_homeOf ∈ big := big_2 (List.mem_of_getElem? (i := 151) rfl) rfl
theorem mi_X3_homeOf : Cond.instanceMethod yX3_homeOf ∈ big := big_2 (List.mem_of_getElem? (i := 152) rfl) rfl
theorem me_X3_homeOf : Cond.selects RX3 yX3_homeOf yX3_homeOf ∈ big := big_2 (List.mem_of_getElem? (i := 153) rfl) rfl
theorem mc_X3_homeOf : Cond.code yX3_homeOf cX3_homeOf 2 (some .int) ∈ big := big_2 (List.mem_of_getElem? (i := 154) rfl) rfl
theorem ml_X6_161 : Cond.methodLink RX6 161 yX3_willOf ∈ big := big_2 (List.mem_of_getElem? (i := 155) rfl) rfl
theorem mi_X3_willOf : Cond.instanceMethod yX3_willOf ∈ big := big_2 (List.mem_of_getElem? (i := 156) rfl) rfl
theorem me_X3_willOf : Cond.selects RX3 yX3_willOf yX3_willOf ∈ big := big_2 (List.mem_of_getElem? (i := 157) rfl) rfl
theorem mc_X3_willOf : Cond.code yX3_willOf cX3_willOf 2 (some .int) ∈ big := big_2 (List.mem_of_getElem? (i := 158) rfl) rfl
theorem ml_L_65 : Cond.methodLink RL 65 yX6_bears ∈ big := big_2 (List.mem_of_getElem? (i := 159) rfl) rfl
theorem mi_X6_bears : Cond.instanceMethod yX6_bears ∈ big := big_2 (List.mem_of_getElem? (i := 160) rfl) rfl
theorem me_X6_bears : Cond.selects RX6 yX6_bears yX6_bears ∈ big := big_2 (List.mem_of_getElem? (i := 161) rfl) rfl
theorem mc_X6_bears : Cond.code yX6_bears cX6_bears 5 (some .int) ∈ big := big_2 (List.mem_of_getElem? (i := 162) rfl) rfl
theorem ml_X6_164 : Cond.methodLink RX6 164 yX3_bearingOf ∈ big := big_2 (List.mem_of_getElem? (i := 163) rfl) rfl
theorem mi_X3_bearingOf : Cond.instanceMethod yX3_bearingOf ∈ big := big_2 (List.mem_of_getElem? (i := 164) rfl) rfl
theorem me_X3_bearingOf : Cond.selects RX3 yX3_bearingOf yX3_bearingOf ∈ big := big_2 (List.mem_of_getElem? (i := 165) rfl) rfl
theorem mc_X3_bearingOf : Cond.code yX3_bearingOf cX3_bearingOf 3 (some .int) ∈ big := big_2 (List.mem_of_getElem? (i := 166) rfl) rfl
theorem ml_X6_167 : Cond.methodLink RX6 167 yX3_putBearing ∈ big := big_2 (List.mem_of_getElem? (i := 167) rfl) rfl
theorem mi_X3_putBearing : Cond.instanceMethod yX3_putBearing ∈ big := big_2 (List.mem_of_getElem? (i := 168) rfl) rfl
theorem me_X3_putBearing : Cond.selects RX3 yX3_putBearing yX3_putBearing ∈ big := big_2 (List.mem_of_getElem? (i := 169) rfl) rfl
theorem mc_X3_putBearing : Cond.code yX3_putBearing cX3_putBearing 4 (none) ∈ big := big_2 (List.mem_of_getElem? (i := 170) rfl) rfl
theorem ml_L_69 : Cond.methodLink RL 69 yX6_ask ∈ big := big_2 (List.mem_of_getElem? (i := 171) rfl) rfl
theorem mi_X6_ask : Cond.instanceMethod yX6_ask ∈ big := big_2 (List.mem_of_getElem? (i := 172) rfl) rfl
theorem me_X6_ask : Cond.selects RX6 yX6_ask yX6_ask ∈ big := big_2 (List.mem_of_getElem? (i := 173) rfl) rfl
theorem mc_X6_ask : Cond.code yX6_ask cX6_ask 4 (some .int) ∈ big := big_2 (List.mem_of_getElem? (i := 174) rfl) rfl
theorem ml_L_73 : Cond.methodLink RL 73 yX6_town ∈ big := big_2 (List.mem_of_getElem? (i := 175) rfl) rfl
theorem mi_X6_town : Cond.instanceMethod yX6_town ∈ big := big_2 (List.mem_of_getElem? (i := 176) rfl) rfl
theorem me_X6_town : Cond.selects RX6 yX6_town yX6_town ∈ big := big_2 (List.mem_of_getElem? (i := 177) rfl) rfl
theorem mc_X6_town : Cond.code yX6_town cX6_town 4 (some .int) ∈ big := big_2 (List.mem_of_getElem? (i := 178) rfl) rfl
theorem ml_X6_179 : Cond.methodLink RX6 179 yX2_copyInts ∈ big := big_2 (List.mem_of_getElem? (i := 179) rfl) rfl
theorem mi_X2_copyInts : Cond.instanceMethod yX2_copyInts ∈ big := big_2 (List.mem_of_getElem? (i := 180) rfl) rfl
theorem me_X2_copyInts : Cond.selects RX2 yX2_copyInts yX2_copyInts ∈ big := big_2 (List.mem_of_getElem? (i := 181) rfl) rfl
theorem mc_X2_copyInts : Cond.code yX2_copyInts cX2_copyInts 4 (none) ∈ big := big_2 (List.mem_of_getElem? (i := 182) rfl) rfl
theorem ml_X2_46 : Cond.methodLink RX2 46 yX2_intAt ∈ big := big_2 (List.mem_of_getElem? (i := 183) rfl) rfl
theorem mi_X2_intAt : Cond.instanceMethod yX2_intAt ∈ big := big_2 (List.mem_of_getElem? (i := 184) rfl) rfl
theorem me_X2_intAt : Cond.selects RX2 yX2_intAt yX2_intAt ∈ big := big_2 (List.mem_of_getElem? (i := 185) rfl) rfl
theorem mc_X2_intAt : Cond.code yX2_intAt cX2_intAt 3 (some .int) ∈ big := big_2 (List.mem_of_getElem? (i := 186) rfl) rfl
theorem ml_X6_183 : Cond.methodLink RX6 183 yX2_sizeOf ∈ big := big_2 (List.mem_of_getElem? (i := 187) rfl) rfl
theorem mi_X2_sizeOf : Cond.instanceMethod yX2_sizeOf ∈ big := big_2 (List.mem_of_getElem? (i := 188) rfl) rfl
theorem me_X2_sizeOf : Cond.selects RX2 yX2_sizeOf yX2_sizeOf ∈ big := big_2 (List.mem_of_getElem? (i := 189) rfl) rfl
theorem mc_X2_sizeOf : Cond.code yX2_sizeOf cX2_sizeOf 2 (some .int) ∈ big := big_2 (List.mem_of_getElem? (i := 190) rfl) rfl
theorem ml_X6_186 : Cond.methodLink RX6 186 yX4_read ∈ big := big_2 (List.mem_of_getElem? (i := 191) rfl) rfl
theorem mi_X4_read : Cond.instanceMethod yX4_read ∈ big := big_2 (List.mem_of_getElem? (i := 192) rfl) rfl
theorem me_X4_read : Cond.selects RX4 yX4_read yX4_read ∈ big := big_2 (List.mem_of_getElem? (i := 193) rfl) rfl
theorem mc_X4_read : Cond.code yX4_read cX4_read 5 (some .int) ∈ big := big_2 (List.mem_of_getElem? (i := 194) rfl) rfl
theorem ml_X4_26 : Cond.methodLink RX4 26 yX3_become ∈ big := big_2 (List.mem_of_getElem? (i := 195) rfl) rfl
theorem mi_X3_become : Cond.instanceMethod yX3_become ∈ big := big_2 (List.mem_of_getElem? (i := 196) rfl) rfl
theorem me_X3_become : Cond.selects RX3 yX3_become yX3_become ∈ big := big_2 (List.mem_of_getElem? (i := 197) rfl) rfl
theorem mc_X3_become : Cond.code yX3_become cX3_become 2 (none) ∈ big := big_2 (List.mem_of_getElem? (i := 198) rfl) rfl
theorem ml_X3_28 : Cond.methodLink RX3 28 arraycopyName ∈ big := big_2 (List.mem_of_getElem? (i := 199) rfl) rfl
theorem ml_X4_36 : Cond.methodLink RX4 36 yX4_readItem ∈ big := big_2 (List.mem_of_getElem? (i := 200) rfl) rfl
theorem mi_X4_readItem : Cond.instanceMethod yX4_readItem ∈ big := big_2 (List.mem_of_getElem? (i := 202) rfl) rfl
theorem mc_X4_readItem : Cond.code yX4_readItem cX4_readItem 1 (none) ∈ big := big_2 (List.mem_of_getElem? (i := 203) rfl) rfl
theorem ml_X4_43 : Cond.methodLink RX4 43 yX4_letterHere ∈ big := big_2 (List.mem_of_getElem? (i := 204) rfl) rfl
theorem mi_X4_letterHere : Cond.instanceMethod yX4_letterHere ∈ big := big_2 (List.mem_of_getElem? (i := 206) rfl) rfl
theorem mc_X4_letterHere : Cond.code yX4_letterHere cX4_letterHere 1 (some .int) ∈ big := big_2 (List.mem_of_getElem? (i := 207) rfl) rfl
theorem ml_X4_47 : Cond.methodLink RX4 47 yX4_readGroup ∈ big := big_2 (List.mem_of_getElem? (i := 208) rfl) rfl
theorem mi_X4_readGroup : Cond.instanceMethod yX4_readGroup ∈ big := big_2 (List.mem_of_getElem? (i := 210) rfl) rfl
theorem mc_X4_readGroup : Cond.code yX4_readGroup cX4_readGroup 7 (none) ∈ big := big_2 (List.mem_of_getElem? (i := 211) rfl) rfl
theorem ml_X4_55 : Cond.methodLink RX4 55 yX4_readWord ∈ big := big_2 (List.mem_of_getElem? (i := 213) rfl) rfl
theorem mi_X4_readWord : Cond.instanceMethod yX4_readWord ∈ big := big_2 (List.mem_of_getElem? (i := 215) rfl) rfl
theorem mc_X4_readWord : Cond.code yX4_readWord cX4_readWord 3 (none) ∈ big := big_2 (List.mem_of_getElem? (i := 216) rfl) rfl
theorem ml_X4_105 : Cond.methodLink RX4 105 yJ0_length_8abf5 ∈ big := big_2 (List.mem_of_getElem? (i := 217) rfl) rfl
theorem mi_J0_length_8abf5 : Cond.instanceMethod yJ0_length_8abf5 ∈ big := big_2 (List.mem_of_getElem? (i := 218) rfl) rfl
theorem me_J0_length_8abf5 : Cond.selects RJ0 yJ0_length_8abf5 yJ0_length_8abf5 ∈ big := big_2 (List.mem_of_getElem? (i := 219) rfl) rfl
theorem mc_J0_length_8abf5 : Cond.code yJ0_length_8abf5 cJ0_length_8abf5 1 (some .int) ∈ big := big_2 (List.mem_of_getElem? (i := 220) rfl) rfl
theorem ml_J0_335 : Cond.methodLink RJ0 335 yJ0_coder_7d493 ∈ big := big_2 (List.mem_of_getElem? (i := 221) rfl) rfl
theorem mi_J0_coder_7d493 : Cond.instanceMethod yJ0_coder_7d493 ∈ big := big_2 (List.mem_of_getElem? (i := 222) rfl) rfl
theorem me_J0_coder_7d493 : Cond.selects RJ0 yJ0_coder_7d493 yJ0_coder_7d493 ∈ big := big_2 (List.mem_of_getElem? (i := 223) rfl) rfl
theorem mc_J0_coder_7d493 : Cond.code yJ0_coder_7d493 cJ0_coder_7d493 1 (some .byte) ∈ big := big_2 (List.mem_of_getElem? (i := 224) rfl) rfl
theorem mf_J0_38 : Cond.fieldLink RJ0 38 "java/lang/String" "COMPACT_STRINGS" "Z" ∈ big := big_2 (List.mem_of_getElem? (i := 225) rfl) rfl
theorem ml_X4_110 : Cond.methodLink RX4 110 yJ0_charAt_5068e ∈ big := big_2 (List.mem_of_getElem? (i := 227) rfl) rfl
theorem mi_J0_charAt_5068e : Cond.instanceMethod yJ0_charAt_5068e ∈ big := big_2 (List.mem_of_getElem? (i := 228) rfl) rfl
theorem me_J0_charAt_5068e : Cond.selects RJ0 yJ0_charAt_5068e yJ0_charAt_5068e ∈ big := big_2 (List.mem_of_getElem? (i := 229) rfl) rfl
theorem mc_J0_charAt_5068e : Cond.code yJ0_charAt_5068e cJ0_charAt_5068e 2 (some .char) ∈ big := big_2 (List.mem_of_getElem? (i := 230) rfl) rfl
theorem ml_J0_492 : Cond.methodLink RJ0 492 yJ0_isLatin1_aae02 ∈ big := big_2 (List.mem_of_getElem? (i := 231) rfl) rfl
theorem mi_J0_isLatin1_aae02 : Cond.instanceMethod yJ0_isLatin1_aae02 ∈ big := big_2 (List.mem_of_getElem? (i := 232) rfl) rfl
theorem me_J0_isLatin1_aae02 : Cond.selects RJ0 yJ0_isLatin1_aae02 yJ0_isLatin1_aae02 ∈ big := big_2 (List.mem_of_getElem? (i := 233) rfl) rfl
theorem mc_J0_isLatin1_aae02 : Cond.code yJ0_isLatin1_aae02 cJ0_isLatin1_aae02 1 (some .boolean) ∈ big := big_2 (List.mem_of_getElem? (i := 234) rfl) rfl
theorem ml_J0_495 : Cond.methodLink RJ0 495 yJ1_charAt_3b067 ∈ big := big_2 (List.mem_of_getElem? (i := 235) rfl) rfl
theorem ms_J1_charAt_3b067 : Cond.static yJ1_charAt_3b067 ∈ big := big_2 (List.mem_of_getElem? (i := 236) rfl) rfl
theorem mc_J1_charAt_3b067 : Cond.code yJ1_charAt_3b067 cJ1_charAt_3b067 2 (some .char) ∈ big := big_2 (List.mem_of_getElem? (i := 237) rfl) rfl
theorem ml_J1_9 : Cond.methodLink RJ1 9 yJ0_checkIndex_df160 ∈ big := big_2 (List.mem_of_getElem? (i := 238) rfl) rfl
theorem ms_J0_checkIndex_df160 : Cond.static yJ0_checkIndex_df160 ∈ big := big_2 (List.mem_of_getElem? (i := 239) rfl) rfl
theorem mc_J0_checkIndex_df160 : Cond.code yJ0_checkIndex_df160 cJ0_checkIndex_df160 2 (none) ∈ big := big_3 (List.mem_of_getElem? (i := 0) rfl) rfl
theorem mf_J0_1053 : Cond.fieldLink RJ0 1053 "jdk/internal/util/Preconditions" "SIOOBE_FORMATTER" "Ljava/util/function/BiFunction;" ∈ big := big_3 (List.mem_of_getElem? (i := 1) rfl) rfl
theorem ml_J0_1059 : Cond.methodLink RJ0 1059 yJ3_checkIndex_8e157 ∈ big := big_3 (List.mem_of_getElem? (i := 3) rfl) rfl
theorem ms_J3_checkIndex_8e157 : Cond.static yJ3_checkIndex_8e157 ∈ big := big_3 (List.mem_of_getElem? (i := 4) rfl) rfl
theorem mc_J3_checkIndex_8e157 : Cond.code yJ3_checkIndex_8e157 cJ3_checkIndex_8e157 3 (some .int) ∈ big := big_3 (List.mem_of_getElem? (i := 5) rfl) rfl
theorem ml_J0_498 : Cond.methodLink RJ0 498 yJ2_charAt_3b067 ∈ big := big_3 (List.mem_of_getElem? (i := 6) rfl) rfl
theorem ms_J2_charAt_3b067 : Cond.static yJ2_charAt_3b067 ∈ big := big_3 (List.mem_of_getElem? (i := 7) rfl) rfl
theorem mc_J2_charAt_3b067 : Cond.code yJ2_charAt_3b067 cJ2_charAt_3b067 2 (some .char) ∈ big := big_3 (List.mem_of_getElem? (i := 8) rfl) rfl
theorem ml_J2_67 : Cond.methodLink RJ2 67 yJ2_checkIndex_2214a ∈ big := big_3 (List.mem_of_getElem? (i := 9) rfl) rfl
theorem ms_J2_checkIndex_2214a : Cond.static yJ2_checkIndex_2214a ∈ big := big_3 (List.mem_of_getElem? (i := 10) rfl) rfl
theorem mc_J2_checkIndex_2214a : Cond.code yJ2_checkIndex_2214a cJ2_checkIndex_2214a 2 (none) ∈ big := big_3 (List.mem_of_getElem? (i := 11) rfl) rfl
theorem ml_J2_48 : Cond.methodLink RJ2 48 yJ2_length_9d52b ∈ big := big_3 (List.mem_of_getElem? (i := 12) rfl) rfl
theorem ms_J2_length_9d52b : Cond.static yJ2_length_9d52b ∈ big := big_3 (List.mem_of_getElem? (i := 13) rfl) rfl
theorem mc_J2_length_9d52b : Cond.code yJ2_length_9d52b cJ2_length_9d52b 1 (some .int) ∈ big := big_3 (List.mem_of_getElem? (i := 14) rfl) rfl
theorem ml_J2_414 : Cond.methodLink RJ2 414 yJ0_checkIndex_df160 ∈ big := big_3 (List.mem_of_getElem? (i := 15) rfl) rfl
theorem ml_J2_71 : Cond.methodLink RJ2 71 yJ2_getChar_3b067 ∈ big := big_3 (List.mem_of_getElem? (i := 16) rfl) rfl
theorem ms_J2_getChar_3b067 : Cond.static yJ2_getChar_3b067 ∈ big := big_3 (List.mem_of_getElem? (i := 17) rfl) rfl
theorem mc_J2_getChar_3b067 : Cond.code yJ2_getChar_3b067 cJ2_getChar_3b067 2 (some .char) ∈ big := big_3 (List.mem_of_getElem? (i := 18) rfl) rfl
theorem mf_J2_44 : Cond.fieldLink RJ2 44 "java/lang/StringUTF16" "$assertionsDisabled" "Z" ∈ big := big_3 (List.mem_of_getElem? (i := 19) rfl) rfl
theorem mf_J2_59 : Cond.fieldLink RJ2 59 "java/lang/StringUTF16" "HI_BYTE_SHIFT" "I" ∈ big := big_3 (List.mem_of_getElem? (i := 21) rfl) rfl
theorem mf_J2_63 : Cond.fieldLink RJ2 63 "java/lang/StringUTF16" "LO_BYTE_SHIFT" "I" ∈ big := big_3 (List.mem_of_getElem? (i := 23) rfl) rfl
theorem ml_X4_39 : Cond.methodLink RX4 39 yX4_readLetter ∈ big := big_3 (List.mem_of_getElem? (i := 25) rfl) rfl
theorem mi_X4_readLetter : Cond.instanceMethod yX4_readLetter ∈ big := big_3 (List.mem_of_getElem? (i := 27) rfl) rfl
theorem mc_X4_readLetter : Cond.code yX4_readLetter cX4_readLetter 2 (none) ∈ big := big_3 (List.mem_of_getElem? (i := 28) rfl) rfl
theorem ml_X4_77 : Cond.methodLink RX4 77 yX4_faultAt ∈ big := big_3 (List.mem_of_getElem? (i := 29) rfl) rfl
theorem mi_X4_faultAt : Cond.instanceMethod yX4_faultAt ∈ big := big_3 (List.mem_of_getElem? (i := 31) rfl) rfl
theorem mc_X4_faultAt : Cond.code yX4_faultAt cX4_faultAt 2 (none) ∈ big := big_3 (List.mem_of_getElem? (i := 32) rfl) rfl
theorem ml_X4_82 : Cond.methodLink RX4 82 yX3_hasRoomForGroup ∈ big := big_3 (List.mem_of_getElem? (i := 33) rfl) rfl
theorem ml_X4_67 : Cond.methodLink RX4 67 yX4_readNumber ∈ big := big_3 (List.mem_of_getElem? (i := 34) rfl) rfl
theorem mi_X4_readNumber : Cond.instanceMethod yX4_readNumber ∈ big := big_3 (List.mem_of_getElem? (i := 36) rfl) rfl
theorem mc_X4_readNumber : Cond.code yX4_readNumber cX4_readNumber 6 (some .int) ∈ big := big_3 (List.mem_of_getElem? (i := 37) rfl) rfl
theorem ml_X4_86 : Cond.methodLink RX4 86 yX3_addGroup ∈ big := big_3 (List.mem_of_getElem? (i := 39) rfl) rfl
theorem ml_X4_50 : Cond.methodLink RX4 50 yX4_readQuestion ∈ big := big_3 (List.mem_of_getElem? (i := 40) rfl) rfl
theorem mi_X4_readQuestion : Cond.instanceMethod yX4_readQuestion ∈ big := big_3 (List.mem_of_getElem? (i := 42) rfl) rfl
theorem mc_X4_readQuestion : Cond.code yX4_readQuestion cX4_readQuestion 4 (none) ∈ big := big_3 (List.mem_of_getElem? (i := 43) rfl) rfl
theorem ml_X4_92 : Cond.methodLink RX4 92 yX3_hasRoomForQuestion ∈ big := big_3 (List.mem_of_getElem? (i := 45) rfl) rfl
theorem ml_X4_95 : Cond.methodLink RX4 95 yX3_addQuestion ∈ big := big_3 (List.mem_of_getElem? (i := 46) rfl) rfl
theorem ml_X4_59 : Cond.methodLink RX4 59 yX4_readBearing ∈ big := big_3 (List.mem_of_getElem? (i := 48) rfl) rfl
theorem mi_X4_readBearing : Cond.instanceMethod yX4_readBearing ∈ big := big_3 (List.mem_of_getElem? (i := 50) rfl) rfl
theorem mc_X4_readBearing : Cond.code yX4_readBearing cX4_readBearing 6 (none) ∈ big := big_3 (List.mem_of_getElem? (i := 51) rfl) rfl
theorem ml_X4_101 : Cond.methodLink RX4 101 yX3_putBearing ∈ big := big_3 (List.mem_of_getElem? (i := 52) rfl) rfl
theorem ml_X6_196 : Cond.methodLink RX6 196 yX3_become ∈ big := big_3 (List.mem_of_getElem? (i := 56) rfl) rfl
theorem ma_byte : Cond.arrayClass .byte ∈ big := big_3 (List.mem_of_getElem? (i := 57) rfl) rfl
theorem ml_L_77 : Cond.methodLink RL 77 yX6_fault ∈ big := big_3 (List.mem_of_getElem? (i := 58) rfl) rfl
theorem mi_X6_fault : Cond.instanceMethod yX6_fault ∈ big := big_3 (List.mem_of_getElem? (i := 59) rfl) rfl
theorem me_X6_fault : Cond.selects RX6 yX6_fault yX6_fault ∈ big := big_3 (List.mem_of_getElem? (i := 60) rfl) rfl
theorem mc_X6_fault : Cond.code yX6_fault cX6_fault 1 (some .int) ∈ big := big_3 (List.mem_of_getElem? (i := 61) rfl) rfl
theorem ml_L_82 : Cond.methodLink RL 82 yX6_yes ∈ big := big_3 (List.mem_of_getElem? (i := 62) rfl) rfl
theorem mi_X6_yes : Cond.instanceMethod yX6_yes ∈ big := big_3 (List.mem_of_getElem? (i := 63) rfl) rfl
theorem me_X6_yes : Cond.selects RX6 yX6_yes yX6_yes ∈ big := big_3 (List.mem_of_getElem? (i := 64) rfl) rfl
theorem mc_X6_yes : Cond.code yX6_yes cX6_yes 4 (some .int) ∈ big := big_3 (List.mem_of_getElem? (i := 65) rfl) rfl
theorem ml_X6_200 : Cond.methodLink RX6 200 yX3_yesOf ∈ big := big_3 (List.mem_of_getElem? (i := 66) rfl) rfl
theorem ml_L_86 : Cond.methodLink RL 86 yX6_answers ∈ big := big_3 (List.mem_of_getElem? (i := 67) rfl) rfl
theorem mi_X6_answers : Cond.instanceMethod yX6_answers ∈ big := big_3 (List.mem_of_getElem? (i := 68) rfl) rfl
theorem me_X6_answers : Cond.selects RX6 yX6_answers yX6_answers ∈ big := big_3 (List.mem_of_getElem? (i := 69) rfl) rfl
theorem mc_X6_answers : Cond.code yX6_answers cX6_answers 3 (some .int) ∈ big := big_3 (List.mem_of_getElem? (i := 70) rfl) rfl
theorem ml_X6_204 : Cond.methodLink RX6 204 yX5_answersBetween ∈ big := big_3 (List.mem_of_getElem? (i := 71) rfl) rfl
theorem ms_X5_answersBetween : Cond.static yX5_answersBetween ∈ big := big_3 (List.mem_of_getElem? (i := 72) rfl) rfl
theorem mc_X5_answersBetween : Cond.code yX5_answersBetween cX5_answersBetween 5 (some .int) ∈ big := big_3 (List.mem_of_getElem? (i := 73) rfl) rfl
theorem ml_X5_31 : Cond.methodLink RX5 31 yX5_answersOf ∈ big := big_3 (List.mem_of_getElem? (i := 74) rfl) rfl
theorem ms_X5_answersOf : Cond.static yX5_answersOf ∈ big := big_3 (List.mem_of_getElem? (i := 75) rfl) rfl
theorem mc_X5_answersOf : Cond.code yX5_answersOf cX5_answersOf 7 (some .int) ∈ big := big_3 (List.mem_of_getElem? (i := 76) rfl) rfl
theorem ml_X5_9 : Cond.methodLink RX5 9 yX3_countOf ∈ big := big_3 (List.mem_of_getElem? (i := 77) rfl) rfl
theorem ml_X5_15 : Cond.methodLink RX5 15 yX3_homeOf ∈ big := big_3 (List.mem_of_getElem? (i := 78) rfl) rfl
theorem ml_X5_18 : Cond.methodLink RX5 18 yX3_willOf ∈ big := big_3 (List.mem_of_getElem? (i := 79) rfl) rfl
theorem ml_X6_210 : Cond.methodLink RX6 210 yX5_leftBy ∈ big := big_3 (List.mem_of_getElem? (i := 80) rfl) rfl
theorem ms_X5_leftBy : Cond.static yX5_leftBy ∈ big := big_3 (List.mem_of_getElem? (i := 81) rfl) rfl
theorem mc_X5_leftBy : Cond.code yX5_leftBy cX5_leftBy 4 (some .int) ∈ big := big_3 (List.mem_of_getElem? (i := 82) rfl) rfl
theorem ml_X5_25 : Cond.methodLink RX5 25 yX5_leftOf ∈ big := big_3 (List.mem_of_getElem? (i := 83) rfl) rfl
theorem ms_X5_leftOf : Cond.static yX5_leftOf ∈ big := big_3 (List.mem_of_getElem? (i := 84) rfl) rfl
theorem mc_X5_leftOf : Cond.code yX5_leftOf cX5_leftOf 5 (some .int) ∈ big := big_3 (List.mem_of_getElem? (i := 85) rfl) rfl
theorem ml_L_90 : Cond.methodLink RL 90 yX6_by ∈ big := big_3 (List.mem_of_getElem? (i := 86) rfl) rfl
theorem mi_X6_by : Cond.instanceMethod yX6_by ∈ big := big_3 (List.mem_of_getElem? (i := 87) rfl) rfl
theorem me_X6_by : Cond.selects RX6 yX6_by yX6_by ∈ big := big_3 (List.mem_of_getElem? (i := 88) rfl) rfl
theorem mc_X6_by : Cond.code yX6_by cX6_by 4 (some .int) ∈ big := big_3 (List.mem_of_getElem? (i := 89) rfl) rfl
theorem ml_X6_214 : Cond.methodLink RX6 214 yX5_shareBetween ∈ big := big_3 (List.mem_of_getElem? (i := 90) rfl) rfl
theorem ms_X5_shareBetween : Cond.static yX5_shareBetween ∈ big := big_3 (List.mem_of_getElem? (i := 91) rfl) rfl
theorem mc_X5_shareBetween : Cond.code yX5_shareBetween cX5_shareBetween 6 (some .int) ∈ big := big_3 (List.mem_of_getElem? (i := 92) rfl) rfl
theorem ml_X5_34 : Cond.methodLink RX5 34 yX3_yesOf ∈ big := big_3 (List.mem_of_getElem? (i := 93) rfl) rfl
theorem ml_X5_38 : Cond.methodLink RX5 38 yX5_answersBetween ∈ big := big_3 (List.mem_of_getElem? (i := 94) rfl) rfl
theorem ml_X6_218 : Cond.methodLink RX6 218 yX5_offBy ∈ big := big_3 (List.mem_of_getElem? (i := 96) rfl) rfl
theorem ms_X5_offBy : Cond.static yX5_offBy ∈ big := big_3 (List.mem_of_getElem? (i := 97) rfl) rfl
theorem mc_X5_offBy : Cond.code yX5_offBy cX5_offBy 3 (some .int) ∈ big := big_3 (List.mem_of_getElem? (i := 98) rfl) rfl
theorem ml_X5_45 : Cond.methodLink RX5 45 yX5_shareBetween ∈ big := big_3 (List.mem_of_getElem? (i := 99) rfl) rfl
theorem ml_X5_49 : Cond.methodLink RX5 49 yX3_shareOf ∈ big := big_3 (List.mem_of_getElem? (i := 100) rfl) rfl
theorem ml_L_94 : Cond.methodLink RL 94 yX6_hold ∈ big := big_3 (List.mem_of_getElem? (i := 101) rfl) rfl
theorem mi_X6_hold : Cond.instanceMethod yX6_hold ∈ big := big_3 (List.mem_of_getElem? (i := 102) rfl) rfl
theorem me_X6_hold : Cond.selects RX6 yX6_hold yX6_hold ∈ big := big_3 (List.mem_of_getElem? (i := 103) rfl) rfl
theorem mc_X6_hold : Cond.code yX6_hold cX6_hold 1 (some .int) ∈ big := big_3 (List.mem_of_getElem? (i := 104) rfl) rfl
theorem ml_X6_221 : Cond.methodLink RX6 221 yX3_holding ∈ big := big_3 (List.mem_of_getElem? (i := 105) rfl) rfl
theorem ml_L_98 : Cond.methodLink RL 98 yX6_order ∈ big := big_3 (List.mem_of_getElem? (i := 106) rfl) rfl
theorem mi_X6_order : Cond.instanceMethod yX6_order ∈ big := big_3 (List.mem_of_getElem? (i := 107) rfl) rfl
theorem me_X6_order : Cond.selects RX6 yX6_order yX6_order ∈ big := big_3 (List.mem_of_getElem? (i := 108) rfl) rfl
theorem mc_X6_order : Cond.code yX6_order cX6_order 5 (some .int) ∈ big := big_3 (List.mem_of_getElem? (i := 109) rfl) rfl
theorem ml_X6_225 : Cond.methodLink RX6 225 yJ6_bitCount_0f7a4 ∈ big := big_3 (List.mem_of_getElem? (i := 110) rfl) rfl
theorem ms_J6_bitCount_0f7a4 : Cond.static yJ6_bitCount_0f7a4 ∈ big := big_3 (List.mem_of_getElem? (i := 111) rfl) rfl
theorem mc_J6_bitCount_0f7a4 : Cond.code yJ6_bitCount_0f7a4 cJ6_bitCount_0f7a4 1 (some .int) ∈ big := big_3 (List.mem_of_getElem? (i := 112) rfl) rfl
theorem mk_J6_265 : Cond.constant RJ6 265 (1431655765) ∈ big := big_3 (List.mem_of_getElem? (i := 113) rfl) rfl
theorem mk_J6_266 : Cond.constant RJ6 266 (858993459) ∈ big := big_3 (List.mem_of_getElem? (i := 114) rfl) rfl
theorem mk_J6_267 : Cond.constant RJ6 267 (252645135) ∈ big := big_3 (List.mem_of_getElem? (i := 115) rfl) rfl
theorem ml_X6_230 : Cond.methodLink RX6 230 yX3_hasQuestions ∈ big := big_3 (List.mem_of_getElem? (i := 116) rfl) rfl
theorem mi_X3_hasQuestions : Cond.instanceMethod yX3_hasQuestions ∈ big := big_3 (List.mem_of_getElem? (i := 117) rfl) rfl
theorem me_X3_hasQuestions : Cond.selects RX3 yX3_hasQuestions yX3_hasQuestions ∈ big := big_3 (List.mem_of_getElem? (i := 118) rfl) rfl
theorem mc_X3_hasQuestions : Cond.code yX3_hasQuestions cX3_hasQuestions 2 (some .boolean) ∈ big := big_3 (List.mem_of_getElem? (i := 119) rfl) rfl
theorem ml_X6_233 : Cond.methodLink RX6 233 yX1_leansOfBest ∈ big := big_3 (List.mem_of_getElem? (i := 120) rfl) rfl
theorem mi_X1_leansOfBest : Cond.instanceMethod yX1_leansOfBest ∈ big := big_3 (List.mem_of_getElem? (i := 121) rfl) rfl
theorem me_X1_leansOfBest : Cond.selects RX1 yX1_leansOfBest yX1_leansOfBest ∈ big := big_3 (List.mem_of_getElem? (i := 122) rfl) rfl
theorem mc_X1_leansOfBest : Cond.code yX1_leansOfBest cX1_leansOfBest 4 (some .int) ∈ big := big_3 (List.mem_of_getElem? (i := 123) rfl) rfl
theorem ml_X1_24 : Cond.methodLink RX1 24 yX3_shareOf ∈ big := big_3 (List.mem_of_getElem? (i := 124) rfl) rfl
theorem ml_X1_28 : Cond.methodLink RX1 28 yX1_leastOf ∈ big := big_3 (List.mem_of_getElem? (i := 125) rfl) rfl
theorem mi_X1_leastOf : Cond.instanceMethod yX1_leastOf ∈ big := big_3 (List.mem_of_getElem? (i := 127) rfl) rfl
theorem mc_X1_leastOf : Cond.code yX1_leastOf cX1_leastOf 6 (some .int) ∈ big := big_3 (List.mem_of_getElem? (i := 128) rfl) rfl
theorem mk_X1_35 : Cond.constant RX1 35 (1000000) ∈ big := big_3 (List.mem_of_getElem? (i := 129) rfl) rfl
theorem ml_X1_40 : Cond.methodLink RX1 40 yX1_leansWithFirst ∈ big := big_3 (List.mem_of_getElem? (i := 131) rfl) rfl
theorem mi_X1_leansWithFirst : Cond.instanceMethod yX1_leansWithFirst ∈ big := big_3 (List.mem_of_getElem? (i := 133) rfl) rfl
theorem mc_X1_leansWithFirst : Cond.code yX1_leansWithFirst cX1_leansWithFirst 6 (some .int) ∈ big := big_3 (List.mem_of_getElem? (i := 134) rfl) rfl
theorem ml_X1_49 : Cond.methodLink RX1 49 yX3_shareBehind ∈ big := big_3 (List.mem_of_getElem? (i := 135) rfl) rfl
theorem mi_X3_shareBehind : Cond.instanceMethod yX3_shareBehind ∈ big := big_3 (List.mem_of_getElem? (i := 136) rfl) rfl
theorem me_X3_shareBehind : Cond.selects RX3 yX3_shareBehind yX3_shareBehind ∈ big := big_3 (List.mem_of_getElem? (i := 137) rfl) rfl
theorem mc_X3_shareBehind : Cond.code yX3_shareBehind cX3_shareBehind 6 (some .int) ∈ big := big_3 (List.mem_of_getElem? (i := 138) rfl) rfl
theorem ml_X3_100 : Cond.methodLink RX3 100 yX3_bearingOf ∈ big := big_3 (List.mem_of_getElem? (i := 139) rfl) rfl
theorem ml_X3_103 : Cond.methodLink RX3 103 Lib.Math.min.name ∈ big := big_3 (List.mem_of_getElem? (i := 140) rfl) rfl
theorem ms_Mmin : Cond.static Lib.Math.min.name ∈ big := big_3 (List.mem_of_getElem? (i := 141) rfl) rfl
theorem mc_Mmin : Cond.code Lib.Math.min.name Lib.Math.min.code 2 (some .int) ∈ big := big_3 (List.mem_of_getElem? (i := 142) rfl) rfl
theorem ml_X3_108 : Cond.methodLink RX3 108 Lib.Math.max.name ∈ big := big_3 (List.mem_of_getElem? (i := 143) rfl) rfl
theorem ms_Mmax : Cond.static Lib.Math.max.name ∈ big := big_3 (List.mem_of_getElem? (i := 144) rfl) rfl
theorem mc_Mmax : Cond.code Lib.Math.max.name Lib.Math.max.code 2 (some .int) ∈ big := big_3 (List.mem_of_getElem? (i := 145) rfl) rfl
theorem ml_X1_53 : Cond.methodLink RX1 53 Lib.Math.abs.name ∈ big := big_3 (List.mem_of_getElem? (i := 146) rfl) rfl
theorem ms_Mabs : Cond.static Lib.Math.abs.name ∈ big := big_3 (List.mem_of_getElem? (i := 147) rfl) rfl
theorem mc_Mabs : Cond.code Lib.Math.abs.name Lib.Math.abs.code 1 (some .int) ∈ big := big_3 (List.mem_of_getElem? (i := 148) rfl) rfl
theorem ml_X1_44 : Cond.methodLink RX1 44 Lib.Math.min.name ∈ big := big_3 (List.mem_of_getElem? (i := 149) rfl) rfl
theorem ml_X6_236 : Cond.methodLink RX6 236 yX1_questionOfBest ∈ big := big_3 (List.mem_of_getElem? (i := 150) rfl) rfl
theorem mi_X1_questionOfBest : Cond.instanceMethod yX1_questionOfBest ∈ big := big_3 (List.mem_of_getElem? (i := 151) rfl) rfl
theorem me_X1_questionOfBest : Cond.selects RX1 yX1_questionOfBest yX1_questionOfBest ∈ big := big_3 (List.mem_of_getElem? (i := 152) rfl) rfl
theorem mc_X1_questionOfBest : Cond.code yX1_questionOfBest cX1_questionOfBest 6 (some .int) ∈ big := big_3 (List.mem_of_getElem? (i := 153) rfl) rfl
theorem ml_X1_32 : Cond.methodLink RX1 32 yX1_firstOf ∈ big := big_3 (List.mem_of_getElem? (i := 154) rfl) rfl
theorem mi_X1_firstOf : Cond.instanceMethod yX1_firstOf ∈ big := big_3 (List.mem_of_getElem? (i := 156) rfl) rfl
theorem mc_X1_firstOf : Cond.code yX1_firstOf cX1_firstOf 5 (some .int) ∈ big := big_3 (List.mem_of_getElem? (i := 157) rfl) rfl
theorem ml_L_102 : Cond.methodLink RL 102 yX6_blame ∈ big := big_3 (List.mem_of_getElem? (i := 158) rfl) rfl
theorem mi_X6_blame : Cond.instanceMethod yX6_blame ∈ big := big_3 (List.mem_of_getElem? (i := 159) rfl) rfl
theorem me_X6_blame : Cond.selects RX6 yX6_blame yX6_blame ∈ big := big_3 (List.mem_of_getElem? (i := 160) rfl) rfl
theorem mc_X6_blame : Cond.code yX6_blame cX6_blame 6 (some .int) ∈ big := big_3 (List.mem_of_getElem? (i := 161) rfl) rfl
theorem ml_X6_242 : Cond.methodLink RX6 242 Lib.Math.abs.name ∈ big := big_3 (List.mem_of_getElem? (i := 162) rfl) rfl
theorem ml_L_106 : Cond.methodLink RL 106 yX6_nothing ∈ big := big_3 (List.mem_of_getElem? (i := 163) rfl) rfl
theorem mi_X6_nothing : Cond.instanceMethod yX6_nothing ∈ big := big_3 (List.mem_of_getElem? (i := 164) rfl) rfl
theorem me_X6_nothing : Cond.selects RX6 yX6_nothing yX6_nothing ∈ big := big_3 (List.mem_of_getElem? (i := 165) rfl) rfl
theorem mc_X6_nothing : Cond.code yX6_nothing cX6_nothing 3 (some .int) ∈ big := big_3 (List.mem_of_getElem? (i := 166) rfl) rfl
theorem ml_L_110 : Cond.methodLink RL 110 yX6_enough ∈ big := big_3 (List.mem_of_getElem? (i := 167) rfl) rfl
theorem mi_X6_enough : Cond.instanceMethod yX6_enough ∈ big := big_3 (List.mem_of_getElem? (i := 168) rfl) rfl
theorem me_X6_enough : Cond.selects RX6 yX6_enough yX6_enough ∈ big := big_3 (List.mem_of_getElem? (i := 169) rfl) rfl
theorem mc_X6_enough : Cond.code yX6_enough cX6_enough 3 (some .int) ∈ big := big_3 (List.mem_of_getElem? (i := 170) rfl) rfl
theorem ml_X6_247 : Cond.methodLink RX6 247 yX6_refuseBelowNone ∈ big := big_3 (List.mem_of_getElem? (i := 171) rfl) rfl
theorem mi_X6_refuseBelowNone : Cond.instanceMethod yX6_refuseBelowNone ∈ big := big_3 (List.mem_of_getElem? (i := 173) rfl) rfl
theorem mc_X6_refuseBelowNone : Cond.code yX6_refuseBelowNone cX6_refuseBelowNone 2 (some .int) ∈ big := big_3 (List.mem_of_getElem? (i := 174) rfl) rfl
theorem ml_X6_250 : Cond.methodLink RX6 250 yX5_enoughFor ∈ big := big_3 (List.mem_of_getElem? (i := 175) rfl) rfl
theorem ms_X5_enoughFor : Cond.static yX5_enoughFor ∈ big := big_3 (List.mem_of_getElem? (i := 176) rfl) rfl
theorem mc_X5_enoughFor : Cond.code yX5_enoughFor cX5_enoughFor 4 (some .int) ∈ big := big_3 (List.mem_of_getElem? (i := 177) rfl) rfl
theorem ml_X5_59 : Cond.methodLink RX5 59 yX5_offBy ∈ big := big_3 (List.mem_of_getElem? (i := 178) rfl) rfl
theorem ml_X5_62 : Cond.methodLink RX5 62 Lib.Math.abs.name ∈ big := big_3 (List.mem_of_getElem? (i := 179) rfl) rfl
theorem ml_L_114 : Cond.methodLink RL 114 yX6_cost ∈ big := big_3 (List.mem_of_getElem? (i := 180) rfl) rfl
theorem mi_X6_cost : Cond.instanceMethod yX6_cost ∈ big := big_3 (List.mem_of_getElem? (i := 181) rfl) rfl
theorem me_X6_cost : Cond.selects RX6 yX6_cost yX6_cost ∈ big := big_3 (List.mem_of_getElem? (i := 182) rfl) rfl
theorem mc_X6_cost : Cond.code yX6_cost cX6_cost 2 (some .int) ∈ big := big_3 (List.mem_of_getElem? (i := 183) rfl) rfl
theorem ml_X6_253 : Cond.methodLink RX6 253 yX5_costOf ∈ big := big_3 (List.mem_of_getElem? (i := 184) rfl) rfl
theorem ms_X5_costOf : Cond.static yX5_costOf ∈ big := big_3 (List.mem_of_getElem? (i := 185) rfl) rfl
theorem mc_X5_costOf : Cond.code yX5_costOf cX5_costOf 4 (some .int) ∈ big := big_3 (List.mem_of_getElem? (i := 186) rfl) rfl
theorem ml_X5_52 : Cond.methodLink RX5 52 yX5_leftBy ∈ big := big_3 (List.mem_of_getElem? (i := 187) rfl) rfl
theorem ml_L_118 : Cond.methodLink RL 118 yX6_fine ∈ big := big_3 (List.mem_of_getElem? (i := 188) rfl) rfl
theorem mi_X6_fine : Cond.instanceMethod yX6_fine ∈ big := big_3 (List.mem_of_getElem? (i := 189) rfl) rfl
theorem me_X6_fine : Cond.selects RX6 yX6_fine yX6_fine ∈ big := big_3 (List.mem_of_getElem? (i := 190) rfl) rfl
theorem mc_X6_fine : Cond.code yX6_fine cX6_fine 3 (some .int) ∈ big := big_3 (List.mem_of_getElem? (i := 191) rfl) rfl
theorem ml_X6_256 : Cond.methodLink RX6 256 yX5_finest ∈ big := big_3 (List.mem_of_getElem? (i := 192) rfl) rfl
theorem ms_X5_finest : Cond.static yX5_finest ∈ big := big_3 (List.mem_of_getElem? (i := 193) rfl) rfl
theorem mc_X5_finest : Cond.code yX5_finest cX5_finest 7 (some .int) ∈ big := big_3 (List.mem_of_getElem? (i := 194) rfl) rfl
theorem mk_X5_67 : Cond.constant RX5 67 (1000000) ∈ big := big_3 (List.mem_of_getElem? (i := 195) rfl) rfl
theorem ml_X5_68 : Cond.methodLink RX5 68 yX5_costOf ∈ big := big_3 (List.mem_of_getElem? (i := 196) rfl) rfl
theorem ml_L_122 : Cond.methodLink RL 122 yX6_never ∈ big := big_3 (List.mem_of_getElem? (i := 197) rfl) rfl
theorem mi_X6_never : Cond.instanceMethod yX6_never ∈ big := big_3 (List.mem_of_getElem? (i := 198) rfl) rfl
theorem me_X6_never : Cond.selects RX6 yX6_never yX6_never ∈ big := big_3 (List.mem_of_getElem? (i := 199) rfl) rfl
theorem mc_X6_never : Cond.code yX6_never cX6_never 1 (some .int) ∈ big := big_3 (List.mem_of_getElem? (i := 200) rfl) rfl
theorem ml_X6_259 : Cond.methodLink RX6 259 yX5_groupsThatNeverAnswer ∈ big := big_3 (List.mem_of_getElem? (i := 201) rfl) rfl
theorem ms_X5_groupsThatNeverAnswer : Cond.static yX5_groupsThatNeverAnswer ∈ big := big_3 (List.mem_of_getElem? (i := 202) rfl) rfl
theorem mc_X5_groupsThatNeverAnswer : Cond.code yX5_groupsThatNeverAnswer cX5_groupsThatNeverAnswer 3 (some .int) ∈ big := big_3 (List.mem_of_getElem? (i := 203) rfl) rfl
theorem ml_L_126 : Cond.methodLink RL 126 yX6_late ∈ big := big_3 (List.mem_of_getElem? (i := 204) rfl) rfl
theorem mi_X6_late : Cond.instanceMethod yX6_late ∈ big := big_3 (List.mem_of_getElem? (i := 205) rfl) rfl
theorem me_X6_late : Cond.selects RX6 yX6_late yX6_late ∈ big := big_3 (List.mem_of_getElem? (i := 206) rfl) rfl
theorem mc_X6_late : Cond.code yX6_late cX6_late 3 (some .int) ∈ big := big_3 (List.mem_of_getElem? (i := 207) rfl) rfl
theorem ml_L_130 : Cond.methodLink RL 130 yX6_fits ∈ big := big_3 (List.mem_of_getElem? (i := 208) rfl) rfl
theorem mi_X6_fits : Cond.instanceMethod yX6_fits ∈ big := big_3 (List.mem_of_getElem? (i := 209) rfl) rfl
theorem me_X6_fits : Cond.selects RX6 yX6_fits yX6_fits ∈ big := big_3 (List.mem_of_getElem? (i := 210) rfl) rfl
theorem mc_X6_fits : Cond.code yX6_fits cX6_fits 5 (some .int) ∈ big := big_3 (List.mem_of_getElem? (i := 211) rfl) rfl
theorem ml_L_134 : Cond.methodLink RL 134 yX6_halves ∈ big := big_3 (List.mem_of_getElem? (i := 212) rfl) rfl
theorem mi_X6_halves : Cond.instanceMethod yX6_halves ∈ big := big_3 (List.mem_of_getElem? (i := 213) rfl) rfl
theorem me_X6_halves : Cond.selects RX6 yX6_halves yX6_halves ∈ big := big_3 (List.mem_of_getElem? (i := 214) rfl) rfl
theorem mc_X6_halves : Cond.code yX6_halves cX6_halves 2 (some .int) ∈ big := big_3 (List.mem_of_getElem? (i := 215) rfl) rfl
theorem ml_L_138 : Cond.methodLink RL 138 yX6_twin ∈ big := big_3 (List.mem_of_getElem? (i := 216) rfl) rfl
theorem mi_X6_twin : Cond.instanceMethod yX6_twin ∈ big := big_3 (List.mem_of_getElem? (i := 217) rfl) rfl
theorem me_X6_twin : Cond.selects RX6 yX6_twin yX6_twin ∈ big := big_3 (List.mem_of_getElem? (i := 218) rfl) rfl
theorem mc_X6_twin : Cond.code yX6_twin cX6_twin 7 (some .int) ∈ big := big_3 (List.mem_of_getElem? (i := 219) rfl) rfl
theorem mk_X6_263 : Cond.constant RX6 263 (1000000) ∈ big := big_3 (List.mem_of_getElem? (i := 220) rfl) rfl
theorem ml_L_142 : Cond.methodLink RL 142 yX6_nearest ∈ big := big_3 (List.mem_of_getElem? (i := 221) rfl) rfl
theorem mi_X6_nearest : Cond.instanceMethod yX6_nearest ∈ big := big_3 (List.mem_of_getElem? (i := 222) rfl) rfl
theorem me_X6_nearest : Cond.selects RX6 yX6_nearest yX6_nearest ∈ big := big_3 (List.mem_of_getElem? (i := 223) rfl) rfl
theorem mc_X6_nearest : Cond.code yX6_nearest cX6_nearest 5 (some .int) ∈ big := big_3 (List.mem_of_getElem? (i := 224) rfl) rfl
theorem ml_L_146 : Cond.methodLink RL 146 yX6_move ∈ big := big_3 (List.mem_of_getElem? (i := 225) rfl) rfl
theorem mi_X6_move : Cond.instanceMethod yX6_move ∈ big := big_3 (List.mem_of_getElem? (i := 226) rfl) rfl
theorem me_X6_move : Cond.selects RX6 yX6_move yX6_move ∈ big := big_3 (List.mem_of_getElem? (i := 227) rfl) rfl
theorem mc_X6_move : Cond.code yX6_move cX6_move 3 (some .int) ∈ big := big_3 (List.mem_of_getElem? (i := 228) rfl) rfl
theorem ml_X6_264 : Cond.methodLink RX6 264 yX3_leastMoved ∈ big := big_3 (List.mem_of_getElem? (i := 229) rfl) rfl
theorem mi_X3_leastMoved : Cond.instanceMethod yX3_leastMoved ∈ big := big_3 (List.mem_of_getElem? (i := 230) rfl) rfl
theorem me_X3_leastMoved : Cond.selects RX3 yX3_leastMoved yX3_leastMoved ∈ big := big_3 (List.mem_of_getElem? (i := 231) rfl) rfl
theorem mc_X3_leastMoved : Cond.code yX3_leastMoved cX3_leastMoved 10 (some .int) ∈ big := big_3 (List.mem_of_getElem? (i := 232) rfl) rfl
theorem ml_X3_121 : Cond.methodLink RX3 121 yX3_yesAs ∈ big := big_3 (List.mem_of_getElem? (i := 233) rfl) rfl
theorem ml_L_150 : Cond.methodLink RL 150 yX6_judge ∈ big := big_3 (List.mem_of_getElem? (i := 234) rfl) rfl
theorem mi_X6_judge : Cond.instanceMethod yX6_judge ∈ big := big_3 (List.mem_of_getElem? (i := 235) rfl) rfl
theorem me_X6_judge : Cond.selects RX6 yX6_judge yX6_judge ∈ big := big_3 (List.mem_of_getElem? (i := 236) rfl) rfl
theorem mc_X6_judge : Cond.code yX6_judge cX6_judge 4 (some .int) ∈ big := big_3 (List.mem_of_getElem? (i := 237) rfl) rfl
theorem ml_X6_267 : Cond.methodLink RX6 267 yX6_refusalOfRound ∈ big := big_3 (List.mem_of_getElem? (i := 238) rfl) rfl
theorem mi_X6_refusalOfRound : Cond.instanceMethod yX6_refusalOfRound ∈ big := big_4 (List.mem_of_getElem? (i := 0) rfl) rfl
theorem mc_X6_refusalOfRound : Cond.code yX6_refusalOfRound cX6_refusalOfRound 5 (some .int) ∈ big := big_4 (List.mem_of_getElem? (i := 1) rfl) rfl
theorem ml_X6_270 : Cond.methodLink RX6 270 yX6_wrongOfRound ∈ big := big_4 (List.mem_of_getElem? (i := 2) rfl) rfl
theorem mi_X6_wrongOfRound : Cond.instanceMethod yX6_wrongOfRound ∈ big := big_4 (List.mem_of_getElem? (i := 4) rfl) rfl
theorem mc_X6_wrongOfRound : Cond.code yX6_wrongOfRound cX6_wrongOfRound 6 (some .int) ∈ big := big_4 (List.mem_of_getElem? (i := 5) rfl) rfl
theorem ml_X6_323 : Cond.methodLink RX6 323 yX2_intAt ∈ big := big_4 (List.mem_of_getElem? (i := 6) rfl) rfl
theorem ml_X6_326 : Cond.methodLink RX6 326 yX6_contains ∈ big := big_4 (List.mem_of_getElem? (i := 7) rfl) rfl
theorem ml_L_154 : Cond.methodLink RL 154 yX6_round ∈ big := big_4 (List.mem_of_getElem? (i := 8) rfl) rfl
theorem mi_X6_round : Cond.instanceMethod yX6_round ∈ big := big_4 (List.mem_of_getElem? (i := 9) rfl) rfl
theorem me_X6_round : Cond.selects RX6 yX6_round yX6_round ∈ big := big_4 (List.mem_of_getElem? (i := 10) rfl) rfl
theorem mc_X6_round : Cond.code yX6_round cX6_round 5 (some .int) ∈ big := big_4 (List.mem_of_getElem? (i := 11) rfl) rfl
theorem ml_X6_273 : Cond.methodLink RX6 273 yX6_leansOfRound ∈ big := big_4 (List.mem_of_getElem? (i := 12) rfl) rfl
theorem mi_X6_leansOfRound : Cond.instanceMethod yX6_leansOfRound ∈ big := big_4 (List.mem_of_getElem? (i := 14) rfl) rfl
theorem mc_X6_leansOfRound : Cond.code yX6_leansOfRound cX6_leansOfRound 8 (some .int) ∈ big := big_4 (List.mem_of_getElem? (i := 15) rfl) rfl
theorem ml_X6_329 : Cond.methodLink RX6 329 yX3_shareBehind ∈ big := big_4 (List.mem_of_getElem? (i := 16) rfl) rfl
theorem ml_X6_276 : Cond.methodLink RX6 276 yX6_shareInRound ∈ big := big_4 (List.mem_of_getElem? (i := 17) rfl) rfl
theorem mi_X6_shareInRound : Cond.instanceMethod yX6_shareInRound ∈ big := big_4 (List.mem_of_getElem? (i := 19) rfl) rfl
theorem mc_X6_shareInRound : Cond.code yX6_shareInRound cX6_shareInRound 5 (some .int) ∈ big := big_4 (List.mem_of_getElem? (i := 20) rfl) rfl
theorem ml_L_158 : Cond.methodLink RL 158 yX6_change ∈ big := big_4 (List.mem_of_getElem? (i := 21) rfl) rfl
theorem mi_X6_change : Cond.instanceMethod yX6_change ∈ big := big_4 (List.mem_of_getElem? (i := 22) rfl) rfl
theorem me_X6_change : Cond.selects RX6 yX6_change yX6_change ∈ big := big_4 (List.mem_of_getElem? (i := 23) rfl) rfl
theorem mc_X6_change : Cond.code yX6_change cX6_change 5 (some .int) ∈ big := big_4 (List.mem_of_getElem? (i := 24) rfl) rfl
theorem ml_X6_279 : Cond.methodLink RX6 279 yX3_putView ∈ big := big_4 (List.mem_of_getElem? (i := 25) rfl) rfl
theorem mi_X3_putView : Cond.instanceMethod yX3_putView ∈ big := big_4 (List.mem_of_getElem? (i := 26) rfl) rfl
theorem me_X3_putView : Cond.selects RX3 yX3_putView yX3_putView ∈ big := big_4 (List.mem_of_getElem? (i := 27) rfl) rfl
theorem mc_X3_putView : Cond.code yX3_putView cX3_putView 3 (none) ∈ big := big_4 (List.mem_of_getElem? (i := 28) rfl) rfl
theorem ml_X6_282 : Cond.methodLink RX6 282 yX3_splitGroup ∈ big := big_4 (List.mem_of_getElem? (i := 29) rfl) rfl
theorem mi_X3_splitGroup : Cond.instanceMethod yX3_splitGroup ∈ big := big_4 (List.mem_of_getElem? (i := 30) rfl) rfl
theorem me_X3_splitGroup : Cond.selects RX3 yX3_splitGroup yX3_splitGroup ∈ big := big_4 (List.mem_of_getElem? (i := 31) rfl) rfl
theorem mc_X3_splitGroup : Cond.code yX3_splitGroup cX3_splitGroup 4 (some .int) ∈ big := big_4 (List.mem_of_getElem? (i := 32) rfl) rfl
theorem ml_X3_57 : Cond.methodLink RX3 57 yX3_homeOf ∈ big := big_4 (List.mem_of_getElem? (i := 33) rfl) rfl
theorem ml_X3_60 : Cond.methodLink RX3 60 yX3_willOf ∈ big := big_4 (List.mem_of_getElem? (i := 34) rfl) rfl
theorem ml_X3_63 : Cond.methodLink RX3 63 yX3_addGroup ∈ big := big_4 (List.mem_of_getElem? (i := 35) rfl) rfl
theorem ml_L_162 : Cond.methodLink RL 162 yX6_doors ∈ big := big_4 (List.mem_of_getElem? (i := 36) rfl) rfl
theorem mi_X6_doors : Cond.instanceMethod yX6_doors ∈ big := big_4 (List.mem_of_getElem? (i := 37) rfl) rfl
theorem me_X6_doors : Cond.selects RX6 yX6_doors yX6_doors ∈ big := big_4 (List.mem_of_getElem? (i := 38) rfl) rfl
theorem mc_X6_doors : Cond.code yX6_doors cX6_doors 4 (some .int) ∈ big := big_4 (List.mem_of_getElem? (i := 39) rfl) rfl
theorem ml_X6_291 : Cond.methodLink RX6 291 yX3_knock ∈ big := big_4 (List.mem_of_getElem? (i := 40) rfl) rfl
theorem mi_X3_knock : Cond.instanceMethod yX3_knock ∈ big := big_4 (List.mem_of_getElem? (i := 41) rfl) rfl
theorem me_X3_knock : Cond.selects RX3 yX3_knock yX3_knock ∈ big := big_4 (List.mem_of_getElem? (i := 42) rfl) rfl
theorem mc_X3_knock : Cond.code yX3_knock cX3_knock 4 (none) ∈ big := big_4 (List.mem_of_getElem? (i := 43) rfl) rfl
theorem ml_X3_125 : Cond.methodLink RX3 125 yX3_draw ∈ big := big_4 (List.mem_of_getElem? (i := 44) rfl) rfl
theorem mi_X3_draw : Cond.instanceMethod yX3_draw ∈ big := big_4 (List.mem_of_getElem? (i := 46) rfl) rfl
theorem mc_X3_draw : Cond.code yX3_draw cX3_draw 2 (some .int) ∈ big := big_4 (List.mem_of_getElem? (i := 47) rfl) rfl
theorem mk_X3_128 : Cond.constant RX3 128 (1103515245) ∈ big := big_4 (List.mem_of_getElem? (i := 48) rfl) rfl
theorem ml_L_166 : Cond.methodLink RL 166 yX6_seed ∈ big := big_4 (List.mem_of_getElem? (i := 49) rfl) rfl
theorem mi_X6_seed : Cond.instanceMethod yX6_seed ∈ big := big_4 (List.mem_of_getElem? (i := 50) rfl) rfl
theorem me_X6_seed : Cond.selects RX6 yX6_seed yX6_seed ∈ big := big_4 (List.mem_of_getElem? (i := 51) rfl) rfl
theorem mc_X6_seed : Cond.code yX6_seed cX6_seed 3 (some .int) ∈ big := big_4 (List.mem_of_getElem? (i := 52) rfl) rfl
theorem ml_L_170 : Cond.methodLink RL 170 yX6_act ∈ big := big_4 (List.mem_of_getElem? (i := 53) rfl) rfl
theorem mi_X6_act : Cond.instanceMethod yX6_act ∈ big := big_4 (List.mem_of_getElem? (i := 54) rfl) rfl
theorem me_X6_act : Cond.selects RX6 yX6_act yX6_act ∈ big := big_4 (List.mem_of_getElem? (i := 55) rfl) rfl
theorem mc_X6_act : Cond.code yX6_act cX6_act 4 (some .int) ∈ big := big_4 (List.mem_of_getElem? (i := 56) rfl) rfl
theorem ml_X6_297 : Cond.methodLink RX6 297 yX0_forget ∈ big := big_4 (List.mem_of_getElem? (i := 57) rfl) rfl
theorem mi_X0_forget : Cond.instanceMethod yX0_forget ∈ big := big_4 (List.mem_of_getElem? (i := 58) rfl) rfl
theorem me_X0_forget : Cond.selects RX0 yX0_forget yX0_forget ∈ big := big_4 (List.mem_of_getElem? (i := 59) rfl) rfl
theorem mc_X0_forget : Cond.code yX0_forget cX0_forget 1 (none) ∈ big := big_4 (List.mem_of_getElem? (i := 60) rfl) rfl
theorem ml_X6_300 : Cond.methodLink RX6 300 yX0_run ∈ big := big_4 (List.mem_of_getElem? (i := 61) rfl) rfl
theorem mi_X0_run : Cond.instanceMethod yX0_run ∈ big := big_4 (List.mem_of_getElem? (i := 62) rfl) rfl
theorem me_X0_run : Cond.selects RX0 yX0_run yX0_run ∈ big := big_4 (List.mem_of_getElem? (i := 63) rfl) rfl
theorem mc_X0_run : Cond.code yX0_run cX0_run 6 (some .int) ∈ big := big_4 (List.mem_of_getElem? (i := 64) rfl) rfl
theorem ml_X0_28 : Cond.methodLink RX0 28 yX0_asksFrom ∈ big := big_4 (List.mem_of_getElem? (i := 65) rfl) rfl
theorem mi_X0_asksFrom : Cond.instanceMethod yX0_asksFrom ∈ big := big_4 (List.mem_of_getElem? (i := 67) rfl) rfl
theorem mc_X0_asksFrom : Cond.code yX0_asksFrom cX0_asksFrom 3 (some .int) ∈ big := big_4 (List.mem_of_getElem? (i := 68) rfl) rfl
theorem ml_X0_47 : Cond.methodLink RX0 47 yX0_begin ∈ big := big_4 (List.mem_of_getElem? (i := 69) rfl) rfl
theorem mi_X0_begin : Cond.instanceMethod yX0_begin ∈ big := big_4 (List.mem_of_getElem? (i := 71) rfl) rfl
theorem mc_X0_begin : Cond.code yX0_begin cX0_begin 2 (none) ∈ big := big_4 (List.mem_of_getElem? (i := 72) rfl) rfl
theorem ml_X0_32 : Cond.methodLink RX0 32 yX0_leansFrom ∈ big := big_4 (List.mem_of_getElem? (i := 73) rfl) rfl
theorem mi_X0_leansFrom : Cond.instanceMethod yX0_leansFrom ∈ big := big_4 (List.mem_of_getElem? (i := 75) rfl) rfl
theorem mc_X0_leansFrom : Cond.code yX0_leansFrom cX0_leansFrom 3 (some .int) ∈ big := big_4 (List.mem_of_getElem? (i := 76) rfl) rfl
theorem ml_X0_35 : Cond.methodLink RX0 35 yX0_sumsFrom ∈ big := big_4 (List.mem_of_getElem? (i := 77) rfl) rfl
theorem mi_X0_sumsFrom : Cond.instanceMethod yX0_sumsFrom ∈ big := big_4 (List.mem_of_getElem? (i := 79) rfl) rfl
theorem mc_X0_sumsFrom : Cond.code yX0_sumsFrom cX0_sumsFrom 3 (some .int) ∈ big := big_4 (List.mem_of_getElem? (i := 80) rfl) rfl
theorem ml_L_174 : Cond.methodLink RL 174 yX6_trace ∈ big := big_4 (List.mem_of_getElem? (i := 81) rfl) rfl
theorem mi_X6_trace : Cond.instanceMethod yX6_trace ∈ big := big_4 (List.mem_of_getElem? (i := 82) rfl) rfl
theorem me_X6_trace : Cond.selects RX6 yX6_trace yX6_trace ∈ big := big_4 (List.mem_of_getElem? (i := 83) rfl) rfl
theorem mc_X6_trace : Cond.code yX6_trace cX6_trace 2 (some .int) ∈ big := big_4 (List.mem_of_getElem? (i := 84) rfl) rfl
theorem ml_X6_303 : Cond.methodLink RX6 303 yX0_traceAt ∈ big := big_4 (List.mem_of_getElem? (i := 85) rfl) rfl
theorem mi_X0_traceAt : Cond.instanceMethod yX0_traceAt ∈ big := big_4 (List.mem_of_getElem? (i := 86) rfl) rfl
theorem me_X0_traceAt : Cond.selects RX0 yX0_traceAt yX0_traceAt ∈ big := big_4 (List.mem_of_getElem? (i := 87) rfl) rfl
theorem mc_X0_traceAt : Cond.code yX0_traceAt cX0_traceAt 2 (some .int) ∈ big := big_4 (List.mem_of_getElem? (i := 88) rfl) rfl
theorem ml_X0_38 : Cond.methodLink RX0 38 Lib.Math.min.name ∈ big := big_4 (List.mem_of_getElem? (i := 89) rfl) rfl
theorem ml_L_178 : Cond.methodLink RL 178 yX6_image ∈ big := big_4 (List.mem_of_getElem? (i := 91) rfl) rfl
theorem mi_X6_image : Cond.instanceMethod yX6_image ∈ big := big_4 (List.mem_of_getElem? (i := 92) rfl) rfl
theorem me_X6_image : Cond.selects RX6 yX6_image yX6_image ∈ big := big_4 (List.mem_of_getElem? (i := 93) rfl) rfl
theorem mc_X6_image : Cond.code yX6_image cX6_image 1 (some .int) ∈ big := big_4 (List.mem_of_getElem? (i := 94) rfl) rfl
theorem ml_L_182 : Cond.methodLink RL 182 yX6_restore ∈ big := big_4 (List.mem_of_getElem? (i := 95) rfl) rfl
theorem mi_X6_restore : Cond.instanceMethod yX6_restore ∈ big := big_4 (List.mem_of_getElem? (i := 96) rfl) rfl
theorem me_X6_restore : Cond.selects RX6 yX6_restore yX6_restore ∈ big := big_4 (List.mem_of_getElem? (i := 97) rfl) rfl
theorem mc_X6_restore : Cond.code yX6_restore cX6_restore 1 (some .int) ∈ big := big_4 (List.mem_of_getElem? (i := 98) rfl) rfl
theorem ml_X6_310 : Cond.methodLink RX6 310 yX2_dropQuestionsFrom ∈ big := big_4 (List.mem_of_getElem? (i := 99) rfl) rfl
theorem mi_X2_dropQuestionsFrom : Cond.instanceMethod yX2_dropQuestionsFrom ∈ big := big_4 (List.mem_of_getElem? (i := 100) rfl) rfl
theorem me_X2_dropQuestionsFrom : Cond.selects RX2 yX2_dropQuestionsFrom yX2_dropQuestionsFrom ∈ big := big_4 (List.mem_of_getElem? (i := 101) rfl) rfl
theorem mc_X2_dropQuestionsFrom : Cond.code yX2_dropQuestionsFrom cX2_dropQuestionsFrom 3 (none) ∈ big := big_4 (List.mem_of_getElem? (i := 102) rfl) rfl
theorem ml_L_186 : Cond.methodLink RL 186 yX6_status ∈ big := big_4 (List.mem_of_getElem? (i := 103) rfl) rfl
theorem mi_X6_status : Cond.instanceMethod yX6_status ∈ big := big_4 (List.mem_of_getElem? (i := 104) rfl) rfl
theorem me_X6_status : Cond.selects RX6 yX6_status yX6_status ∈ big := big_4 (List.mem_of_getElem? (i := 105) rfl) rfl
theorem mc_X6_status : Cond.code yX6_status cX6_status 2 (some .int) ∈ big := big_4 (List.mem_of_getElem? (i := 106) rfl) rfl
theorem ml_X6_314 : Cond.methodLink RX6 314 yX3_peopleOf ∈ big := big_4 (List.mem_of_getElem? (i := 107) rfl) rfl
theorem mn_L_10 : Cond.classLink RL 10 RX7 ∈ big := big_4 (List.mem_of_getElem? (i := 108) rfl) rfl
theorem mb_X7 : Cond.instantiable RX7 33 ∈ big := big_4 (List.mem_of_getElem? (i := 109) rfl) rfl
theorem ml_L_12 : Cond.methodLink RL 12 yX7_init ∈ big := big_4 (List.mem_of_getElem? (i := 110) rfl) rfl
theorem mi_X7_init : Cond.instanceMethod yX7_init ∈ big := big_4 (List.mem_of_getElem? (i := 111) rfl) rfl
theorem mc_X7_init : Cond.code yX7_init cX7_init 2 (none) ∈ big := big_4 (List.mem_of_getElem? (i := 112) rfl) rfl
theorem ml_X7_1 : Cond.methodLink RX7 1 objectInit ∈ big := big_4 (List.mem_of_getElem? (i := 113) rfl) rfl
theorem mf_X7_7 : Cond.fieldLink RX7 7 "AskedTheOtherWayAboutModel" "holding" "[I" ∈ big := big_4 (List.mem_of_getElem? (i := 114) rfl) rfl
theorem mf_X7_13 : Cond.fieldLink RX7 13 "AskedTheOtherWayAboutModel" "rowLength" "[I" ∈ big := big_4 (List.mem_of_getElem? (i := 115) rfl) rfl
theorem mf_X7_16 : Cond.fieldLink RX7 16 "AskedTheOtherWayAboutModel" "rowOf" "[J" ∈ big := big_4 (List.mem_of_getElem? (i := 116) rfl) rfl
theorem mf_X7_85 : Cond.fieldLink RX7 85 "AskedTheOtherWayAboutModel" "questions" "I" ∈ big := big_4 (List.mem_of_getElem? (i := 117) rfl) rfl
theorem mf_X7_20 : Cond.fieldLink RX7 20 "AskedTheOtherWayAboutModel" "kind" "[I" ∈ big := big_4 (List.mem_of_getElem? (i := 118) rfl) rfl
theorem mf_X7_23 : Cond.fieldLink RX7 23 "AskedTheOtherWayAboutModel" "own" "[I" ∈ big := big_4 (List.mem_of_getElem? (i := 119) rfl) rfl
theorem mf_X7_26 : Cond.fieldLink RX7 26 "AskedTheOtherWayAboutModel" "bears" "[I" ∈ big := big_4 (List.mem_of_getElem? (i := 120) rfl) rfl
theorem mf_X7_92 : Cond.fieldLink RX7 92 "AskedTheOtherWayAboutModel" "groups" "I" ∈ big := big_4 (List.mem_of_getElem? (i := 121) rfl) rfl
theorem mf_X7_29 : Cond.fieldLink RX7 29 "AskedTheOtherWayAboutModel" "count" "[I" ∈ big := big_4 (List.mem_of_getElem? (i := 122) rfl) rfl
theorem mf_X7_32 : Cond.fieldLink RX7 32 "AskedTheOtherWayAboutModel" "view" "[I" ∈ big := big_4 (List.mem_of_getElem? (i := 123) rfl) rfl
theorem mf_X7_35 : Cond.fieldLink RX7 35 "AskedTheOtherWayAboutModel" "glad" "[I" ∈ big := big_4 (List.mem_of_getElem? (i := 124) rfl) rfl
theorem mf_X7_38 : Cond.fieldLink RX7 38 "AskedTheOtherWayAboutModel" "home" "[I" ∈ big := big_4 (List.mem_of_getElem? (i := 125) rfl) rfl
theorem mf_X7_41 : Cond.fieldLink RX7 41 "AskedTheOtherWayAboutModel" "will" "[I" ∈ big := big_4 (List.mem_of_getElem? (i := 126) rfl) rfl
theorem mf_X7_71 : Cond.fieldLink RX7 71 "AskedTheOtherWayAboutModel" "penny" "I" ∈ big := big_4 (List.mem_of_getElem? (i := 127) rfl) rfl
theorem mf_X7_139 : Cond.fieldLink RX7 139 "AskedTheOtherWayAboutModel" "half" "I" ∈ big := big_4 (List.mem_of_getElem? (i := 128) rfl) rfl
theorem mf_X7_297 : Cond.fieldLink RX7 297 "AskedTheOtherWayAboutModel" "asked" "I" ∈ big := big_4 (List.mem_of_getElem? (i := 129) rfl) rfl
theorem mf_X7_291 : Cond.fieldLink RX7 291 "AskedTheOtherWayAboutModel" "yeses" "I" ∈ big := big_4 (List.mem_of_getElem? (i := 130) rfl) rfl
theorem mf_X7_75 : Cond.fieldLink RX7 75 "AskedTheOtherWayAboutModel" "seed" "I" ∈ big := big_4 (List.mem_of_getElem? (i := 131) rfl) rfl
theorem mf_X7_78 : Cond.fieldLink RX7 78 "AskedTheOtherWayAboutModel" "fault" "I" ∈ big := big_4 (List.mem_of_getElem? (i := 132) rfl) rfl
theorem mf_X7_44 : Cond.fieldLink RX7 44 "AskedTheOtherWayAboutModel" "refusals" "[I" ∈ big := big_4 (List.mem_of_getElem? (i := 133) rfl) rfl
theorem mf_X7_300 : Cond.fieldLink RX7 300 "AskedTheOtherWayAboutModel" "traced" "I" ∈ big := big_4 (List.mem_of_getElem? (i := 134) rfl) rfl
theorem mf_X7_47 : Cond.fieldLink RX7 47 "AskedTheOtherWayAboutModel" "traces" "[I" ∈ big := big_4 (List.mem_of_getElem? (i := 135) rfl) rfl
theorem mf_X7_316 : Cond.fieldLink RX7 316 "AskedTheOtherWayAboutModel" "imaged" "Z" ∈ big := big_4 (List.mem_of_getElem? (i := 136) rfl) rfl
theorem mf_X7_50 : Cond.fieldLink RX7 50 "AskedTheOtherWayAboutModel" "old" "[I" ∈ big := big_4 (List.mem_of_getElem? (i := 137) rfl) rfl
theorem mf_X7_53 : Cond.fieldLink RX7 53 "AskedTheOtherWayAboutModel" "ahead" "[I" ∈ big := big_4 (List.mem_of_getElem? (i := 138) rfl) rfl
theorem mf_X7_145 : Cond.fieldLink RX7 145 "AskedTheOtherWayAboutModel" "reading" "I" ∈ big := big_4 (List.mem_of_getElem? (i := 139) rfl) rfl
theorem mf_X7_142 : Cond.fieldLink RX7 142 "AskedTheOtherWayAboutModel" "at" "I" ∈ big := big_4 (List.mem_of_getElem? (i := 140) rfl) rfl
theorem mf_X7_56 : Cond.fieldLink RX7 56 "AskedTheOtherWayAboutModel" "numbers" "[I" ∈ big := big_4 (List.mem_of_getElem? (i := 141) rfl) rfl
theorem mf_X7_59 : Cond.fieldLink RX7 59 "AskedTheOtherWayAboutModel" "answer" "[I" ∈ big := big_4 (List.mem_of_getElem? (i := 142) rfl) rfl
theorem mf_X7_62 : Cond.fieldLink RX7 62 "AskedTheOtherWayAboutModel" "left" "[I" ∈ big := big_4 (List.mem_of_getElem? (i := 143) rfl) rfl
theorem mf_X7_65 : Cond.fieldLink RX7 65 "AskedTheOtherWayAboutModel" "order" "[I" ∈ big := big_4 (List.mem_of_getElem? (i := 144) rfl) rfl
theorem mf_X7_68 : Cond.fieldLink RX7 68 "AskedTheOtherWayAboutModel" "best" "[I" ∈ big := big_4 (List.mem_of_getElem? (i := 145) rfl) rfl
theorem mf_X7_245 : Cond.fieldLink RX7 245 "AskedTheOtherWayAboutModel" "many" "I" ∈ big := big_4 (List.mem_of_getElem? (i := 146) rfl) rfl
theorem ml_L_17 : Cond.methodLink RL 17 yX7_row ∈ big := big_4 (List.mem_of_getElem? (i := 214) rfl) rfl
theorem mi_X7_row : Cond.instanceMethod yX7_row ∈ big := big_4 (List.mem_of_getElem? (i := 215) rfl) rfl
theorem me_X7_row : Cond.selects RX7 yX7_row yX7_row ∈ big := big_4 (List.mem_of_getElem? (i := 216) rfl) rfl
theorem mc_X7_row : Cond.code yX7_row cX7_row 5 (some .int) ∈ big := big_4 (List.mem_of_getElem? (i := 217) rfl) rfl
theorem ml_X7_88 : Cond.methodLink RX7 88 yX7_within ∈ big := big_4 (List.mem_of_getElem? (i := 218) rfl) rfl
theorem ms_X7_within : Cond.static yX7_within ∈ big := big_4 (List.mem_of_getElem? (i := 219) rfl) rfl
theorem mc_X7_within : Cond.code yX7_within cX7_within 3 (some .boolean) ∈ big := big_4 (List.mem_of_getElem? (i := 220) rfl) rfl
theorem ml_X7_81 : Cond.methodLink RX7 81 yX7_no ∈ big := big_4 (List.mem_of_getElem? (i := 221) rfl) rfl
theorem mi_X7_no : Cond.instanceMethod yX7_no ∈ big := big_4 (List.mem_of_getElem? (i := 223) rfl) rfl
theorem mc_X7_no : Cond.code yX7_no cX7_no 2 (some .int) ∈ big := big_4 (List.mem_of_getElem? (i := 224) rfl) rfl
theorem ml_L_24 : Cond.methodLink RL 24 yX7_set ∈ big := big_4 (List.mem_of_getElem? (i := 225) rfl) rfl
theorem mi_X7_set : Cond.instanceMethod yX7_set ∈ big := big_4 (List.mem_of_getElem? (i := 226) rfl) rfl
theorem me_X7_set : Cond.selects RX7 yX7_set yX7_set ∈ big := big_4 (List.mem_of_getElem? (i := 227) rfl) rfl
theorem mc_X7_set : Cond.code yX7_set cX7_set 7 (some .int) ∈ big := big_4 (List.mem_of_getElem? (i := 228) rfl) rfl
theorem ml_X7_99 : Cond.methodLink RX7 99 yX7_noRow ∈ big := big_4 (List.mem_of_getElem? (i := 229) rfl) rfl
theorem mi_X7_noRow : Cond.instanceMethod yX7_noRow ∈ big := big_4 (List.mem_of_getElem? (i := 231) rfl) rfl
theorem mc_X7_noRow : Cond.code yX7_noRow cX7_noRow 2 (some .int) ∈ big := big_4 (List.mem_of_getElem? (i := 232) rfl) rfl
theorem ml_X7_95 : Cond.methodLink RX7 95 yX7_isRow ∈ big := big_4 (List.mem_of_getElem? (i := 233) rfl) rfl
theorem mi_X7_isRow : Cond.instanceMethod yX7_isRow ∈ big := big_4 (List.mem_of_getElem? (i := 235) rfl) rfl
theorem mc_X7_isRow : Cond.code yX7_isRow cX7_isRow 2 (some .boolean) ∈ big := big_4 (List.mem_of_getElem? (i := 236) rfl) rfl
theorem ml_L_29 : Cond.methodLink RL 29 yX7_copy ∈ big := big_4 (List.mem_of_getElem? (i := 237) rfl) rfl
theorem mi_X7_copy : Cond.instanceMethod yX7_copy ∈ big := big_4 (List.mem_of_getElem? (i := 238) rfl) rfl
theorem me_X7_copy : Cond.selects RX7 yX7_copy yX7_copy ∈ big := big_4 (List.mem_of_getElem? (i := 239) rfl) rfl
theorem mc_X7_copy : Cond.code yX7_copy cX7_copy 7 (some .int) ∈ big := big_5 (List.mem_of_getElem? (i := 0) rfl) rfl
theorem ml_L_34 : Cond.methodLink RL 34 yX7_element ∈ big := big_5 (List.mem_of_getElem? (i := 1) rfl) rfl
theorem mi_X7_element : Cond.instanceMethod yX7_element ∈ big := big_5 (List.mem_of_getElem? (i := 2) rfl) rfl
theorem me_X7_element : Cond.selects RX7 yX7_element yX7_element ∈ big := big_5 (List.mem_of_getElem? (i := 3) rfl) rfl
theorem mc_X7_element : Cond.code yX7_element cX7_element 3 (some .long) ∈ big := big_5 (List.mem_of_getElem? (i := 4) rfl) rfl
theorem ml_L_39 : Cond.methodLink RL 39 yX7_show ∈ big := big_5 (List.mem_of_getElem? (i := 5) rfl) rfl
theorem mi_X7_show : Cond.instanceMethod yX7_show ∈ big := big_5 (List.mem_of_getElem? (i := 6) rfl) rfl
theorem me_X7_show : Cond.selects RX7 yX7_show yX7_show ∈ big := big_5 (List.mem_of_getElem? (i := 7) rfl) rfl
theorem mc_X7_show : Cond.code yX7_show cX7_show 3 (some .int) ∈ big := big_5 (List.mem_of_getElem? (i := 8) rfl) rfl
theorem ml_X7_102 : Cond.methodLink RX7 102 yX7_isQuestion ∈ big := big_5 (List.mem_of_getElem? (i := 9) rfl) rfl
theorem mi_X7_isQuestion : Cond.instanceMethod yX7_isQuestion ∈ big := big_5 (List.mem_of_getElem? (i := 11) rfl) rfl
theorem mc_X7_isQuestion : Cond.code yX7_isQuestion cX7_isQuestion 2 (some .boolean) ∈ big := big_5 (List.mem_of_getElem? (i := 12) rfl) rfl
theorem ml_L_44 : Cond.methodLink RL 44 yX7_holds ∈ big := big_5 (List.mem_of_getElem? (i := 13) rfl) rfl
theorem mi_X7_holds : Cond.instanceMethod yX7_holds ∈ big := big_5 (List.mem_of_getElem? (i := 14) rfl) rfl
theorem me_X7_holds : Cond.selects RX7 yX7_holds yX7_holds ∈ big := big_5 (List.mem_of_getElem? (i := 15) rfl) rfl
theorem mc_X7_holds : Cond.code yX7_holds cX7_holds 2 (some .int) ∈ big := big_5 (List.mem_of_getElem? (i := 16) rfl) rfl
theorem ml_L_48 : Cond.methodLink RL 48 yX7_says ∈ big := big_5 (List.mem_of_getElem? (i := 17) rfl) rfl
theorem mi_X7_says : Cond.instanceMethod yX7_says ∈ big := big_5 (List.mem_of_getElem? (i := 18) rfl) rfl
theorem me_X7_says : Cond.selects RX7 yX7_says yX7_says ∈ big := big_5 (List.mem_of_getElem? (i := 19) rfl) rfl
theorem mc_X7_says : Cond.code yX7_says cX7_says 4 (some .int) ∈ big := big_5 (List.mem_of_getElem? (i := 20) rfl) rfl
theorem ml_X7_108 : Cond.methodLink RX7 108 yX7_isUnder ∈ big := big_5 (List.mem_of_getElem? (i := 21) rfl) rfl
theorem ms_X7_isUnder : Cond.static yX7_isUnder ∈ big := big_5 (List.mem_of_getElem? (i := 22) rfl) rfl
theorem mc_X7_isUnder : Cond.code yX7_isUnder cX7_isUnder 3 (some .boolean) ∈ big := big_5 (List.mem_of_getElem? (i := 23) rfl) rfl
theorem ml_X7_105 : Cond.methodLink RX7 105 yX7_above ∈ big := big_5 (List.mem_of_getElem? (i := 24) rfl) rfl
theorem ms_X7_above : Cond.static yX7_above ∈ big := big_5 (List.mem_of_getElem? (i := 25) rfl) rfl
theorem mc_X7_above : Cond.code yX7_above cX7_above 1 (some .int) ∈ big := big_5 (List.mem_of_getElem? (i := 26) rfl) rfl
theorem ml_X7_112 : Cond.methodLink RX7 112 yX7_shareOf ∈ big := big_5 (List.mem_of_getElem? (i := 27) rfl) rfl
theorem mi_X7_shareOf : Cond.instanceMethod yX7_shareOf ∈ big := big_5 (List.mem_of_getElem? (i := 29) rfl) rfl
theorem mc_X7_shareOf : Cond.code yX7_shareOf cX7_shareOf 2 (some .int) ∈ big := big_5 (List.mem_of_getElem? (i := 30) rfl) rfl
theorem ml_X7_130 : Cond.methodLink RX7 130 yX7_all ∈ big := big_5 (List.mem_of_getElem? (i := 31) rfl) rfl
theorem mi_X7_all : Cond.instanceMethod yX7_all ∈ big := big_5 (List.mem_of_getElem? (i := 33) rfl) rfl
theorem mc_X7_all : Cond.code yX7_all cX7_all 4 (some .int) ∈ big := big_5 (List.mem_of_getElem? (i := 34) rfl) rfl
theorem ml_X7_207 : Cond.methodLink RX7 207 yX7_yesBy ∈ big := big_5 (List.mem_of_getElem? (i := 35) rfl) rfl
theorem mi_X7_yesBy : Cond.instanceMethod yX7_yesBy ∈ big := big_5 (List.mem_of_getElem? (i := 37) rfl) rfl
theorem mc_X7_yesBy : Cond.code yX7_yesBy cX7_yesBy 4 (some .int) ∈ big := big_5 (List.mem_of_getElem? (i := 38) rfl) rfl
theorem ml_X7_115 : Cond.methodLink RX7 115 yX7_yesOf ∈ big := big_5 (List.mem_of_getElem? (i := 39) rfl) rfl
theorem mi_X7_yesOf : Cond.instanceMethod yX7_yesOf ∈ big := big_5 (List.mem_of_getElem? (i := 41) rfl) rfl
theorem mc_X7_yesOf : Cond.code yX7_yesOf cX7_yesOf 8 (some .int) ∈ big := big_5 (List.mem_of_getElem? (i := 42) rfl) rfl
theorem ml_X7_202 : Cond.methodLink RX7 202 Lib.Math.min.name ∈ big := big_5 (List.mem_of_getElem? (i := 43) rfl) rfl
theorem ml_X7_211 : Cond.methodLink RX7 211 yX7_people ∈ big := big_5 (List.mem_of_getElem? (i := 44) rfl) rfl
theorem mi_X7_people : Cond.instanceMethod yX7_people ∈ big := big_5 (List.mem_of_getElem? (i := 46) rfl) rfl
theorem mc_X7_people : Cond.code yX7_people cX7_people 3 (some .int) ∈ big := big_5 (List.mem_of_getElem? (i := 47) rfl) rfl
theorem ml_X7_214 : Cond.methodLink RX7 214 yX7_thousandths ∈ big := big_5 (List.mem_of_getElem? (i := 48) rfl) rfl
theorem ms_X7_thousandths : Cond.static yX7_thousandths ∈ big := big_5 (List.mem_of_getElem? (i := 49) rfl) rfl
theorem mc_X7_thousandths : Cond.code yX7_thousandths cX7_thousandths 2 (some .int) ∈ big := big_5 (List.mem_of_getElem? (i := 50) rfl) rfl
theorem ml_L_52 : Cond.methodLink RL 52 yX7_question ∈ big := big_5 (List.mem_of_getElem? (i := 51) rfl) rfl
theorem mi_X7_question : Cond.instanceMethod yX7_question ∈ big := big_5 (List.mem_of_getElem? (i := 52) rfl) rfl
theorem me_X7_question : Cond.selects RX7 yX7_question yX7_question ∈ big := big_5 (List.mem_of_getElem? (i := 53) rfl) rfl
theorem mc_X7_question : Cond.code yX7_question cX7_question 3 (some .int) ∈ big := big_5 (List.mem_of_getElem? (i := 54) rfl) rfl
theorem ml_X7_119 : Cond.methodLink RX7 119 yX7_newQuestion ∈ big := big_5 (List.mem_of_getElem? (i := 55) rfl) rfl
theorem mi_X7_newQuestion : Cond.instanceMethod yX7_newQuestion ∈ big := big_5 (List.mem_of_getElem? (i := 57) rfl) rfl
theorem mc_X7_newQuestion : Cond.code yX7_newQuestion cX7_newQuestion 4 (some .int) ∈ big := big_5 (List.mem_of_getElem? (i := 58) rfl) rfl
theorem ml_L_56 : Cond.methodLink RL 56 yX7_group ∈ big := big_5 (List.mem_of_getElem? (i := 59) rfl) rfl
theorem mi_X7_group : Cond.instanceMethod yX7_group ∈ big := big_5 (List.mem_of_getElem? (i := 60) rfl) rfl
theorem me_X7_group : Cond.selects RX7 yX7_group yX7_group ∈ big := big_5 (List.mem_of_getElem? (i := 61) rfl) rfl
theorem mc_X7_group : Cond.code yX7_group cX7_group 6 (some .int) ∈ big := big_5 (List.mem_of_getElem? (i := 62) rfl) rfl
theorem ml_X7_123 : Cond.methodLink RX7 123 yX7_newGroup ∈ big := big_5 (List.mem_of_getElem? (i := 63) rfl) rfl
theorem mi_X7_newGroup : Cond.instanceMethod yX7_newGroup ∈ big := big_5 (List.mem_of_getElem? (i := 65) rfl) rfl
theorem mc_X7_newGroup : Cond.code yX7_newGroup cX7_newGroup 6 (some .int) ∈ big := big_5 (List.mem_of_getElem? (i := 66) rfl) rfl
theorem ml_L_60 : Cond.methodLink RL 60 yX7_questionOf ∈ big := big_5 (List.mem_of_getElem? (i := 67) rfl) rfl
theorem mi_X7_questionOf : Cond.instanceMethod yX7_questionOf ∈ big := big_5 (List.mem_of_getElem? (i := 68) rfl) rfl
theorem me_X7_questionOf : Cond.selects RX7 yX7_questionOf yX7_questionOf ∈ big := big_5 (List.mem_of_getElem? (i := 69) rfl) rfl
theorem mc_X7_questionOf : Cond.code yX7_questionOf cX7_questionOf 3 (some .int) ∈ big := big_5 (List.mem_of_getElem? (i := 70) rfl) rfl
theorem ml_X7_127 : Cond.methodLink RX7 127 yX7_noMuch ∈ big := big_5 (List.mem_of_getElem? (i := 71) rfl) rfl
theorem mi_X7_noMuch : Cond.instanceMethod yX7_noMuch ∈ big := big_5 (List.mem_of_getElem? (i := 73) rfl) rfl
theorem mc_X7_noMuch : Cond.code yX7_noMuch cX7_noMuch 2 (some .int) ∈ big := big_5 (List.mem_of_getElem? (i := 74) rfl) rfl
theorem ml_X7_133 : Cond.methodLink RX7 133 yX7_wrongOf ∈ big := big_5 (List.mem_of_getElem? (i := 75) rfl) rfl
theorem mi_X7_wrongOf : Cond.instanceMethod yX7_wrongOf ∈ big := big_5 (List.mem_of_getElem? (i := 77) rfl) rfl
theorem mc_X7_wrongOf : Cond.code yX7_wrongOf cX7_wrongOf 3 (some .int) ∈ big := big_5 (List.mem_of_getElem? (i := 78) rfl) rfl
theorem ml_X7_232 : Cond.methodLink RX7 232 yX7_hold ∈ big := big_5 (List.mem_of_getElem? (i := 79) rfl) rfl
theorem mi_X7_hold : Cond.instanceMethod yX7_hold ∈ big := big_5 (List.mem_of_getElem? (i := 80) rfl) rfl
theorem me_X7_hold : Cond.selects RX7 yX7_hold yX7_hold ∈ big := big_5 (List.mem_of_getElem? (i := 81) rfl) rfl
theorem mc_X7_hold : Cond.code yX7_hold cX7_hold 3 (some .int) ∈ big := big_5 (List.mem_of_getElem? (i := 82) rfl) rfl
theorem ml_L_64 : Cond.methodLink RL 64 yX7_groupOf ∈ big := big_5 (List.mem_of_getElem? (i := 83) rfl) rfl
theorem mi_X7_groupOf : Cond.instanceMethod yX7_groupOf ∈ big := big_5 (List.mem_of_getElem? (i := 84) rfl) rfl
theorem me_X7_groupOf : Cond.selects RX7 yX7_groupOf yX7_groupOf ∈ big := big_5 (List.mem_of_getElem? (i := 85) rfl) rfl
theorem mc_X7_groupOf : Cond.code yX7_groupOf cX7_groupOf 3 (some .int) ∈ big := big_5 (List.mem_of_getElem? (i := 86) rfl) rfl
theorem ml_X7_136 : Cond.methodLink RX7 136 yX7_isGroup ∈ big := big_5 (List.mem_of_getElem? (i := 87) rfl) rfl
theorem mi_X7_isGroup : Cond.instanceMethod yX7_isGroup ∈ big := big_5 (List.mem_of_getElem? (i := 89) rfl) rfl
theorem mc_X7_isGroup : Cond.code yX7_isGroup cX7_isGroup 2 (some .boolean) ∈ big := big_5 (List.mem_of_getElem? (i := 90) rfl) rfl
theorem ml_L_68 : Cond.methodLink RL 68 yX7_bears ∈ big := big_5 (List.mem_of_getElem? (i := 91) rfl) rfl
theorem mi_X7_bears : Cond.instanceMethod yX7_bears ∈ big := big_5 (List.mem_of_getElem? (i := 92) rfl) rfl
theorem me_X7_bears : Cond.selects RX7 yX7_bears yX7_bears ∈ big := big_5 (List.mem_of_getElem? (i := 93) rfl) rfl
theorem mc_X7_bears : Cond.code yX7_bears cX7_bears 5 (some .int) ∈ big := big_5 (List.mem_of_getElem? (i := 94) rfl) rfl
theorem ml_L_72 : Cond.methodLink RL 72 yX7_ask ∈ big := big_5 (List.mem_of_getElem? (i := 95) rfl) rfl
theorem mi_X7_ask : Cond.instanceMethod yX7_ask ∈ big := big_5 (List.mem_of_getElem? (i := 96) rfl) rfl
theorem me_X7_ask : Cond.selects RX7 yX7_ask yX7_ask ∈ big := big_5 (List.mem_of_getElem? (i := 97) rfl) rfl
theorem mc_X7_ask : Cond.code yX7_ask cX7_ask 4 (some .int) ∈ big := big_5 (List.mem_of_getElem? (i := 98) rfl) rfl
theorem ml_L_76 : Cond.methodLink RL 76 yX7_town ∈ big := big_5 (List.mem_of_getElem? (i := 99) rfl) rfl
theorem mi_X7_town : Cond.instanceMethod yX7_town ∈ big := big_5 (List.mem_of_getElem? (i := 100) rfl) rfl
theorem me_X7_town : Cond.selects RX7 yX7_town yX7_town ∈ big := big_5 (List.mem_of_getElem? (i := 101) rfl) rfl
theorem mc_X7_town : Cond.code yX7_town cX7_town 5 (some .int) ∈ big := big_5 (List.mem_of_getElem? (i := 102) rfl) rfl
theorem ml_X7_192 : Cond.methodLink RX7 192 yX7_keep ∈ big := big_5 (List.mem_of_getElem? (i := 103) rfl) rfl
theorem mi_X7_keep : Cond.instanceMethod yX7_keep ∈ big := big_5 (List.mem_of_getElem? (i := 105) rfl) rfl
theorem mc_X7_keep : Cond.code yX7_keep cX7_keep 3 (none) ∈ big := big_5 (List.mem_of_getElem? (i := 106) rfl) rfl
theorem ml_X7_196 : Cond.methodLink RX7 196 yX7_item ∈ big := big_5 (List.mem_of_getElem? (i := 107) rfl) rfl
theorem mi_X7_item : Cond.instanceMethod yX7_item ∈ big := big_5 (List.mem_of_getElem? (i := 109) rfl) rfl
theorem mc_X7_item : Cond.code yX7_item cX7_item 1 (some .boolean) ∈ big := big_5 (List.mem_of_getElem? (i := 110) rfl) rfl
theorem ml_X7_148 : Cond.methodLink RX7 148 yX7_sign ∈ big := big_5 (List.mem_of_getElem? (i := 111) rfl) rfl
theorem mi_X7_sign : Cond.instanceMethod yX7_sign ∈ big := big_5 (List.mem_of_getElem? (i := 113) rfl) rfl
theorem mc_X7_sign : Cond.code yX7_sign cX7_sign 1 (some .int) ∈ big := big_5 (List.mem_of_getElem? (i := 114) rfl) rfl
theorem ml_X7_178 : Cond.methodLink RX7 178 yX7_word_ ∈ big := big_5 (List.mem_of_getElem? (i := 116) rfl) rfl
theorem mi_X7_word_ : Cond.instanceMethod yX7_word_ ∈ big := big_5 (List.mem_of_getElem? (i := 118) rfl) rfl
theorem mc_X7_word_ : Cond.code yX7_word_ cX7_word_ 5 (some .boolean) ∈ big := big_5 (List.mem_of_getElem? (i := 119) rfl) rfl
theorem ml_X7_165 : Cond.methodLink RX7 165 yX7_word ∈ big := big_5 (List.mem_of_getElem? (i := 120) rfl) rfl
theorem mi_X7_word : Cond.instanceMethod yX7_word ∈ big := big_5 (List.mem_of_getElem? (i := 122) rfl) rfl
theorem mc_X7_word : Cond.code yX7_word cX7_word 3 (some .boolean) ∈ big := big_5 (List.mem_of_getElem? (i := 123) rfl) rfl
theorem ml_X7_152 : Cond.methodLink RX7 152 yJ0_length_8abf5 ∈ big := big_5 (List.mem_of_getElem? (i := 124) rfl) rfl
theorem ml_X7_157 : Cond.methodLink RX7 157 yJ0_charAt_5068e ∈ big := big_5 (List.mem_of_getElem? (i := 125) rfl) rfl
theorem ml_X7_161 : Cond.methodLink RX7 161 yX7_is ∈ big := big_5 (List.mem_of_getElem? (i := 126) rfl) rfl
theorem mi_X7_is : Cond.instanceMethod yX7_is ∈ big := big_5 (List.mem_of_getElem? (i := 128) rfl) rfl
theorem mc_X7_is : Cond.code yX7_is cX7_is 2 (some .boolean) ∈ big := big_5 (List.mem_of_getElem? (i := 129) rfl) rfl
theorem ml_X7_169 : Cond.methodLink RX7 169 yX7_number ∈ big := big_5 (List.mem_of_getElem? (i := 130) rfl) rfl
theorem mi_X7_number : Cond.instanceMethod yX7_number ∈ big := big_5 (List.mem_of_getElem? (i := 132) rfl) rfl
theorem mc_X7_number : Cond.code yX7_number cX7_number 7 (some .boolean) ∈ big := big_5 (List.mem_of_getElem? (i := 133) rfl) rfl
theorem ml_X7_184 : Cond.methodLink RX7 184 yX7_two ∈ big := big_5 (List.mem_of_getElem? (i := 136) rfl) rfl
theorem mi_X7_two : Cond.instanceMethod yX7_two ∈ big := big_5 (List.mem_of_getElem? (i := 138) rfl) rfl
theorem mc_X7_two : Cond.code yX7_two cX7_two 2 (some .boolean) ∈ big := big_5 (List.mem_of_getElem? (i := 139) rfl) rfl
theorem ml_X7_172 : Cond.methodLink RX7 172 yX7_stands ∈ big := big_5 (List.mem_of_getElem? (i := 140) rfl) rfl
theorem mi_X7_stands : Cond.instanceMethod yX7_stands ∈ big := big_5 (List.mem_of_getElem? (i := 142) rfl) rfl
theorem mc_X7_stands : Cond.code yX7_stands cX7_stands 3 (some .boolean) ∈ big := big_5 (List.mem_of_getElem? (i := 143) rfl) rfl
theorem ml_X7_199 : Cond.methodLink RX7 199 yX7_again ∈ big := big_5 (List.mem_of_getElem? (i := 147) rfl) rfl
theorem mi_X7_again : Cond.instanceMethod yX7_again ∈ big := big_5 (List.mem_of_getElem? (i := 149) rfl) rfl
theorem mc_X7_again : Cond.code yX7_again cX7_again 3 (none) ∈ big := big_5 (List.mem_of_getElem? (i := 150) rfl) rfl
theorem ml_L_81 : Cond.methodLink RL 81 yX7_fault ∈ big := big_5 (List.mem_of_getElem? (i := 151) rfl) rfl
theorem mi_X7_fault : Cond.instanceMethod yX7_fault ∈ big := big_5 (List.mem_of_getElem? (i := 152) rfl) rfl
theorem me_X7_fault : Cond.selects RX7 yX7_fault yX7_fault ∈ big := big_5 (List.mem_of_getElem? (i := 153) rfl) rfl
theorem mc_X7_fault : Cond.code yX7_fault cX7_fault 1 (some .int) ∈ big := big_5 (List.mem_of_getElem? (i := 154) rfl) rfl
theorem ml_L_85 : Cond.methodLink RL 85 yX7_yes ∈ big := big_5 (List.mem_of_getElem? (i := 155) rfl) rfl
theorem mi_X7_yes : Cond.instanceMethod yX7_yes ∈ big := big_5 (List.mem_of_getElem? (i := 156) rfl) rfl
theorem me_X7_yes : Cond.selects RX7 yX7_yes yX7_yes ∈ big := big_5 (List.mem_of_getElem? (i := 157) rfl) rfl
theorem mc_X7_yes : Cond.code yX7_yes cX7_yes 4 (some .int) ∈ big := big_5 (List.mem_of_getElem? (i := 158) rfl) rfl
theorem ml_L_89 : Cond.methodLink RL 89 yX7_answers ∈ big := big_5 (List.mem_of_getElem? (i := 159) rfl) rfl
theorem mi_X7_answers : Cond.instanceMethod yX7_answers ∈ big := big_5 (List.mem_of_getElem? (i := 160) rfl) rfl
theorem me_X7_answers : Cond.selects RX7 yX7_answers yX7_answers ∈ big := big_5 (List.mem_of_getElem? (i := 161) rfl) rfl
theorem mc_X7_answers : Cond.code yX7_answers cX7_answers 6 (some .int) ∈ big := big_5 (List.mem_of_getElem? (i := 162) rfl) rfl
theorem ml_X7_223 : Cond.methodLink RX7 223 yX7_isTries ∈ big := big_5 (List.mem_of_getElem? (i := 163) rfl) rfl
theorem ms_X7_isTries : Cond.static yX7_isTries ∈ big := big_5 (List.mem_of_getElem? (i := 164) rfl) rfl
theorem mc_X7_isTries : Cond.code yX7_isTries cX7_isTries 1 (some .boolean) ∈ big := big_5 (List.mem_of_getElem? (i := 165) rfl) rfl
theorem ml_X7_220 : Cond.methodLink RX7 220 yX7_answered ∈ big := big_5 (List.mem_of_getElem? (i := 166) rfl) rfl
theorem mi_X7_answered : Cond.instanceMethod yX7_answered ∈ big := big_5 (List.mem_of_getElem? (i := 168) rfl) rfl
theorem mc_X7_answered : Cond.code yX7_answered cX7_answered 5 (some .int) ∈ big := big_5 (List.mem_of_getElem? (i := 169) rfl) rfl
theorem ml_X7_217 : Cond.methodLink RX7 217 yX7_tries ∈ big := big_5 (List.mem_of_getElem? (i := 170) rfl) rfl
theorem mi_X7_tries : Cond.instanceMethod yX7_tries ∈ big := big_5 (List.mem_of_getElem? (i := 172) rfl) rfl
theorem mc_X7_tries : Cond.code yX7_tries cX7_tries 3 (some .int) ∈ big := big_5 (List.mem_of_getElem? (i := 173) rfl) rfl
theorem ml_L_93 : Cond.methodLink RL 93 yX7_by ∈ big := big_5 (List.mem_of_getElem? (i := 174) rfl) rfl
theorem mi_X7_by : Cond.instanceMethod yX7_by ∈ big := big_5 (List.mem_of_getElem? (i := 175) rfl) rfl
theorem me_X7_by : Cond.selects RX7 yX7_by yX7_by ∈ big := big_5 (List.mem_of_getElem? (i := 176) rfl) rfl
theorem mc_X7_by : Cond.code yX7_by cX7_by 4 (some .int) ∈ big := big_5 (List.mem_of_getElem? (i := 177) rfl) rfl
theorem ml_X7_226 : Cond.methodLink RX7 226 yX7_shareOfAnswers ∈ big := big_5 (List.mem_of_getElem? (i := 178) rfl) rfl
theorem mi_X7_shareOfAnswers : Cond.instanceMethod yX7_shareOfAnswers ∈ big := big_5 (List.mem_of_getElem? (i := 180) rfl) rfl
theorem mc_X7_shareOfAnswers : Cond.code yX7_shareOfAnswers cX7_shareOfAnswers 5 (some .int) ∈ big := big_5 (List.mem_of_getElem? (i := 181) rfl) rfl
theorem ml_X7_229 : Cond.methodLink RX7 229 yX7_offBy ∈ big := big_5 (List.mem_of_getElem? (i := 182) rfl) rfl
theorem mi_X7_offBy : Cond.instanceMethod yX7_offBy ∈ big := big_5 (List.mem_of_getElem? (i := 184) rfl) rfl
theorem mc_X7_offBy : Cond.code yX7_offBy cX7_offBy 3 (some .int) ∈ big := big_5 (List.mem_of_getElem? (i := 185) rfl) rfl
theorem ml_L_97 : Cond.methodLink RL 97 yX7_hold ∈ big := big_5 (List.mem_of_getElem? (i := 186) rfl) rfl
theorem ml_L_101 : Cond.methodLink RL 101 yX7_order ∈ big := big_5 (List.mem_of_getElem? (i := 187) rfl) rfl
theorem mi_X7_order : Cond.instanceMethod yX7_order ∈ big := big_5 (List.mem_of_getElem? (i := 188) rfl) rfl
theorem me_X7_order : Cond.selects RX7 yX7_order yX7_order ∈ big := big_5 (List.mem_of_getElem? (i := 189) rfl) rfl
theorem mc_X7_order : Cond.code yX7_order cX7_order 7 (some .int) ∈ big := big_5 (List.mem_of_getElem? (i := 190) rfl) rfl
theorem ml_X7_252 : Cond.methodLink RX7 252 yJ6_bitCount_0f7a4 ∈ big := big_5 (List.mem_of_getElem? (i := 191) rfl) rfl
theorem ml_X7_257 : Cond.methodLink RX7 257 yX7_has ∈ big := big_5 (List.mem_of_getElem? (i := 192) rfl) rfl
theorem ms_X7_has : Cond.static yX7_has ∈ big := big_5 (List.mem_of_getElem? (i := 193) rfl) rfl
theorem mc_X7_has : Cond.code yX7_has cX7_has 2 (some .boolean) ∈ big := big_5 (List.mem_of_getElem? (i := 194) rfl) rfl
theorem ml_X7_260 : Cond.methodLink RX7 260 yX7_leansOf ∈ big := big_5 (List.mem_of_getElem? (i := 195) rfl) rfl
theorem mi_X7_leansOf : Cond.instanceMethod yX7_leansOf ∈ big := big_5 (List.mem_of_getElem? (i := 197) rfl) rfl
theorem mc_X7_leansOf : Cond.code yX7_leansOf cX7_leansOf 5 (some .int) ∈ big := big_5 (List.mem_of_getElem? (i := 198) rfl) rfl
theorem ml_X7_238 : Cond.methodLink RX7 238 yX7_shareIn ∈ big := big_5 (List.mem_of_getElem? (i := 199) rfl) rfl
theorem mi_X7_shareIn : Cond.instanceMethod yX7_shareIn ∈ big := big_5 (List.mem_of_getElem? (i := 201) rfl) rfl
theorem mc_X7_shareIn : Cond.code yX7_shareIn cX7_shareIn 5 (some .int) ∈ big := big_5 (List.mem_of_getElem? (i := 202) rfl) rfl
theorem ml_X7_235 : Cond.methodLink RX7 235 Lib.Math.max.name ∈ big := big_5 (List.mem_of_getElem? (i := 203) rfl) rfl
theorem ml_X7_242 : Cond.methodLink RX7 242 Lib.Math.abs.name ∈ big := big_5 (List.mem_of_getElem? (i := 204) rfl) rfl
theorem ml_X7_263 : Cond.methodLink RX7 263 yX7_next ∈ big := big_5 (List.mem_of_getElem? (i := 205) rfl) rfl
theorem mi_X7_next : Cond.instanceMethod yX7_next ∈ big := big_5 (List.mem_of_getElem? (i := 207) rfl) rfl
theorem mc_X7_next : Cond.code yX7_next cX7_next 5 (some .boolean) ∈ big := big_5 (List.mem_of_getElem? (i := 208) rfl) rfl
theorem ml_X7_248 : Cond.methodLink RX7 248 yX7_swap ∈ big := big_5 (List.mem_of_getElem? (i := 209) rfl) rfl
theorem mi_X7_swap : Cond.instanceMethod yX7_swap ∈ big := big_5 (List.mem_of_getElem? (i := 211) rfl) rfl
theorem mc_X7_swap : Cond.code yX7_swap cX7_swap 4 (none) ∈ big := big_5 (List.mem_of_getElem? (i := 212) rfl) rfl
theorem ml_L_105 : Cond.methodLink RL 105 yX7_blame ∈ big := big_5 (List.mem_of_getElem? (i := 213) rfl) rfl
theorem mi_X7_blame : Cond.instanceMethod yX7_blame ∈ big := big_5 (List.mem_of_getElem? (i := 214) rfl) rfl
theorem me_X7_blame : Cond.selects RX7 yX7_blame yX7_blame ∈ big := big_5 (List.mem_of_getElem? (i := 215) rfl) rfl
theorem mc_X7_blame : Cond.code yX7_blame cX7_blame 6 (some .int) ∈ big := big_5 (List.mem_of_getElem? (i := 216) rfl) rfl
theorem ml_L_109 : Cond.methodLink RL 109 yX7_nothing ∈ big := big_5 (List.mem_of_getElem? (i := 217) rfl) rfl
theorem mi_X7_nothing : Cond.instanceMethod yX7_nothing ∈ big := big_5 (List.mem_of_getElem? (i := 218) rfl) rfl
theorem me_X7_nothing : Cond.selects RX7 yX7_nothing yX7_nothing ∈ big := big_5 (List.mem_of_getElem? (i := 219) rfl) rfl
theorem mc_X7_nothing : Cond.code yX7_nothing cX7_nothing 3 (some .int) ∈ big := big_5 (List.mem_of_getElem? (i := 220) rfl) rfl
theorem ml_L_113 : Cond.methodLink RL 113 yX7_enough ∈ big := big_5 (List.mem_of_getElem? (i := 221) rfl) rfl
theorem mi_X7_enough : Cond.instanceMethod yX7_enough ∈ big := big_5 (List.mem_of_getElem? (i := 222) rfl) rfl
theorem me_X7_enough : Cond.selects RX7 yX7_enough yX7_enough ∈ big := big_5 (List.mem_of_getElem? (i := 223) rfl) rfl
theorem mc_X7_enough : Cond.code yX7_enough cX7_enough 4 (some .int) ∈ big := big_5 (List.mem_of_getElem? (i := 224) rfl) rfl
theorem ml_X7_266 : Cond.methodLink RX7 266 yX7_no10 ∈ big := big_5 (List.mem_of_getElem? (i := 225) rfl) rfl
theorem mi_X7_no10 : Cond.instanceMethod yX7_no10 ∈ big := big_5 (List.mem_of_getElem? (i := 227) rfl) rfl
theorem mc_X7_no10 : Cond.code yX7_no10 cX7_no10 2 (some .int) ∈ big := big_5 (List.mem_of_getElem? (i := 228) rfl) rfl
theorem ml_L_117 : Cond.methodLink RL 117 yX7_cost ∈ big := big_5 (List.mem_of_getElem? (i := 229) rfl) rfl
theorem mi_X7_cost : Cond.instanceMethod yX7_cost ∈ big := big_5 (List.mem_of_getElem? (i := 230) rfl) rfl
theorem me_X7_cost : Cond.selects RX7 yX7_cost yX7_cost ∈ big := big_5 (List.mem_of_getElem? (i := 231) rfl) rfl
theorem mc_X7_cost : Cond.code yX7_cost cX7_cost 2 (some .int) ∈ big := big_5 (List.mem_of_getElem? (i := 232) rfl) rfl
theorem ml_X7_269 : Cond.methodLink RX7 269 yX7_costOf ∈ big := big_5 (List.mem_of_getElem? (i := 233) rfl) rfl
theorem mi_X7_costOf : Cond.instanceMethod yX7_costOf ∈ big := big_5 (List.mem_of_getElem? (i := 235) rfl) rfl
theorem mc_X7_costOf : Cond.code yX7_costOf cX7_costOf 5 (some .int) ∈ big := big_5 (List.mem_of_getElem? (i := 236) rfl) rfl
theorem ml_L_121 : Cond.methodLink RL 121 yX7_fine ∈ big := big_5 (List.mem_of_getElem? (i := 237) rfl) rfl
theorem mi_X7_fine : Cond.instanceMethod yX7_fine ∈ big := big_5 (List.mem_of_getElem? (i := 238) rfl) rfl
theorem me_X7_fine : Cond.selects RX7 yX7_fine yX7_fine ∈ big := big_5 (List.mem_of_getElem? (i := 239) rfl) rfl
theorem mc_X7_fine : Cond.code yX7_fine cX7_fine 5 (some .int) ∈ big := big_6 (List.mem_of_getElem? (i := 0) rfl) rfl
theorem ml_L_125 : Cond.methodLink RL 125 yX7_never ∈ big := big_6 (List.mem_of_getElem? (i := 1) rfl) rfl
theorem mi_X7_never : Cond.instanceMethod yX7_never ∈ big := big_6 (List.mem_of_getElem? (i := 2) rfl) rfl
theorem me_X7_never : Cond.selects RX7 yX7_never yX7_never ∈ big := big_6 (List.mem_of_getElem? (i := 3) rfl) rfl
theorem mc_X7_never : Cond.code yX7_never cX7_never 3 (some .int) ∈ big := big_6 (List.mem_of_getElem? (i := 4) rfl) rfl
theorem ml_L_129 : Cond.methodLink RL 129 yX7_late ∈ big := big_6 (List.mem_of_getElem? (i := 5) rfl) rfl
theorem mi_X7_late : Cond.instanceMethod yX7_late ∈ big := big_6 (List.mem_of_getElem? (i := 6) rfl) rfl
theorem me_X7_late : Cond.selects RX7 yX7_late yX7_late ∈ big := big_6 (List.mem_of_getElem? (i := 7) rfl) rfl
theorem mc_X7_late : Cond.code yX7_late cX7_late 4 (some .int) ∈ big := big_6 (List.mem_of_getElem? (i := 8) rfl) rfl
theorem ml_X7_272 : Cond.methodLink RX7 272 yX7_answeredLate ∈ big := big_6 (List.mem_of_getElem? (i := 9) rfl) rfl
theorem mi_X7_answeredLate : Cond.instanceMethod yX7_answeredLate ∈ big := big_6 (List.mem_of_getElem? (i := 11) rfl) rfl
theorem mc_X7_answeredLate : Cond.code yX7_answeredLate cX7_answeredLate 4 (some .int) ∈ big := big_6 (List.mem_of_getElem? (i := 12) rfl) rfl
theorem ml_L_133 : Cond.methodLink RL 133 yX7_fits ∈ big := big_6 (List.mem_of_getElem? (i := 13) rfl) rfl
theorem mi_X7_fits : Cond.instanceMethod yX7_fits ∈ big := big_6 (List.mem_of_getElem? (i := 14) rfl) rfl
theorem me_X7_fits : Cond.selects RX7 yX7_fits yX7_fits ∈ big := big_6 (List.mem_of_getElem? (i := 15) rfl) rfl
theorem mc_X7_fits : Cond.code yX7_fits cX7_fits 5 (some .int) ∈ big := big_6 (List.mem_of_getElem? (i := 16) rfl) rfl
theorem ml_L_137 : Cond.methodLink RL 137 yX7_halves ∈ big := big_6 (List.mem_of_getElem? (i := 17) rfl) rfl
theorem mi_X7_halves : Cond.instanceMethod yX7_halves ∈ big := big_6 (List.mem_of_getElem? (i := 18) rfl) rfl
theorem me_X7_halves : Cond.selects RX7 yX7_halves yX7_halves ∈ big := big_6 (List.mem_of_getElem? (i := 19) rfl) rfl
theorem mc_X7_halves : Cond.code yX7_halves cX7_halves 2 (some .int) ∈ big := big_6 (List.mem_of_getElem? (i := 20) rfl) rfl
theorem ml_X7_275 : Cond.methodLink RX7 275 yX7_shareOfHalf ∈ big := big_6 (List.mem_of_getElem? (i := 21) rfl) rfl
theorem mi_X7_shareOfHalf : Cond.instanceMethod yX7_shareOfHalf ∈ big := big_6 (List.mem_of_getElem? (i := 23) rfl) rfl
theorem mc_X7_shareOfHalf : Cond.code yX7_shareOfHalf cX7_shareOfHalf 6 (some .int) ∈ big := big_6 (List.mem_of_getElem? (i := 24) rfl) rfl
theorem ml_L_141 : Cond.methodLink RL 141 yX7_twin ∈ big := big_6 (List.mem_of_getElem? (i := 25) rfl) rfl
theorem mi_X7_twin : Cond.instanceMethod yX7_twin ∈ big := big_6 (List.mem_of_getElem? (i := 26) rfl) rfl
theorem me_X7_twin : Cond.selects RX7 yX7_twin yX7_twin ∈ big := big_6 (List.mem_of_getElem? (i := 27) rfl) rfl
theorem mc_X7_twin : Cond.code yX7_twin cX7_twin 6 (some .int) ∈ big := big_6 (List.mem_of_getElem? (i := 28) rfl) rfl
theorem ml_L_145 : Cond.methodLink RL 145 yX7_nearest ∈ big := big_6 (List.mem_of_getElem? (i := 29) rfl) rfl
theorem mi_X7_nearest : Cond.instanceMethod yX7_nearest ∈ big := big_6 (List.mem_of_getElem? (i := 30) rfl) rfl
theorem me_X7_nearest : Cond.selects RX7 yX7_nearest yX7_nearest ∈ big := big_6 (List.mem_of_getElem? (i := 31) rfl) rfl
theorem mc_X7_nearest : Cond.code yX7_nearest cX7_nearest 3 (some .int) ∈ big := big_6 (List.mem_of_getElem? (i := 32) rfl) rfl
theorem ml_L_149 : Cond.methodLink RL 149 yX7_move ∈ big := big_6 (List.mem_of_getElem? (i := 33) rfl) rfl
theorem mi_X7_move : Cond.instanceMethod yX7_move ∈ big := big_6 (List.mem_of_getElem? (i := 34) rfl) rfl
theorem me_X7_move : Cond.selects RX7 yX7_move yX7_move ∈ big := big_6 (List.mem_of_getElem? (i := 35) rfl) rfl
theorem mc_X7_move : Cond.code yX7_move cX7_move 5 (some .int) ∈ big := big_6 (List.mem_of_getElem? (i := 36) rfl) rfl
theorem ml_X7_278 : Cond.methodLink RX7 278 yX7_shareMoved ∈ big := big_6 (List.mem_of_getElem? (i := 37) rfl) rfl
theorem mi_X7_shareMoved : Cond.instanceMethod yX7_shareMoved ∈ big := big_6 (List.mem_of_getElem? (i := 39) rfl) rfl
theorem mc_X7_shareMoved : Cond.code yX7_shareMoved cX7_shareMoved 7 (some .int) ∈ big := big_6 (List.mem_of_getElem? (i := 40) rfl) rfl
theorem ml_L_153 : Cond.methodLink RL 153 yX7_judge ∈ big := big_6 (List.mem_of_getElem? (i := 41) rfl) rfl
theorem mi_X7_judge : Cond.instanceMethod yX7_judge ∈ big := big_6 (List.mem_of_getElem? (i := 42) rfl) rfl
theorem me_X7_judge : Cond.selects RX7 yX7_judge yX7_judge ∈ big := big_6 (List.mem_of_getElem? (i := 43) rfl) rfl
theorem mc_X7_judge : Cond.code yX7_judge cX7_judge 4 (some .int) ∈ big := big_6 (List.mem_of_getElem? (i := 44) rfl) rfl
theorem ml_X7_284 : Cond.methodLink RX7 284 yX7_noRound ∈ big := big_6 (List.mem_of_getElem? (i := 45) rfl) rfl
theorem mi_X7_noRound : Cond.instanceMethod yX7_noRound ∈ big := big_6 (List.mem_of_getElem? (i := 47) rfl) rfl
theorem mc_X7_noRound : Cond.code yX7_noRound cX7_noRound 4 (some .int) ∈ big := big_6 (List.mem_of_getElem? (i := 48) rfl) rfl
theorem ml_X7_287 : Cond.methodLink RX7 287 yX7_wrong ∈ big := big_6 (List.mem_of_getElem? (i := 49) rfl) rfl
theorem mi_X7_wrong : Cond.instanceMethod yX7_wrong ∈ big := big_6 (List.mem_of_getElem? (i := 51) rfl) rfl
theorem mc_X7_wrong : Cond.code yX7_wrong cX7_wrong 5 (some .int) ∈ big := big_6 (List.mem_of_getElem? (i := 52) rfl) rfl
theorem ml_X7_281 : Cond.methodLink RX7 281 yX7_told ∈ big := big_6 (List.mem_of_getElem? (i := 53) rfl) rfl
theorem mi_X7_told : Cond.instanceMethod yX7_told ∈ big := big_6 (List.mem_of_getElem? (i := 55) rfl) rfl
theorem mc_X7_told : Cond.code yX7_told cX7_told 3 (some .int) ∈ big := big_6 (List.mem_of_getElem? (i := 56) rfl) rfl
theorem ml_L_157 : Cond.methodLink RL 157 yX7_round ∈ big := big_6 (List.mem_of_getElem? (i := 57) rfl) rfl
theorem mi_X7_round : Cond.instanceMethod yX7_round ∈ big := big_6 (List.mem_of_getElem? (i := 58) rfl) rfl
theorem me_X7_round : Cond.selects RX7 yX7_round yX7_round ∈ big := big_6 (List.mem_of_getElem? (i := 59) rfl) rfl
theorem mc_X7_round : Cond.code yX7_round cX7_round 7 (some .int) ∈ big := big_6 (List.mem_of_getElem? (i := 60) rfl) rfl
theorem ml_L_161 : Cond.methodLink RL 161 yX7_change ∈ big := big_6 (List.mem_of_getElem? (i := 61) rfl) rfl
theorem mi_X7_change : Cond.instanceMethod yX7_change ∈ big := big_6 (List.mem_of_getElem? (i := 62) rfl) rfl
theorem me_X7_change : Cond.selects RX7 yX7_change yX7_change ∈ big := big_6 (List.mem_of_getElem? (i := 63) rfl) rfl
theorem mc_X7_change : Cond.code yX7_change cX7_change 4 (some .int) ∈ big := big_6 (List.mem_of_getElem? (i := 64) rfl) rfl
theorem ml_L_165 : Cond.methodLink RL 165 yX7_doors ∈ big := big_6 (List.mem_of_getElem? (i := 65) rfl) rfl
theorem mi_X7_doors : Cond.instanceMethod yX7_doors ∈ big := big_6 (List.mem_of_getElem? (i := 66) rfl) rfl
theorem me_X7_doors : Cond.selects RX7 yX7_doors yX7_doors ∈ big := big_6 (List.mem_of_getElem? (i := 67) rfl) rfl
theorem mc_X7_doors : Cond.code yX7_doors cX7_doors 6 (some .int) ∈ big := big_6 (List.mem_of_getElem? (i := 68) rfl) rfl
theorem ml_X7_294 : Cond.methodLink RX7 294 yX7_draw ∈ big := big_6 (List.mem_of_getElem? (i := 69) rfl) rfl
theorem mi_X7_draw : Cond.instanceMethod yX7_draw ∈ big := big_6 (List.mem_of_getElem? (i := 71) rfl) rfl
theorem mc_X7_draw : Cond.code yX7_draw cX7_draw 2 (some .int) ∈ big := big_6 (List.mem_of_getElem? (i := 72) rfl) rfl
theorem mk_X7_290 : Cond.constant RX7 290 (1103515245) ∈ big := big_6 (List.mem_of_getElem? (i := 73) rfl) rfl
theorem ml_L_169 : Cond.methodLink RL 169 yX7_seed ∈ big := big_6 (List.mem_of_getElem? (i := 74) rfl) rfl
theorem mi_X7_seed : Cond.instanceMethod yX7_seed ∈ big := big_6 (List.mem_of_getElem? (i := 75) rfl) rfl
theorem me_X7_seed : Cond.selects RX7 yX7_seed yX7_seed ∈ big := big_6 (List.mem_of_getElem? (i := 76) rfl) rfl
theorem mc_X7_seed : Cond.code yX7_seed cX7_seed 3 (some .int) ∈ big := big_6 (List.mem_of_getElem? (i := 77) rfl) rfl
theorem ml_L_173 : Cond.methodLink RL 173 yX7_act ∈ big := big_6 (List.mem_of_getElem? (i := 78) rfl) rfl
theorem mi_X7_act : Cond.instanceMethod yX7_act ∈ big := big_6 (List.mem_of_getElem? (i := 79) rfl) rfl
theorem me_X7_act : Cond.selects RX7 yX7_act yX7_act ∈ big := big_6 (List.mem_of_getElem? (i := 80) rfl) rfl
theorem mc_X7_act : Cond.code yX7_act cX7_act 4 (some .int) ∈ big := big_6 (List.mem_of_getElem? (i := 81) rfl) rfl
theorem ml_X7_307 : Cond.methodLink RX7 307 yX7_asksBy ∈ big := big_6 (List.mem_of_getElem? (i := 82) rfl) rfl
theorem mi_X7_asksBy : Cond.instanceMethod yX7_asksBy ∈ big := big_6 (List.mem_of_getElem? (i := 84) rfl) rfl
theorem mc_X7_asksBy : Cond.code yX7_asksBy cX7_asksBy 5 (some .int) ∈ big := big_6 (List.mem_of_getElem? (i := 85) rfl) rfl
theorem ml_X7_303 : Cond.methodLink RX7 303 yX7_ran ∈ big := big_6 (List.mem_of_getElem? (i := 86) rfl) rfl
theorem mi_X7_ran : Cond.instanceMethod yX7_ran ∈ big := big_6 (List.mem_of_getElem? (i := 88) rfl) rfl
theorem mc_X7_ran : Cond.code yX7_ran cX7_ran 2 (none) ∈ big := big_6 (List.mem_of_getElem? (i := 89) rfl) rfl
theorem ml_X7_310 : Cond.methodLink RX7 310 yX7_leansBy ∈ big := big_6 (List.mem_of_getElem? (i := 90) rfl) rfl
theorem mi_X7_leansBy : Cond.instanceMethod yX7_leansBy ∈ big := big_6 (List.mem_of_getElem? (i := 92) rfl) rfl
theorem mc_X7_leansBy : Cond.code yX7_leansBy cX7_leansBy 6 (some .int) ∈ big := big_6 (List.mem_of_getElem? (i := 93) rfl) rfl
theorem ml_X7_313 : Cond.methodLink RX7 313 yX7_sumsBy ∈ big := big_6 (List.mem_of_getElem? (i := 94) rfl) rfl
theorem mi_X7_sumsBy : Cond.instanceMethod yX7_sumsBy ∈ big := big_6 (List.mem_of_getElem? (i := 96) rfl) rfl
theorem mc_X7_sumsBy : Cond.code yX7_sumsBy cX7_sumsBy 6 (some .int) ∈ big := big_6 (List.mem_of_getElem? (i := 97) rfl) rfl
theorem ml_L_177 : Cond.methodLink RL 177 yX7_trace ∈ big := big_6 (List.mem_of_getElem? (i := 98) rfl) rfl
theorem mi_X7_trace : Cond.instanceMethod yX7_trace ∈ big := big_6 (List.mem_of_getElem? (i := 99) rfl) rfl
theorem me_X7_trace : Cond.selects RX7 yX7_trace yX7_trace ∈ big := big_6 (List.mem_of_getElem? (i := 100) rfl) rfl
theorem mc_X7_trace : Cond.code yX7_trace cX7_trace 2 (some .int) ∈ big := big_6 (List.mem_of_getElem? (i := 101) rfl) rfl
theorem ml_L_181 : Cond.methodLink RL 181 yX7_image ∈ big := big_6 (List.mem_of_getElem? (i := 102) rfl) rfl
theorem mi_X7_image : Cond.instanceMethod yX7_image ∈ big := big_6 (List.mem_of_getElem? (i := 103) rfl) rfl
theorem me_X7_image : Cond.selects RX7 yX7_image yX7_image ∈ big := big_6 (List.mem_of_getElem? (i := 104) rfl) rfl
theorem mc_X7_image : Cond.code yX7_image cX7_image 1 (some .int) ∈ big := big_6 (List.mem_of_getElem? (i := 105) rfl) rfl
theorem ml_L_185 : Cond.methodLink RL 185 yX7_restore ∈ big := big_6 (List.mem_of_getElem? (i := 106) rfl) rfl
theorem mi_X7_restore : Cond.instanceMethod yX7_restore ∈ big := big_6 (List.mem_of_getElem? (i := 107) rfl) rfl
theorem me_X7_restore : Cond.selects RX7 yX7_restore yX7_restore ∈ big := big_6 (List.mem_of_getElem? (i := 108) rfl) rfl
theorem mc_X7_restore : Cond.code yX7_restore cX7_restore 2 (some .int) ∈ big := big_6 (List.mem_of_getElem? (i := 109) rfl) rfl
theorem ml_L_189 : Cond.methodLink RL 189 yX7_status ∈ big := big_6 (List.mem_of_getElem? (i := 110) rfl) rfl
theorem mi_X7_status : Cond.instanceMethod yX7_status ∈ big := big_6 (List.mem_of_getElem? (i := 111) rfl) rfl
theorem me_X7_status : Cond.selects RX7 yX7_status yX7_status ∈ big := big_6 (List.mem_of_getElem? (i := 112) rfl) rfl
theorem mc_X7_status : Cond.code yX7_status cX7_status 2 (some .int) ∈ big := big_6 (List.mem_of_getElem? (i := 113) rfl) rfl
theorem mk_L_18 : Cond.constantLong RL 18 (4294967295) ∈ big := big_6 (List.mem_of_getElem? (i := 114) rfl) rfl
theorem mf_J0_9 : Cond.fieldLink RJ0 9 "java/lang/String" "value" "[B" ∈ big := big_6 (List.mem_of_getElem? (i := 115) rfl) rfl
theorem mf_J0_15 : Cond.fieldLink RJ0 15 "java/lang/String" "coder" "B" ∈ big := big_6 (List.mem_of_getElem? (i := 116) rfl) rfl
theorem ib_X0 : ∀ w ∈ u_ws RX0 TX0 5, w ∈ big := List.forall_mem_cons.mpr ⟨big_1 (List.mem_of_getElem? (i := 144) rfl) rfl, List.forall_mem_cons.mpr ⟨big_1 (List.mem_of_getElem? (i := 146) rfl) rfl, List.forall_mem_cons.mpr ⟨big_1 (List.mem_of_getElem? (i := 148) rfl) rfl, List.forall_mem_cons.mpr ⟨big_1 (List.mem_of_getElem? (i := 150) rfl) rfl, List.forall_mem_cons.mpr ⟨big_1 (List.mem_of_getElem? (i := 152) rfl) rfl, fun _ h => absurd h List.not_mem_nil⟩⟩⟩⟩⟩
theorem ib_X1 : ∀ w ∈ u_ws RX1 TX1 2, w ∈ big := List.forall_mem_cons.mpr ⟨big_1 (List.mem_of_getElem? (i := 83) rfl) rfl, List.forall_mem_cons.mpr ⟨big_1 (List.mem_of_getElem? (i := 85) rfl) rfl, fun _ h => absurd h List.not_mem_nil⟩⟩
theorem ib_X2 : ∀ w ∈ u_ws RX2 TX2 3, w ∈ big := List.forall_mem_cons.mpr ⟨big_1 (List.mem_of_getElem? (i := 97) rfl) rfl, List.forall_mem_cons.mpr ⟨big_1 (List.mem_of_getElem? (i := 99) rfl) rfl, List.forall_mem_cons.mpr ⟨big_1 (List.mem_of_getElem? (i := 101) rfl) rfl, fun _ h => absurd h List.not_mem_nil⟩⟩⟩
theorem ib_X3 : ∀ w ∈ u_ws RX3 TX3 10, w ∈ big := List.forall_mem_cons.mpr ⟨big_1 (List.mem_of_getElem? (i := 53) rfl) rfl, List.forall_mem_cons.mpr ⟨big_1 (List.mem_of_getElem? (i := 55) rfl) rfl, List.forall_mem_cons.mpr ⟨big_1 (List.mem_of_getElem? (i := 57) rfl) rfl, List.forall_mem_cons.mpr ⟨big_1 (List.mem_of_getElem? (i := 59) rfl) rfl, List.forall_mem_cons.mpr ⟨big_1 (List.mem_of_getElem? (i := 61) rfl) rfl, List.forall_mem_cons.mpr ⟨big_1 (List.mem_of_getElem? (i := 63) rfl) rfl, List.forall_mem_cons.mpr ⟨big_1 (List.mem_of_getElem? (i := 65) rfl) rfl, List.forall_mem_cons.mpr ⟨big_1 (List.mem_of_getElem? (i := 67) rfl) rfl, List.forall_mem_cons.mpr ⟨big_1 (List.mem_of_getElem? (i := 69) rfl) rfl, List.forall_mem_cons.mpr ⟨big_1 (List.mem_of_getElem? (i := 71) rfl) rfl, fun _ h => absurd h List.not_mem_nil⟩⟩⟩⟩⟩⟩⟩⟩⟩⟩
theorem ib_X4 : ∀ w ∈ u_ws RX4 TX4 5, w ∈ big := List.forall_mem_cons.mpr ⟨big_1 (List.mem_of_getElem? (i := 121) rfl) rfl, List.forall_mem_cons.mpr ⟨big_1 (List.mem_of_getElem? (i := 123) rfl) rfl, List.forall_mem_cons.mpr ⟨big_1 (List.mem_of_getElem? (i := 125) rfl) rfl, List.forall_mem_cons.mpr ⟨big_1 (List.mem_of_getElem? (i := 127) rfl) rfl, List.forall_mem_cons.mpr ⟨big_1 (List.mem_of_getElem? (i := 129) rfl) rfl, fun _ h => absurd h List.not_mem_nil⟩⟩⟩⟩⟩
theorem ib_X6 : ∀ w ∈ u_ws RX6 TX6 9, w ∈ big := List.forall_mem_cons.mpr ⟨big_1 (List.mem_of_getElem? (i := 164) rfl) rfl, List.forall_mem_cons.mpr ⟨big_1 (List.mem_of_getElem? (i := 166) rfl) rfl, List.forall_mem_cons.mpr ⟨big_1 (List.mem_of_getElem? (i := 168) rfl) rfl, List.forall_mem_cons.mpr ⟨big_1 (List.mem_of_getElem? (i := 170) rfl) rfl, List.forall_mem_cons.mpr ⟨big_1 (List.mem_of_getElem? (i := 172) rfl) rfl, List.forall_mem_cons.mpr ⟨big_1 (List.mem_of_getElem? (i := 174) rfl) rfl, List.forall_mem_cons.mpr ⟨big_1 (List.mem_of_getElem? (i := 176) rfl) rfl, List.forall_mem_cons.mpr ⟨big_1 (List.mem_of_getElem? (i := 178) rfl) rfl, List.forall_mem_cons.mpr ⟨big_1 (List.mem_of_getElem? (i := 180) rfl) rfl, fun _ h => absurd h List.not_mem_nil⟩⟩⟩⟩⟩⟩⟩⟩⟩
theorem ib_X7 : ∀ w ∈ u_ws RX7 TX7 33, w ∈ big := List.forall_mem_cons.mpr ⟨big_4 (List.mem_of_getElem? (i := 147) rfl) rfl, List.forall_mem_cons.mpr ⟨big_4 (List.mem_of_getElem? (i := 149) rfl) rfl, List.forall_mem_cons.mpr ⟨big_4 (List.mem_of_getElem? (i := 151) rfl) rfl, List.forall_mem_cons.mpr ⟨big_4 (List.mem_of_getElem? (i := 153) rfl) rfl, List.forall_mem_cons.mpr ⟨big_4 (List.mem_of_getElem? (i := 155) rfl) rfl, List.forall_mem_cons.mpr ⟨big_4 (List.mem_of_getElem? (i := 157) rfl) rfl, List.forall_mem_cons.mpr ⟨big_4 (List.mem_of_getElem? (i := 159) rfl) rfl, List.forall_mem_cons.mpr ⟨big_4 (List.mem_of_getElem? (i := 161) rfl) rfl, List.forall_mem_cons.mpr ⟨big_4 (List.mem_of_getElem? (i := 163) rfl) rfl, List.forall_mem_cons.mpr ⟨big_4 (List.mem_of_getElem? (i := 165) rfl) rfl, List.forall_mem_cons.mpr ⟨big_4 (List.mem_of_getElem? (i := 167) rfl) rfl, List.forall_mem_cons.mpr ⟨big_4 (List.mem_of_getElem? (i := 169) rfl) rfl, List.forall_mem_cons.mpr ⟨big_4 (List.mem_of_getElem? (i := 171) rfl) rfl, List.forall_mem_cons.mpr ⟨big_4 (List.mem_of_getElem? (i := 173) rfl) rfl, List.forall_mem_cons.mpr ⟨big_4 (List.mem_of_getElem? (i := 175) rfl) rfl, List.forall_mem_cons.mpr ⟨big_4 (List.mem_of_getElem? (i := 177) rfl) rfl, List.forall_mem_cons.mpr ⟨big_4 (List.mem_of_getElem? (i := 179) rfl) rfl, List.forall_mem_cons.mpr ⟨big_4 (List.mem_of_getElem? (i := 181) rfl) rfl, List.forall_mem_cons.mpr ⟨big_4 (List.mem_of_getElem? (i := 183) rfl) rfl, List.forall_mem_cons.mpr ⟨big_4 (List.mem_of_getElem? (i := 185) rfl) rfl, List.forall_mem_cons.mpr ⟨big_4 (List.mem_of_getElem? (i := 187) rfl) rfl, List.forall_mem_cons.mpr ⟨big_4 (List.mem_of_getElem? (i := 189) rfl) rfl, List.forall_mem_cons.mpr ⟨big_4 (List.mem_of_getElem? (i := 191) rfl) rfl, List.forall_mem_cons.mpr ⟨big_4 (List.mem_of_getElem? (i := 193) rfl) rfl, List.forall_mem_cons.mpr ⟨big_4 (List.mem_of_getElem? (i := 195) rfl) rfl, List.forall_mem_cons.mpr ⟨big_4 (List.mem_of_getElem? (i := 197) rfl) rfl, List.forall_mem_cons.mpr ⟨big_4 (List.mem_of_getElem? (i := 199) rfl) rfl, List.forall_mem_cons.mpr ⟨big_4 (List.mem_of_getElem? (i := 201) rfl) rfl, List.forall_mem_cons.mpr ⟨big_4 (List.mem_of_getElem? (i := 203) rfl) rfl, List.forall_mem_cons.mpr ⟨big_4 (List.mem_of_getElem? (i := 205) rfl) rfl, List.forall_mem_cons.mpr ⟨big_4 (List.mem_of_getElem? (i := 207) rfl) rfl, List.forall_mem_cons.mpr ⟨big_4 (List.mem_of_getElem? (i := 209) rfl) rfl, List.forall_mem_cons.mpr ⟨big_4 (List.mem_of_getElem? (i := 211) rfl) rfl, fun _ h => absurd h List.not_mem_nil⟩⟩⟩⟩⟩⟩⟩⟩⟩⟩⟩⟩⟩⟩⟩⟩⟩⟩⟩⟩⟩⟩⟩⟩⟩⟩⟩⟩⟩⟩⟩⟩⟩
end
section
theorem dX0_init_0 : decode cX0_init 0 = .ok (.aload_n 0, 1) := by decide +kernel
theorem dX0_init_1 : decode cX0_init 1 = .ok (.invokespecial 3, 3) := by decide +kernel
theorem dX0_init_4 : decode cX0_init 4 = .ok (.aload_n 0, 1) := by decide +kernel
theorem dX0_init_5 : decode cX0_init 5 = .ok (.bipush 20, 2) := by decide +kernel
theorem dX0_init_7 : decode cX0_init 7 = .ok (.newarray .int, 2) := by decide +kernel
theorem dX0_init_9 : decode cX0_init 9 = .ok (.putfield 11, 3) := by decide +kernel
theorem dX0_init_12 : decode cX0_init 12 = .ok (.return_, 1) := by decide +kernel
theorem dX0_forget_0 : decode cX0_forget 0 = .ok (.aload_n 0, 1) := by decide +kernel
theorem dX0_forget_1 : decode cX0_forget 1 = .ok (.iconst 0, 1) := by decide +kernel
theorem dX0_forget_2 : decode cX0_forget 2 = .ok (.putfield 15, 3) := by decide +kernel
theorem dX0_forget_5 : decode cX0_forget 5 = .ok (.return_, 1) := by decide +kernel
theorem dX0_run_0 : decode cX0_run 0 = .ok (.aload_n 0, 1) := by decide +kernel
theorem dX0_run_1 : decode cX0_run 1 = .ok (.iload_n 1, 1) := by decide +kernel
theorem dX0_run_2 : decode cX0_run 2 = .ok (.putfield 19, 3) := by decide +kernel
theorem dX0_run_5 : decode cX0_run 5 = .ok (.aload_n 0, 1) := by decide +kernel
theorem dX0_run_6 : decode cX0_run 6 = .ok (.iload_n 2, 1) := by decide +kernel
theorem dX0_run_7 : decode cX0_run 7 = .ok (.putfield 22, 3) := by decide +kernel
theorem dX0_run_10 : decode cX0_run 10 = .ok (.aload_n 0, 1) := by decide +kernel
theorem dX0_run_11 : decode cX0_run 11 = .ok (.iload_n 3, 1) := by decide +kernel
theorem dX0_run_12 : decode cX0_run 12 = .ok (.putfield 25, 3) := by decide +kernel
theorem dX0_run_15 : decode cX0_run 15 = .ok (.iload 4, 2) := by decide +kernel
theorem dX0_run_17 : decode cX0_run 17 = .ok (.tableswitch 60 0 2 #[27, 38, 49], 27) := by decide +kernel
theorem dX0_run_44 : decode cX0_run 44 = .ok (.aload_n 0, 1) := by decide +kernel
theorem dX0_run_45 : decode cX0_run 45 = .ok (.aload_n 0, 1) := by decide +kernel
theorem dX0_run_46 : decode cX0_run 46 = .ok (.getfield 22, 3) := by decide +kernel
theorem dX0_run_49 : decode cX0_run 49 = .ok (.iload 5, 2) := by decide +kernel
theorem dX0_run_51 : decode cX0_run 51 = .ok (.invokevirtual 28, 3) := by decide +kernel
theorem dX0_run_54 : decode cX0_run 54 = .ok (.ireturn, 1) := by decide +kernel
theorem dX0_run_55 : decode cX0_run 55 = .ok (.aload_n 0, 1) := by decide +kernel
theorem dX0_run_56 : decode cX0_run 56 = .ok (.aload_n 0, 1) := by decide +kernel
theorem dX0_run_57 : decode cX0_run 57 = .ok (.getfield 22, 3) := by decide +kernel
theorem dX0_run_60 : decode cX0_run 60 = .ok (.iload 5, 2) := by decide +kernel
theorem dX0_run_62 : decode cX0_run 62 = .ok (.invokevirtual 32, 3) := by decide +kernel
theorem dX0_run_65 : decode cX0_run 65 = .ok (.ireturn, 1) := by decide +kernel
theorem dX0_run_66 : decode cX0_run 66 = .ok (.aload_n 0, 1) := by decide +kernel
theorem dX0_run_67 : decode cX0_run 67 = .ok (.aload_n 0, 1) := by decide +kernel
theorem dX0_run_68 : decode cX0_run 68 = .ok (.getfield 22, 3) := by decide +kernel
theorem dX0_run_71 : decode cX0_run 71 = .ok (.iload 5, 2) := by decide +kernel
theorem dX0_run_73 : decode cX0_run 73 = .ok (.invokevirtual 35, 3) := by decide +kernel
theorem dX0_run_76 : decode cX0_run 76 = .ok (.ireturn, 1) := by decide +kernel
theorem dX0_run_77 : decode cX0_run 77 = .ok (.iconst 0, 1) := by decide +kernel
theorem dX0_run_78 : decode cX0_run 78 = .ok (.ireturn, 1) := by decide +kernel
theorem dX0_traceAt_0 : decode cX0_traceAt 0 = .ok (.iload_n 1, 1) := by decide +kernel
theorem dX0_traceAt_1 : decode cX0_traceAt 1 = .ok (.iconst 0, 1) := by decide +kernel
theorem dX0_traceAt_2 : decode cX0_traceAt 2 = .ok (.aload_n 0, 1) := by decide +kernel
theorem dX0_traceAt_3 : decode cX0_traceAt 3 = .ok (.getfield 15, 3) := by decide +kernel
theorem dX0_traceAt_6 : decode cX0_traceAt 6 = .ok (.bipush 20, 2) := by decide +kernel
theorem dX0_traceAt_8 : decode cX0_traceAt 8 = .ok (.invokestatic 38, 3) := by decide +kernel
theorem dX0_traceAt_11 : decode cX0_traceAt 11 = .ok (.iconst 1, 1) := by decide +kernel
theorem dX0_traceAt_12 : decode cX0_traceAt 12 = .ok (.isub, 1) := by decide +kernel
theorem dX0_traceAt_13 : decode cX0_traceAt 13 = .ok (.invokestatic 43, 3) := by decide +kernel
theorem dX0_traceAt_16 : decode cX0_traceAt 16 = .ok (.ifCond .eq 12, 3) := by decide +kernel
theorem dX0_traceAt_19 : decode cX0_traceAt 19 = .ok (.aload_n 0, 1) := by decide +kernel
theorem dX0_traceAt_20 : decode cX0_traceAt 20 = .ok (.getfield 11, 3) := by decide +kernel
theorem dX0_traceAt_23 : decode cX0_traceAt 23 = .ok (.iload_n 1, 1) := by decide +kernel
theorem dX0_traceAt_24 : decode cX0_traceAt 24 = .ok (.iaload, 1) := by decide +kernel
theorem dX0_traceAt_25 : decode cX0_traceAt 25 = .ok (.goto 4, 3) := by decide +kernel
theorem dX0_traceAt_28 : decode cX0_traceAt 28 = .ok (.iconst (-1), 1) := by decide +kernel
theorem dX0_traceAt_29 : decode cX0_traceAt 29 = .ok (.ireturn, 1) := by decide +kernel
theorem dX0_begin_0 : decode cX0_begin 0 = .ok (.aload_n 0, 1) := by decide +kernel
theorem dX0_begin_1 : decode cX0_begin 1 = .ok (.getfield 15, 3) := by decide +kernel
theorem dX0_begin_4 : decode cX0_begin 4 = .ok (.bipush 20, 2) := by decide +kernel
theorem dX0_begin_6 : decode cX0_begin 6 = .ok (.if_icmp .ge 13, 3) := by decide +kernel
theorem dX0_begin_9 : decode cX0_begin 9 = .ok (.aload_n 0, 1) := by decide +kernel
theorem dX0_begin_10 : decode cX0_begin 10 = .ok (.getfield 11, 3) := by decide +kernel
theorem dX0_begin_13 : decode cX0_begin 13 = .ok (.aload_n 0, 1) := by decide +kernel
theorem dX0_begin_14 : decode cX0_begin 14 = .ok (.getfield 15, 3) := by decide +kernel
theorem dX0_begin_17 : decode cX0_begin 17 = .ok (.iload_n 1, 1) := by decide +kernel
theorem dX0_begin_18 : decode cX0_begin 18 = .ok (.iastore, 1) := by decide +kernel
theorem dX0_begin_19 : decode cX0_begin 19 = .ok (.aload_n 0, 1) := by decide +kernel
theorem dX0_begin_20 : decode cX0_begin 20 = .ok (.dup, 1) := by decide +kernel
theorem dX0_begin_21 : decode cX0_begin 21 = .ok (.getfield 15, 3) := by decide +kernel
theorem dX0_begin_24 : decode cX0_begin 24 = .ok (.iconst 1, 1) := by decide +kernel
theorem dX0_begin_25 : decode cX0_begin 25 = .ok (.iadd, 1) := by decide +kernel
theorem dX0_begin_26 : decode cX0_begin 26 = .ok (.putfield 15, 3) := by decide +kernel
theorem dX0_begin_29 : decode cX0_begin 29 = .ok (.return_, 1) := by decide +kernel
theorem dX0_asksFrom_0 : decode cX0_asksFrom 0 = .ok (.iload_n 1, 1) := by decide +kernel
theorem dX0_asksFrom_1 : decode cX0_asksFrom 1 = .ok (.tableswitch 90 1 6 #[39, 90, 39, 57, 90, 75], 39) := by decide +kernel
theorem dX0_asksFrom_40 : decode cX0_asksFrom 40 = .ok (.aload_n 0, 1) := by decide +kernel
theorem dX0_asksFrom_41 : decode cX0_asksFrom 41 = .ok (.bipush 20, 2) := by decide +kernel
theorem dX0_asksFrom_43 : decode cX0_asksFrom 43 = .ok (.invokevirtual 47, 3) := by decide +kernel
theorem dX0_asksFrom_46 : decode cX0_asksFrom 46 = .ok (.aload_n 0, 1) := by decide +kernel
theorem dX0_asksFrom_47 : decode cX0_asksFrom 47 = .ok (.iconst 0, 1) := by decide +kernel
theorem dX0_asksFrom_48 : decode cX0_asksFrom 48 = .ok (.iload_n 2, 1) := by decide +kernel
theorem dX0_asksFrom_49 : decode cX0_asksFrom 49 = .ok (.invokevirtual 28, 3) := by decide +kernel
theorem dX0_asksFrom_52 : decode cX0_asksFrom 52 = .ok (.aload_n 0, 1) := by decide +kernel
theorem dX0_asksFrom_53 : decode cX0_asksFrom 53 = .ok (.getfield 25, 3) := by decide +kernel
theorem dX0_asksFrom_56 : decode cX0_asksFrom 56 = .ok (.iadd, 1) := by decide +kernel
theorem dX0_asksFrom_57 : decode cX0_asksFrom 57 = .ok (.ireturn, 1) := by decide +kernel
theorem dX0_asksFrom_58 : decode cX0_asksFrom 58 = .ok (.aload_n 0, 1) := by decide +kernel
theorem dX0_asksFrom_59 : decode cX0_asksFrom 59 = .ok (.bipush 51, 2) := by decide +kernel
theorem dX0_asksFrom_61 : decode cX0_asksFrom 61 = .ok (.invokevirtual 47, 3) := by decide +kernel
theorem dX0_asksFrom_64 : decode cX0_asksFrom 64 = .ok (.aload_n 0, 1) := by decide +kernel
theorem dX0_asksFrom_65 : decode cX0_asksFrom 65 = .ok (.iconst 0, 1) := by decide +kernel
theorem dX0_asksFrom_66 : decode cX0_asksFrom 66 = .ok (.iload_n 2, 1) := by decide +kernel
theorem dX0_asksFrom_67 : decode cX0_asksFrom 67 = .ok (.invokevirtual 28, 3) := by decide +kernel
theorem dX0_asksFrom_70 : decode cX0_asksFrom 70 = .ok (.aload_n 0, 1) := by decide +kernel
theorem dX0_asksFrom_71 : decode cX0_asksFrom 71 = .ok (.getfield 19, 3) := by decide +kernel
theorem dX0_asksFrom_74 : decode cX0_asksFrom 74 = .ok (.isub, 1) := by decide +kernel
theorem dX0_asksFrom_75 : decode cX0_asksFrom 75 = .ok (.ireturn, 1) := by decide +kernel
theorem dX0_asksFrom_76 : decode cX0_asksFrom 76 = .ok (.aload_n 0, 1) := by decide +kernel
theorem dX0_asksFrom_77 : decode cX0_asksFrom 77 = .ok (.bipush 70, 2) := by decide +kernel
theorem dX0_asksFrom_79 : decode cX0_asksFrom 79 = .ok (.invokevirtual 47, 3) := by decide +kernel
theorem dX0_asksFrom_82 : decode cX0_asksFrom 82 = .ok (.aload_n 0, 1) := by decide +kernel
theorem dX0_asksFrom_83 : decode cX0_asksFrom 83 = .ok (.iconst 4, 1) := by decide +kernel
theorem dX0_asksFrom_84 : decode cX0_asksFrom 84 = .ok (.iload_n 2, 1) := by decide +kernel
theorem dX0_asksFrom_85 : decode cX0_asksFrom 85 = .ok (.invokevirtual 28, 3) := by decide +kernel
theorem dX0_asksFrom_88 : decode cX0_asksFrom 88 = .ok (.iconst 2, 1) := by decide +kernel
theorem dX0_asksFrom_89 : decode cX0_asksFrom 89 = .ok (.imul, 1) := by decide +kernel
theorem dX0_asksFrom_90 : decode cX0_asksFrom 90 = .ok (.ireturn, 1) := by decide +kernel
theorem dX0_asksFrom_91 : decode cX0_asksFrom 91 = .ok (.aload_n 0, 1) := by decide +kernel
theorem dX0_asksFrom_92 : decode cX0_asksFrom 92 = .ok (.bipush 10, 2) := by decide +kernel
theorem dX0_asksFrom_94 : decode cX0_asksFrom 94 = .ok (.invokevirtual 47, 3) := by decide +kernel
theorem dX0_asksFrom_97 : decode cX0_asksFrom 97 = .ok (.iload_n 2, 1) := by decide +kernel
theorem dX0_asksFrom_98 : decode cX0_asksFrom 98 = .ok (.aload_n 0, 1) := by decide +kernel
theorem dX0_asksFrom_99 : decode cX0_asksFrom 99 = .ok (.getfield 19, 3) := by decide +kernel
theorem dX0_asksFrom_102 : decode cX0_asksFrom 102 = .ok (.iadd, 1) := by decide +kernel
theorem dX0_asksFrom_103 : decode cX0_asksFrom 103 = .ok (.ireturn, 1) := by decide +kernel
theorem dX0_leansFrom_0 : decode cX0_leansFrom 0 = .ok (.iload_n 1, 1) := by decide +kernel
theorem dX0_leansFrom_1 : decode cX0_leansFrom 1 = .ok (.tableswitch 83 2 6 #[35, 50, 83, 35, 65], 35) := by decide +kernel
theorem dX0_leansFrom_36 : decode cX0_leansFrom 36 = .ok (.aload_n 0, 1) := by decide +kernel
theorem dX0_leansFrom_37 : decode cX0_leansFrom 37 = .ok (.bipush 30, 2) := by decide +kernel
theorem dX0_leansFrom_39 : decode cX0_leansFrom 39 = .ok (.invokevirtual 47, 3) := by decide +kernel
theorem dX0_leansFrom_42 : decode cX0_leansFrom 42 = .ok (.aload_n 0, 1) := by decide +kernel
theorem dX0_leansFrom_43 : decode cX0_leansFrom 43 = .ok (.iconst 0, 1) := by decide +kernel
theorem dX0_leansFrom_44 : decode cX0_leansFrom 44 = .ok (.iload_n 2, 1) := by decide +kernel
theorem dX0_leansFrom_45 : decode cX0_leansFrom 45 = .ok (.invokevirtual 32, 3) := by decide +kernel
theorem dX0_leansFrom_48 : decode cX0_leansFrom 48 = .ok (.iconst 3, 1) := by decide +kernel
theorem dX0_leansFrom_49 : decode cX0_leansFrom 49 = .ok (.imul, 1) := by decide +kernel
theorem dX0_leansFrom_50 : decode cX0_leansFrom 50 = .ok (.ireturn, 1) := by decide +kernel
theorem dX0_leansFrom_51 : decode cX0_leansFrom 51 = .ok (.aload_n 0, 1) := by decide +kernel
theorem dX0_leansFrom_52 : decode cX0_leansFrom 52 = .ok (.bipush 40, 2) := by decide +kernel
theorem dX0_leansFrom_54 : decode cX0_leansFrom 54 = .ok (.invokevirtual 47, 3) := by decide +kernel
theorem dX0_leansFrom_57 : decode cX0_leansFrom 57 = .ok (.aload_n 0, 1) := by decide +kernel
theorem dX0_leansFrom_58 : decode cX0_leansFrom 58 = .ok (.iconst 1, 1) := by decide +kernel
theorem dX0_leansFrom_59 : decode cX0_leansFrom 59 = .ok (.iload_n 2, 1) := by decide +kernel
theorem dX0_leansFrom_60 : decode cX0_leansFrom 60 = .ok (.iconst 1, 1) := by decide +kernel
theorem dX0_leansFrom_61 : decode cX0_leansFrom 61 = .ok (.iadd, 1) := by decide +kernel
theorem dX0_leansFrom_62 : decode cX0_leansFrom 62 = .ok (.invokevirtual 32, 3) := by decide +kernel
theorem dX0_leansFrom_65 : decode cX0_leansFrom 65 = .ok (.ireturn, 1) := by decide +kernel
theorem dX0_leansFrom_66 : decode cX0_leansFrom 66 = .ok (.aload_n 0, 1) := by decide +kernel
theorem dX0_leansFrom_67 : decode cX0_leansFrom 67 = .ok (.bipush 71, 2) := by decide +kernel
theorem dX0_leansFrom_69 : decode cX0_leansFrom 69 = .ok (.invokevirtual 47, 3) := by decide +kernel
theorem dX0_leansFrom_72 : decode cX0_leansFrom 72 = .ok (.aload_n 0, 1) := by decide +kernel
theorem dX0_leansFrom_73 : decode cX0_leansFrom 73 = .ok (.iconst 4, 1) := by decide +kernel
theorem dX0_leansFrom_74 : decode cX0_leansFrom 74 = .ok (.iload_n 2, 1) := by decide +kernel
theorem dX0_leansFrom_75 : decode cX0_leansFrom 75 = .ok (.aload_n 0, 1) := by decide +kernel
theorem dX0_leansFrom_76 : decode cX0_leansFrom 76 = .ok (.getfield 25, 3) := by decide +kernel
theorem dX0_leansFrom_79 : decode cX0_leansFrom 79 = .ok (.isub, 1) := by decide +kernel
theorem dX0_leansFrom_80 : decode cX0_leansFrom 80 = .ok (.invokevirtual 32, 3) := by decide +kernel
theorem dX0_leansFrom_83 : decode cX0_leansFrom 83 = .ok (.ireturn, 1) := by decide +kernel
theorem dX0_leansFrom_84 : decode cX0_leansFrom 84 = .ok (.aload_n 0, 1) := by decide +kernel
theorem dX0_leansFrom_85 : decode cX0_leansFrom 85 = .ok (.bipush 11, 2) := by decide +kernel
theorem dX0_leansFrom_87 : decode cX0_leansFrom 87 = .ok (.invokevirtual 47, 3) := by decide +kernel
theorem dX0_leansFrom_90 : decode cX0_leansFrom 90 = .ok (.aload_n 0, 1) := by decide +kernel
theorem dX0_leansFrom_91 : decode cX0_leansFrom 91 = .ok (.aload_n 0, 1) := by decide +kernel
theorem dX0_leansFrom_92 : decode cX0_leansFrom 92 = .ok (.getfield 22, 3) := by decide +kernel
theorem dX0_leansFrom_95 : decode cX0_leansFrom 95 = .ok (.iload_n 2, 1) := by decide +kernel
theorem dX0_leansFrom_96 : decode cX0_leansFrom 96 = .ok (.invokevirtual 28, 3) := by decide +kernel
theorem dX0_leansFrom_99 : decode cX0_leansFrom 99 = .ok (.iconst 2, 1) := by decide +kernel
theorem dX0_leansFrom_100 : decode cX0_leansFrom 100 = .ok (.imul, 1) := by decide +kernel
theorem dX0_leansFrom_101 : decode cX0_leansFrom 101 = .ok (.ireturn, 1) := by decide +kernel
theorem dX0_sumsFrom_0 : decode cX0_sumsFrom 0 = .ok (.iload_n 1, 1) := by decide +kernel
theorem dX0_sumsFrom_1 : decode cX0_sumsFrom 1 = .ok (.tableswitch 56 4 6 #[27, 41, 27], 27) := by decide +kernel
theorem dX0_sumsFrom_28 : decode cX0_sumsFrom 28 = .ok (.aload_n 0, 1) := by decide +kernel
theorem dX0_sumsFrom_29 : decode cX0_sumsFrom 29 = .ok (.bipush 50, 2) := by decide +kernel
theorem dX0_sumsFrom_31 : decode cX0_sumsFrom 31 = .ok (.invokevirtual 47, 3) := by decide +kernel
theorem dX0_sumsFrom_34 : decode cX0_sumsFrom 34 = .ok (.aload_n 0, 1) := by decide +kernel
theorem dX0_sumsFrom_35 : decode cX0_sumsFrom 35 = .ok (.iconst 0, 1) := by decide +kernel
theorem dX0_sumsFrom_36 : decode cX0_sumsFrom 36 = .ok (.iload_n 2, 1) := by decide +kernel
theorem dX0_sumsFrom_37 : decode cX0_sumsFrom 37 = .ok (.invokevirtual 35, 3) := by decide +kernel
theorem dX0_sumsFrom_40 : decode cX0_sumsFrom 40 = .ok (.ineg, 1) := by decide +kernel
theorem dX0_sumsFrom_41 : decode cX0_sumsFrom 41 = .ok (.ireturn, 1) := by decide +kernel
theorem dX0_sumsFrom_42 : decode cX0_sumsFrom 42 = .ok (.aload_n 0, 1) := by decide +kernel
theorem dX0_sumsFrom_43 : decode cX0_sumsFrom 43 = .ok (.bipush 60, 2) := by decide +kernel
theorem dX0_sumsFrom_45 : decode cX0_sumsFrom 45 = .ok (.invokevirtual 47, 3) := by decide +kernel
theorem dX0_sumsFrom_48 : decode cX0_sumsFrom 48 = .ok (.aload_n 0, 1) := by decide +kernel
theorem dX0_sumsFrom_49 : decode cX0_sumsFrom 49 = .ok (.iconst 2, 1) := by decide +kernel
theorem dX0_sumsFrom_50 : decode cX0_sumsFrom 50 = .ok (.iload_n 2, 1) := by decide +kernel
theorem dX0_sumsFrom_51 : decode cX0_sumsFrom 51 = .ok (.invokevirtual 35, 3) := by decide +kernel
theorem dX0_sumsFrom_54 : decode cX0_sumsFrom 54 = .ok (.iconst 5, 1) := by decide +kernel
theorem dX0_sumsFrom_55 : decode cX0_sumsFrom 55 = .ok (.ixor, 1) := by decide +kernel
theorem dX0_sumsFrom_56 : decode cX0_sumsFrom 56 = .ok (.ireturn, 1) := by decide +kernel
theorem dX0_sumsFrom_57 : decode cX0_sumsFrom 57 = .ok (.aload_n 0, 1) := by decide +kernel
theorem dX0_sumsFrom_58 : decode cX0_sumsFrom 58 = .ok (.bipush 12, 2) := by decide +kernel
theorem dX0_sumsFrom_60 : decode cX0_sumsFrom 60 = .ok (.invokevirtual 47, 3) := by decide +kernel
theorem dX0_sumsFrom_63 : decode cX0_sumsFrom 63 = .ok (.aload_n 0, 1) := by decide +kernel
theorem dX0_sumsFrom_64 : decode cX0_sumsFrom 64 = .ok (.aload_n 0, 1) := by decide +kernel
theorem dX0_sumsFrom_65 : decode cX0_sumsFrom 65 = .ok (.getfield 22, 3) := by decide +kernel
theorem dX0_sumsFrom_68 : decode cX0_sumsFrom 68 = .ok (.iload_n 2, 1) := by decide +kernel
theorem dX0_sumsFrom_69 : decode cX0_sumsFrom 69 = .ok (.invokevirtual 32, 3) := by decide +kernel
theorem dX0_sumsFrom_72 : decode cX0_sumsFrom 72 = .ok (.aload_n 0, 1) := by decide +kernel
theorem dX0_sumsFrom_73 : decode cX0_sumsFrom 73 = .ok (.aload_n 0, 1) := by decide +kernel
theorem dX0_sumsFrom_74 : decode cX0_sumsFrom 74 = .ok (.getfield 22, 3) := by decide +kernel
theorem dX0_sumsFrom_77 : decode cX0_sumsFrom 77 = .ok (.iload_n 2, 1) := by decide +kernel
theorem dX0_sumsFrom_78 : decode cX0_sumsFrom 78 = .ok (.aload_n 0, 1) := by decide +kernel
theorem dX0_sumsFrom_79 : decode cX0_sumsFrom 79 = .ok (.getfield 25, 3) := by decide +kernel
theorem dX0_sumsFrom_82 : decode cX0_sumsFrom 82 = .ok (.isub, 1) := by decide +kernel
theorem dX0_sumsFrom_83 : decode cX0_sumsFrom 83 = .ok (.invokevirtual 28, 3) := by decide +kernel
theorem dX0_sumsFrom_86 : decode cX0_sumsFrom 86 = .ok (.ixor, 1) := by decide +kernel
theorem dX0_sumsFrom_87 : decode cX0_sumsFrom 87 = .ok (.ireturn, 1) := by decide +kernel
theorem dX1_init_0 : decode cX1_init 0 = .ok (.aload_n 0, 1) := by decide +kernel
theorem dX1_init_1 : decode cX1_init 1 = .ok (.invokespecial 3, 3) := by decide +kernel
theorem dX1_init_4 : decode cX1_init 4 = .ok (.aload_n 0, 1) := by decide +kernel
theorem dX1_init_5 : decode cX1_init 5 = .ok (.bipush 8, 2) := by decide +kernel
theorem dX1_init_7 : decode cX1_init 7 = .ok (.newarray .int, 2) := by decide +kernel
theorem dX1_init_9 : decode cX1_init 9 = .ok (.putfield 9, 3) := by decide +kernel
theorem dX1_init_12 : decode cX1_init 12 = .ok (.aload_n 0, 1) := by decide +kernel
theorem dX1_init_13 : decode cX1_init 13 = .ok (.sipush 256, 3) := by decide +kernel
theorem dX1_init_16 : decode cX1_init 16 = .ok (.newarray .int, 2) := by decide +kernel
theorem dX1_init_18 : decode cX1_init 18 = .ok (.putfield 15, 3) := by decide +kernel
theorem dX1_init_21 : decode cX1_init 21 = .ok (.return_, 1) := by decide +kernel
theorem dX1_leansOfBest_0 : decode cX1_leansOfBest 0 = .ok (.iconst 0, 1) := by decide +kernel
theorem dX1_leansOfBest_1 : decode cX1_leansOfBest 1 = .ok (.istore_n 3, 1) := by decide +kernel
theorem dX1_leansOfBest_2 : decode cX1_leansOfBest 2 = .ok (.iload_n 3, 1) := by decide +kernel
theorem dX1_leansOfBest_3 : decode cX1_leansOfBest 3 = .ok (.aload_n 1, 1) := by decide +kernel
theorem dX1_leansOfBest_4 : decode cX1_leansOfBest 4 = .ok (.getfield 18, 3) := by decide +kernel
theorem dX1_leansOfBest_7 : decode cX1_leansOfBest 7 = .ok (.if_icmp .ge 23, 3) := by decide +kernel
theorem dX1_leansOfBest_10 : decode cX1_leansOfBest 10 = .ok (.aload_n 0, 1) := by decide +kernel
theorem dX1_leansOfBest_11 : decode cX1_leansOfBest 11 = .ok (.getfield 9, 3) := by decide +kernel
theorem dX1_leansOfBest_14 : decode cX1_leansOfBest 14 = .ok (.iload_n 3, 1) := by decide +kernel
theorem dX1_leansOfBest_15 : decode cX1_leansOfBest 15 = .ok (.aload_n 1, 1) := by decide +kernel
theorem dX1_leansOfBest_16 : decode cX1_leansOfBest 16 = .ok (.iload_n 3, 1) := by decide +kernel
theorem dX1_leansOfBest_17 : decode cX1_leansOfBest 17 = .ok (.sipush 1023, 3) := by decide +kernel
theorem dX1_leansOfBest_20 : decode cX1_leansOfBest 20 = .ok (.invokevirtual 24, 3) := by decide +kernel
theorem dX1_leansOfBest_23 : decode cX1_leansOfBest 23 = .ok (.iastore, 1) := by decide +kernel
theorem dX1_leansOfBest_24 : decode cX1_leansOfBest 24 = .ok (.iinc 3 1, 3) := by decide +kernel
theorem dX1_leansOfBest_27 : decode cX1_leansOfBest 27 = .ok (.goto (-25), 3) := by decide +kernel
theorem dX1_leansOfBest_30 : decode cX1_leansOfBest 30 = .ok (.iconst 1, 1) := by decide +kernel
theorem dX1_leansOfBest_31 : decode cX1_leansOfBest 31 = .ok (.istore_n 3, 1) := by decide +kernel
theorem dX1_leansOfBest_32 : decode cX1_leansOfBest 32 = .ok (.iload_n 3, 1) := by decide +kernel
theorem dX1_leansOfBest_33 : decode cX1_leansOfBest 33 = .ok (.iload_n 2, 1) := by decide +kernel
theorem dX1_leansOfBest_34 : decode cX1_leansOfBest 34 = .ok (.if_icmp .gt 30, 3) := by decide +kernel
theorem dX1_leansOfBest_37 : decode cX1_leansOfBest 37 = .ok (.iload_n 3, 1) := by decide +kernel
theorem dX1_leansOfBest_38 : decode cX1_leansOfBest 38 = .ok (.iload_n 2, 1) := by decide +kernel
theorem dX1_leansOfBest_39 : decode cX1_leansOfBest 39 = .ok (.iconst (-1), 1) := by decide +kernel
theorem dX1_leansOfBest_40 : decode cX1_leansOfBest 40 = .ok (.ixor, 1) := by decide +kernel
theorem dX1_leansOfBest_41 : decode cX1_leansOfBest 41 = .ok (.iand, 1) := by decide +kernel
theorem dX1_leansOfBest_42 : decode cX1_leansOfBest 42 = .ok (.ifCond .ne 16, 3) := by decide +kernel
theorem dX1_leansOfBest_45 : decode cX1_leansOfBest 45 = .ok (.aload_n 0, 1) := by decide +kernel
theorem dX1_leansOfBest_46 : decode cX1_leansOfBest 46 = .ok (.getfield 15, 3) := by decide +kernel
theorem dX1_leansOfBest_49 : decode cX1_leansOfBest 49 = .ok (.iload_n 3, 1) := by decide +kernel
theorem dX1_leansOfBest_50 : decode cX1_leansOfBest 50 = .ok (.aload_n 0, 1) := by decide +kernel
theorem dX1_leansOfBest_51 : decode cX1_leansOfBest 51 = .ok (.aload_n 1, 1) := by decide +kernel
theorem dX1_leansOfBest_52 : decode cX1_leansOfBest 52 = .ok (.iload_n 2, 1) := by decide +kernel
theorem dX1_leansOfBest_53 : decode cX1_leansOfBest 53 = .ok (.iload_n 3, 1) := by decide +kernel
theorem dX1_leansOfBest_54 : decode cX1_leansOfBest 54 = .ok (.invokevirtual 28, 3) := by decide +kernel
theorem dX1_leansOfBest_57 : decode cX1_leansOfBest 57 = .ok (.iastore, 1) := by decide +kernel
theorem dX1_leansOfBest_58 : decode cX1_leansOfBest 58 = .ok (.iinc 3 1, 3) := by decide +kernel
theorem dX1_leansOfBest_61 : decode cX1_leansOfBest 61 = .ok (.goto (-29), 3) := by decide +kernel
theorem dX1_leansOfBest_64 : decode cX1_leansOfBest 64 = .ok (.aload_n 0, 1) := by decide +kernel
theorem dX1_leansOfBest_65 : decode cX1_leansOfBest 65 = .ok (.getfield 15, 3) := by decide +kernel
theorem dX1_leansOfBest_68 : decode cX1_leansOfBest 68 = .ok (.iload_n 2, 1) := by decide +kernel
theorem dX1_leansOfBest_69 : decode cX1_leansOfBest 69 = .ok (.iaload, 1) := by decide +kernel
theorem dX1_leansOfBest_70 : decode cX1_leansOfBest 70 = .ok (.ireturn, 1) := by decide +kernel
theorem dX1_questionOfBest_0 : decode cX1_questionOfBest 0 = .ok (.iload_n 2, 1) := by decide +kernel
theorem dX1_questionOfBest_1 : decode cX1_questionOfBest 1 = .ok (.istore 4, 2) := by decide +kernel
theorem dX1_questionOfBest_3 : decode cX1_questionOfBest 3 = .ok (.iconst 0, 1) := by decide +kernel
theorem dX1_questionOfBest_4 : decode cX1_questionOfBest 4 = .ok (.istore 5, 2) := by decide +kernel
theorem dX1_questionOfBest_6 : decode cX1_questionOfBest 6 = .ok (.iload 5, 2) := by decide +kernel
theorem dX1_questionOfBest_8 : decode cX1_questionOfBest 8 = .ok (.iload_n 3, 1) := by decide +kernel
theorem dX1_questionOfBest_9 : decode cX1_questionOfBest 9 = .ok (.if_icmp .ge 26, 3) := by decide +kernel
theorem dX1_questionOfBest_12 : decode cX1_questionOfBest 12 = .ok (.iload 4, 2) := by decide +kernel
theorem dX1_questionOfBest_14 : decode cX1_questionOfBest 14 = .ok (.iconst 1, 1) := by decide +kernel
theorem dX1_questionOfBest_15 : decode cX1_questionOfBest 15 = .ok (.aload_n 0, 1) := by decide +kernel
theorem dX1_questionOfBest_16 : decode cX1_questionOfBest 16 = .ok (.aload_n 1, 1) := by decide +kernel
theorem dX1_questionOfBest_17 : decode cX1_questionOfBest 17 = .ok (.iload_n 2, 1) := by decide +kernel
theorem dX1_questionOfBest_18 : decode cX1_questionOfBest 18 = .ok (.iload 4, 2) := by decide +kernel
theorem dX1_questionOfBest_20 : decode cX1_questionOfBest 20 = .ok (.invokevirtual 32, 3) := by decide +kernel
theorem dX1_questionOfBest_23 : decode cX1_questionOfBest 23 = .ok (.ishl, 1) := by decide +kernel
theorem dX1_questionOfBest_24 : decode cX1_questionOfBest 24 = .ok (.iconst (-1), 1) := by decide +kernel
theorem dX1_questionOfBest_25 : decode cX1_questionOfBest 25 = .ok (.ixor, 1) := by decide +kernel
theorem dX1_questionOfBest_26 : decode cX1_questionOfBest 26 = .ok (.iand, 1) := by decide +kernel
theorem dX1_questionOfBest_27 : decode cX1_questionOfBest 27 = .ok (.istore 4, 2) := by decide +kernel
theorem dX1_questionOfBest_29 : decode cX1_questionOfBest 29 = .ok (.iinc 5 1, 3) := by decide +kernel
theorem dX1_questionOfBest_32 : decode cX1_questionOfBest 32 = .ok (.goto (-26), 3) := by decide +kernel
theorem dX1_questionOfBest_35 : decode cX1_questionOfBest 35 = .ok (.aload_n 0, 1) := by decide +kernel
theorem dX1_questionOfBest_36 : decode cX1_questionOfBest 36 = .ok (.aload_n 1, 1) := by decide +kernel
theorem dX1_questionOfBest_37 : decode cX1_questionOfBest 37 = .ok (.iload_n 2, 1) := by decide +kernel
theorem dX1_questionOfBest_38 : decode cX1_questionOfBest 38 = .ok (.iload 4, 2) := by decide +kernel
theorem dX1_questionOfBest_40 : decode cX1_questionOfBest 40 = .ok (.invokevirtual 32, 3) := by decide +kernel
theorem dX1_questionOfBest_43 : decode cX1_questionOfBest 43 = .ok (.ireturn, 1) := by decide +kernel
theorem dX1_leastOf_0 : decode cX1_leastOf 0 = .ok (.ldc 35, 2) := by decide +kernel
theorem dX1_leastOf_2 : decode cX1_leastOf 2 = .ok (.istore 4, 2) := by decide +kernel
theorem dX1_leastOf_4 : decode cX1_leastOf 4 = .ok (.iconst 0, 1) := by decide +kernel
theorem dX1_leastOf_5 : decode cX1_leastOf 5 = .ok (.istore 5, 2) := by decide +kernel
theorem dX1_leastOf_7 : decode cX1_leastOf 7 = .ok (.iload 5, 2) := by decide +kernel
theorem dX1_leastOf_9 : decode cX1_leastOf 9 = .ok (.aload_n 1, 1) := by decide +kernel
theorem dX1_leastOf_10 : decode cX1_leastOf 10 = .ok (.getfield 18, 3) := by decide +kernel
theorem dX1_leastOf_13 : decode cX1_leastOf 13 = .ok (.if_icmp .ge 34, 3) := by decide +kernel
theorem dX1_leastOf_16 : decode cX1_leastOf 16 = .ok (.iload_n 3, 1) := by decide +kernel
theorem dX1_leastOf_17 : decode cX1_leastOf 17 = .ok (.iload 5, 2) := by decide +kernel
theorem dX1_leastOf_19 : decode cX1_leastOf 19 = .ok (.invokestatic 36, 3) := by decide +kernel
theorem dX1_leastOf_22 : decode cX1_leastOf 22 = .ok (.ifCond .eq 19, 3) := by decide +kernel
theorem dX1_leastOf_25 : decode cX1_leastOf 25 = .ok (.iload 4, 2) := by decide +kernel
theorem dX1_leastOf_27 : decode cX1_leastOf 27 = .ok (.aload_n 0, 1) := by decide +kernel
theorem dX1_leastOf_28 : decode cX1_leastOf 28 = .ok (.aload_n 1, 1) := by decide +kernel
theorem dX1_leastOf_29 : decode cX1_leastOf 29 = .ok (.iload_n 2, 1) := by decide +kernel
theorem dX1_leastOf_30 : decode cX1_leastOf 30 = .ok (.iload_n 3, 1) := by decide +kernel
theorem dX1_leastOf_31 : decode cX1_leastOf 31 = .ok (.iload 5, 2) := by decide +kernel
theorem dX1_leastOf_33 : decode cX1_leastOf 33 = .ok (.invokevirtual 40, 3) := by decide +kernel
theorem dX1_leastOf_36 : decode cX1_leastOf 36 = .ok (.invokestatic 44, 3) := by decide +kernel
theorem dX1_leastOf_39 : decode cX1_leastOf 39 = .ok (.istore 4, 2) := by decide +kernel
theorem dX1_leastOf_41 : decode cX1_leastOf 41 = .ok (.iinc 5 1, 3) := by decide +kernel
theorem dX1_leastOf_44 : decode cX1_leastOf 44 = .ok (.goto (-37), 3) := by decide +kernel
theorem dX1_leastOf_47 : decode cX1_leastOf 47 = .ok (.iload 4, 2) := by decide +kernel
theorem dX1_leastOf_49 : decode cX1_leastOf 49 = .ok (.ireturn, 1) := by decide +kernel
theorem dX1_firstOf_0 : decode cX1_firstOf 0 = .ok (.iconst 0, 1) := by decide +kernel
theorem dX1_firstOf_1 : decode cX1_firstOf 1 = .ok (.istore 4, 2) := by decide +kernel
theorem dX1_firstOf_3 : decode cX1_firstOf 3 = .ok (.iload 4, 2) := by decide +kernel
theorem dX1_firstOf_5 : decode cX1_firstOf 5 = .ok (.aload_n 1, 1) := by decide +kernel
theorem dX1_firstOf_6 : decode cX1_firstOf 6 = .ok (.getfield 18, 3) := by decide +kernel
theorem dX1_firstOf_9 : decode cX1_firstOf 9 = .ok (.if_icmp .ge 39, 3) := by decide +kernel
theorem dX1_firstOf_12 : decode cX1_firstOf 12 = .ok (.iload_n 3, 1) := by decide +kernel
theorem dX1_firstOf_13 : decode cX1_firstOf 13 = .ok (.iload 4, 2) := by decide +kernel
theorem dX1_firstOf_15 : decode cX1_firstOf 15 = .ok (.invokestatic 36, 3) := by decide +kernel
theorem dX1_firstOf_18 : decode cX1_firstOf 18 = .ok (.ifCond .eq 24, 3) := by decide +kernel
theorem dX1_firstOf_21 : decode cX1_firstOf 21 = .ok (.aload_n 0, 1) := by decide +kernel
theorem dX1_firstOf_22 : decode cX1_firstOf 22 = .ok (.aload_n 1, 1) := by decide +kernel
theorem dX1_firstOf_23 : decode cX1_firstOf 23 = .ok (.iload_n 2, 1) := by decide +kernel
theorem dX1_firstOf_24 : decode cX1_firstOf 24 = .ok (.iload_n 3, 1) := by decide +kernel
theorem dX1_firstOf_25 : decode cX1_firstOf 25 = .ok (.iload 4, 2) := by decide +kernel
theorem dX1_firstOf_27 : decode cX1_firstOf 27 = .ok (.invokevirtual 40, 3) := by decide +kernel
theorem dX1_firstOf_30 : decode cX1_firstOf 30 = .ok (.aload_n 0, 1) := by decide +kernel
theorem dX1_firstOf_31 : decode cX1_firstOf 31 = .ok (.getfield 15, 3) := by decide +kernel
theorem dX1_firstOf_34 : decode cX1_firstOf 34 = .ok (.iload_n 3, 1) := by decide +kernel
theorem dX1_firstOf_35 : decode cX1_firstOf 35 = .ok (.iaload, 1) := by decide +kernel
theorem dX1_firstOf_36 : decode cX1_firstOf 36 = .ok (.if_icmp .ne 6, 3) := by decide +kernel
theorem dX1_firstOf_39 : decode cX1_firstOf 39 = .ok (.iload 4, 2) := by decide +kernel
theorem dX1_firstOf_41 : decode cX1_firstOf 41 = .ok (.ireturn, 1) := by decide +kernel
theorem dX1_firstOf_42 : decode cX1_firstOf 42 = .ok (.iinc 4 1, 3) := by decide +kernel
theorem dX1_firstOf_45 : decode cX1_firstOf 45 = .ok (.goto (-42), 3) := by decide +kernel
theorem dX1_firstOf_48 : decode cX1_firstOf 48 = .ok (.iconst (-1), 1) := by decide +kernel
theorem dX1_firstOf_49 : decode cX1_firstOf 49 = .ok (.ireturn, 1) := by decide +kernel
theorem dX1_leansWithFirst_0 : decode cX1_leansWithFirst 0 = .ok (.aload_n 1, 1) := by decide +kernel
theorem dX1_leansWithFirst_1 : decode cX1_leansWithFirst 1 = .ok (.iload 4, 2) := by decide +kernel
theorem dX1_leansWithFirst_3 : decode cX1_leansWithFirst 3 = .ok (.aload_n 0, 1) := by decide +kernel
theorem dX1_leansWithFirst_4 : decode cX1_leansWithFirst 4 = .ok (.getfield 9, 3) := by decide +kernel
theorem dX1_leansWithFirst_7 : decode cX1_leansWithFirst 7 = .ok (.iload 4, 2) := by decide +kernel
theorem dX1_leansWithFirst_9 : decode cX1_leansWithFirst 9 = .ok (.iaload, 1) := by decide +kernel
theorem dX1_leansWithFirst_10 : decode cX1_leansWithFirst 10 = .ok (.iload_n 2, 1) := by decide +kernel
theorem dX1_leansWithFirst_11 : decode cX1_leansWithFirst 11 = .ok (.iload_n 3, 1) := by decide +kernel
theorem dX1_leansWithFirst_12 : decode cX1_leansWithFirst 12 = .ok (.iconst (-1), 1) := by decide +kernel
theorem dX1_leansWithFirst_13 : decode cX1_leansWithFirst 13 = .ok (.ixor, 1) := by decide +kernel
theorem dX1_leansWithFirst_14 : decode cX1_leansWithFirst 14 = .ok (.iand, 1) := by decide +kernel
theorem dX1_leansWithFirst_15 : decode cX1_leansWithFirst 15 = .ok (.invokevirtual 49, 3) := by decide +kernel
theorem dX1_leansWithFirst_18 : decode cX1_leansWithFirst 18 = .ok (.aload_n 0, 1) := by decide +kernel
theorem dX1_leansWithFirst_19 : decode cX1_leansWithFirst 19 = .ok (.getfield 9, 3) := by decide +kernel
theorem dX1_leansWithFirst_22 : decode cX1_leansWithFirst 22 = .ok (.iload 4, 2) := by decide +kernel
theorem dX1_leansWithFirst_24 : decode cX1_leansWithFirst 24 = .ok (.iaload, 1) := by decide +kernel
theorem dX1_leansWithFirst_25 : decode cX1_leansWithFirst 25 = .ok (.isub, 1) := by decide +kernel
theorem dX1_leansWithFirst_26 : decode cX1_leansWithFirst 26 = .ok (.istore 5, 2) := by decide +kernel
theorem dX1_leansWithFirst_28 : decode cX1_leansWithFirst 28 = .ok (.iload 5, 2) := by decide +kernel
theorem dX1_leansWithFirst_30 : decode cX1_leansWithFirst 30 = .ok (.invokestatic 53, 3) := by decide +kernel
theorem dX1_leansWithFirst_33 : decode cX1_leansWithFirst 33 = .ok (.aload_n 0, 1) := by decide +kernel
theorem dX1_leansWithFirst_34 : decode cX1_leansWithFirst 34 = .ok (.getfield 15, 3) := by decide +kernel
theorem dX1_leansWithFirst_37 : decode cX1_leansWithFirst 37 = .ok (.iload_n 3, 1) := by decide +kernel
theorem dX1_leansWithFirst_38 : decode cX1_leansWithFirst 38 = .ok (.iconst 1, 1) := by decide +kernel
theorem dX1_leansWithFirst_39 : decode cX1_leansWithFirst 39 = .ok (.iload 4, 2) := by decide +kernel
theorem dX1_leansWithFirst_41 : decode cX1_leansWithFirst 41 = .ok (.ishl, 1) := by decide +kernel
theorem dX1_leansWithFirst_42 : decode cX1_leansWithFirst 42 = .ok (.iconst (-1), 1) := by decide +kernel
theorem dX1_leansWithFirst_43 : decode cX1_leansWithFirst 43 = .ok (.ixor, 1) := by decide +kernel
theorem dX1_leansWithFirst_44 : decode cX1_leansWithFirst 44 = .ok (.iand, 1) := by decide +kernel
theorem dX1_leansWithFirst_45 : decode cX1_leansWithFirst 45 = .ok (.iaload, 1) := by decide +kernel
theorem dX1_leansWithFirst_46 : decode cX1_leansWithFirst 46 = .ok (.iadd, 1) := by decide +kernel
theorem dX1_leansWithFirst_47 : decode cX1_leansWithFirst 47 = .ok (.ireturn, 1) := by decide +kernel
theorem dX2_init_0 : decode cX2_init 0 = .ok (.aload_n 0, 1) := by decide +kernel
theorem dX2_init_1 : decode cX2_init 1 = .ok (.invokespecial 3, 3) := by decide +kernel
theorem dX2_init_4 : decode cX2_init 4 = .ok (.aload_n 0, 1) := by decide +kernel
theorem dX2_init_5 : decode cX2_init 5 = .ok (.bipush 8, 2) := by decide +kernel
theorem dX2_init_7 : decode cX2_init 7 = .ok (.newarray .int, 2) := by decide +kernel
theorem dX2_init_9 : decode cX2_init 9 = .ok (.putfield 9, 3) := by decide +kernel
theorem dX2_init_12 : decode cX2_init 12 = .ok (.aload_n 0, 1) := by decide +kernel
theorem dX2_init_13 : decode cX2_init 13 = .ok (.bipush 8, 2) := by decide +kernel
theorem dX2_init_15 : decode cX2_init 15 = .ok (.newarray .int, 2) := by decide +kernel
theorem dX2_init_17 : decode cX2_init 17 = .ok (.putfield 15, 3) := by decide +kernel
theorem dX2_init_20 : decode cX2_init 20 = .ok (.aload_n 0, 1) := by decide +kernel
theorem dX2_init_21 : decode cX2_init 21 = .ok (.sipush 1280, 3) := by decide +kernel
theorem dX2_init_24 : decode cX2_init 24 = .ok (.newarray .long, 2) := by decide +kernel
theorem dX2_init_26 : decode cX2_init 26 = .ok (.putfield 18, 3) := by decide +kernel
theorem dX2_init_29 : decode cX2_init 29 = .ok (.iconst 0, 1) := by decide +kernel
theorem dX2_init_30 : decode cX2_init 30 = .ok (.istore_n 1, 1) := by decide +kernel
theorem dX2_init_31 : decode cX2_init 31 = .ok (.iload_n 1, 1) := by decide +kernel
theorem dX2_init_32 : decode cX2_init 32 = .ok (.bipush 8, 2) := by decide +kernel
theorem dX2_init_34 : decode cX2_init 34 = .ok (.if_icmp .ge 16, 3) := by decide +kernel
theorem dX2_init_37 : decode cX2_init 37 = .ok (.aload_n 0, 1) := by decide +kernel
theorem dX2_init_38 : decode cX2_init 38 = .ok (.getfield 9, 3) := by decide +kernel
theorem dX2_init_41 : decode cX2_init 41 = .ok (.iload_n 1, 1) := by decide +kernel
theorem dX2_init_42 : decode cX2_init 42 = .ok (.iconst (-1), 1) := by decide +kernel
theorem dX2_init_43 : decode cX2_init 43 = .ok (.iastore, 1) := by decide +kernel
theorem dX2_init_44 : decode cX2_init 44 = .ok (.iinc 1 1, 3) := by decide +kernel
theorem dX2_init_47 : decode cX2_init 47 = .ok (.goto (-16), 3) := by decide +kernel
theorem dX2_init_50 : decode cX2_init 50 = .ok (.return_, 1) := by decide +kernel
theorem dX2_heldBy_0 : decode cX2_heldBy 0 = .ok (.aload_n 0, 1) := by decide +kernel
theorem dX2_heldBy_1 : decode cX2_heldBy 1 = .ok (.getfield 9, 3) := by decide +kernel
theorem dX2_heldBy_4 : decode cX2_heldBy 4 = .ok (.iload_n 1, 1) := by decide +kernel
theorem dX2_heldBy_5 : decode cX2_heldBy 5 = .ok (.iaload, 1) := by decide +kernel
theorem dX2_heldBy_6 : decode cX2_heldBy 6 = .ok (.ireturn, 1) := by decide +kernel
theorem dX2_sizeOf_0 : decode cX2_sizeOf 0 = .ok (.aload_n 0, 1) := by decide +kernel
theorem dX2_sizeOf_1 : decode cX2_sizeOf 1 = .ok (.getfield 15, 3) := by decide +kernel
theorem dX2_sizeOf_4 : decode cX2_sizeOf 4 = .ok (.iload_n 1, 1) := by decide +kernel
theorem dX2_sizeOf_5 : decode cX2_sizeOf 5 = .ok (.iaload, 1) := by decide +kernel
theorem dX2_sizeOf_6 : decode cX2_sizeOf 6 = .ok (.ireturn, 1) := by decide +kernel
theorem dX2_holdsRow_0 : decode cX2_holdsRow 0 = .ok (.aload_n 0, 1) := by decide +kernel
theorem dX2_holdsRow_1 : decode cX2_holdsRow 1 = .ok (.getfield 9, 3) := by decide +kernel
theorem dX2_holdsRow_4 : decode cX2_holdsRow 4 = .ok (.iload_n 1, 1) := by decide +kernel
theorem dX2_holdsRow_5 : decode cX2_holdsRow 5 = .ok (.iaload, 1) := by decide +kernel
theorem dX2_holdsRow_6 : decode cX2_holdsRow 6 = .ok (.bipush 100, 2) := by decide +kernel
theorem dX2_holdsRow_8 : decode cX2_holdsRow 8 = .ok (.if_icmp .lt 7, 3) := by decide +kernel
theorem dX2_holdsRow_11 : decode cX2_holdsRow 11 = .ok (.iconst 1, 1) := by decide +kernel
theorem dX2_holdsRow_12 : decode cX2_holdsRow 12 = .ok (.goto 4, 3) := by decide +kernel
theorem dX2_holdsRow_15 : decode cX2_holdsRow 15 = .ok (.iconst 0, 1) := by decide +kernel
theorem dX2_holdsRow_16 : decode cX2_holdsRow 16 = .ok (.ireturn, 1) := by decide +kernel
theorem dX2_holdsQuestion_0 : decode cX2_holdsQuestion 0 = .ok (.aload_n 0, 1) := by decide +kernel
theorem dX2_holdsQuestion_1 : decode cX2_holdsQuestion 1 = .ok (.getfield 9, 3) := by decide +kernel
theorem dX2_holdsQuestion_4 : decode cX2_holdsQuestion 4 = .ok (.iload_n 1, 1) := by decide +kernel
theorem dX2_holdsQuestion_5 : decode cX2_holdsQuestion 5 = .ok (.iaload, 1) := by decide +kernel
theorem dX2_holdsQuestion_6 : decode cX2_holdsQuestion 6 = .ok (.iconst (-1), 1) := by decide +kernel
theorem dX2_holdsQuestion_7 : decode cX2_holdsQuestion 7 = .ok (.if_icmp .eq 18, 3) := by decide +kernel
theorem dX2_holdsQuestion_10 : decode cX2_holdsQuestion 10 = .ok (.aload_n 0, 1) := by decide +kernel
theorem dX2_holdsQuestion_11 : decode cX2_holdsQuestion 11 = .ok (.getfield 9, 3) := by decide +kernel
theorem dX2_holdsQuestion_14 : decode cX2_holdsQuestion 14 = .ok (.iload_n 1, 1) := by decide +kernel
theorem dX2_holdsQuestion_15 : decode cX2_holdsQuestion 15 = .ok (.iaload, 1) := by decide +kernel
theorem dX2_holdsQuestion_16 : decode cX2_holdsQuestion 16 = .ok (.bipush 100, 2) := by decide +kernel
theorem dX2_holdsQuestion_18 : decode cX2_holdsQuestion 18 = .ok (.if_icmp .ge 7, 3) := by decide +kernel
theorem dX2_holdsQuestion_21 : decode cX2_holdsQuestion 21 = .ok (.iconst 1, 1) := by decide +kernel
theorem dX2_holdsQuestion_22 : decode cX2_holdsQuestion 22 = .ok (.goto 4, 3) := by decide +kernel
theorem dX2_holdsQuestion_25 : decode cX2_holdsQuestion 25 = .ok (.iconst 0, 1) := by decide +kernel
theorem dX2_holdsQuestion_26 : decode cX2_holdsQuestion 26 = .ok (.ireturn, 1) := by decide +kernel
theorem dX2_refusalOfRow_0 : decode cX2_refusalOfRow 0 = .ok (.aload_n 0, 1) := by decide +kernel
theorem dX2_refusalOfRow_1 : decode cX2_refusalOfRow 1 = .ok (.iload_n 1, 1) := by decide +kernel
theorem dX2_refusalOfRow_2 : decode cX2_refusalOfRow 2 = .ok (.iload_n 1, 1) := by decide +kernel
theorem dX2_refusalOfRow_3 : decode cX2_refusalOfRow 3 = .ok (.invokevirtual 22, 3) := by decide +kernel
theorem dX2_refusalOfRow_6 : decode cX2_refusalOfRow 6 = .ok (.ireturn, 1) := by decide +kernel
theorem dX2_refusalOfRows_0 : decode cX2_refusalOfRows 0 = .ok (.iload_n 1, 1) := by decide +kernel
theorem dX2_refusalOfRows_1 : decode cX2_refusalOfRows 1 = .ok (.invokestatic 26, 3) := by decide +kernel
theorem dX2_refusalOfRows_4 : decode cX2_refusalOfRows 4 = .ok (.ifCond .eq 10, 3) := by decide +kernel
theorem dX2_refusalOfRows_7 : decode cX2_refusalOfRows 7 = .ok (.iload_n 2, 1) := by decide +kernel
theorem dX2_refusalOfRows_8 : decode cX2_refusalOfRows 8 = .ok (.invokestatic 26, 3) := by decide +kernel
theorem dX2_refusalOfRows_11 : decode cX2_refusalOfRows 11 = .ok (.ifCond .ne 5, 3) := by decide +kernel
theorem dX2_refusalOfRows_14 : decode cX2_refusalOfRows 14 = .ok (.iconst (-1), 1) := by decide +kernel
theorem dX2_refusalOfRows_15 : decode cX2_refusalOfRows 15 = .ok (.ireturn, 1) := by decide +kernel
theorem dX2_refusalOfRows_16 : decode cX2_refusalOfRows 16 = .ok (.aload_n 0, 1) := by decide +kernel
theorem dX2_refusalOfRows_17 : decode cX2_refusalOfRows 17 = .ok (.iload_n 1, 1) := by decide +kernel
theorem dX2_refusalOfRows_18 : decode cX2_refusalOfRows 18 = .ok (.invokevirtual 30, 3) := by decide +kernel
theorem dX2_refusalOfRows_21 : decode cX2_refusalOfRows 21 = .ok (.ifCond .ne 11, 3) := by decide +kernel
theorem dX2_refusalOfRows_24 : decode cX2_refusalOfRows 24 = .ok (.aload_n 0, 1) := by decide +kernel
theorem dX2_refusalOfRows_25 : decode cX2_refusalOfRows 25 = .ok (.iload_n 2, 1) := by decide +kernel
theorem dX2_refusalOfRows_26 : decode cX2_refusalOfRows 26 = .ok (.invokevirtual 30, 3) := by decide +kernel
theorem dX2_refusalOfRows_29 : decode cX2_refusalOfRows 29 = .ok (.ifCond .eq 6, 3) := by decide +kernel
theorem dX2_refusalOfRows_32 : decode cX2_refusalOfRows 32 = .ok (.bipush (-2), 2) := by decide +kernel
theorem dX2_refusalOfRows_34 : decode cX2_refusalOfRows 34 = .ok (.ireturn, 1) := by decide +kernel
theorem dX2_refusalOfRows_35 : decode cX2_refusalOfRows 35 = .ok (.aload_n 0, 1) := by decide +kernel
theorem dX2_refusalOfRows_36 : decode cX2_refusalOfRows 36 = .ok (.iload_n 1, 1) := by decide +kernel
theorem dX2_refusalOfRows_37 : decode cX2_refusalOfRows 37 = .ok (.invokevirtual 33, 3) := by decide +kernel
theorem dX2_refusalOfRows_40 : decode cX2_refusalOfRows 40 = .ok (.ifCond .eq 33, 3) := by decide +kernel
theorem dX2_refusalOfRows_43 : decode cX2_refusalOfRows 43 = .ok (.aload_n 0, 1) := by decide +kernel
theorem dX2_refusalOfRows_44 : decode cX2_refusalOfRows 44 = .ok (.iload_n 2, 1) := by decide +kernel
theorem dX2_refusalOfRows_45 : decode cX2_refusalOfRows 45 = .ok (.invokevirtual 33, 3) := by decide +kernel
theorem dX2_refusalOfRows_48 : decode cX2_refusalOfRows 48 = .ok (.ifCond .eq 25, 3) := by decide +kernel
theorem dX2_refusalOfRows_51 : decode cX2_refusalOfRows 51 = .ok (.aload_n 0, 1) := by decide +kernel
theorem dX2_refusalOfRows_52 : decode cX2_refusalOfRows 52 = .ok (.getfield 9, 3) := by decide +kernel
theorem dX2_refusalOfRows_55 : decode cX2_refusalOfRows 55 = .ok (.iload_n 1, 1) := by decide +kernel
theorem dX2_refusalOfRows_56 : decode cX2_refusalOfRows 56 = .ok (.iaload, 1) := by decide +kernel
theorem dX2_refusalOfRows_57 : decode cX2_refusalOfRows 57 = .ok (.aload_n 0, 1) := by decide +kernel
theorem dX2_refusalOfRows_58 : decode cX2_refusalOfRows 58 = .ok (.getfield 9, 3) := by decide +kernel
theorem dX2_refusalOfRows_61 : decode cX2_refusalOfRows 61 = .ok (.iload_n 2, 1) := by decide +kernel
theorem dX2_refusalOfRows_62 : decode cX2_refusalOfRows 62 = .ok (.iaload, 1) := by decide +kernel
theorem dX2_refusalOfRows_63 : decode cX2_refusalOfRows 63 = .ok (.if_icmp .ne 7, 3) := by decide +kernel
theorem dX2_refusalOfRows_66 : decode cX2_refusalOfRows 66 = .ok (.iconst 0, 1) := by decide +kernel
theorem dX2_refusalOfRows_67 : decode cX2_refusalOfRows 67 = .ok (.goto 5, 3) := by decide +kernel
theorem dX2_refusalOfRows_70 : decode cX2_refusalOfRows 70 = .ok (.bipush (-2), 2) := by decide +kernel
theorem dX2_refusalOfRows_72 : decode cX2_refusalOfRows 72 = .ok (.ireturn, 1) := by decide +kernel
theorem dX2_refusalOfRows_73 : decode cX2_refusalOfRows 73 = .ok (.bipush (-3), 2) := by decide +kernel
theorem dX2_refusalOfRows_75 : decode cX2_refusalOfRows 75 = .ok (.ireturn, 1) := by decide +kernel
theorem dX2_has_0 : decode cX2_has 0 = .ok (.iload_n 2, 1) := by decide +kernel
theorem dX2_has_1 : decode cX2_has 1 = .ok (.ifCond .lt 19, 3) := by decide +kernel
theorem dX2_has_4 : decode cX2_has 4 = .ok (.iload_n 2, 1) := by decide +kernel
theorem dX2_has_5 : decode cX2_has 5 = .ok (.aload_n 0, 1) := by decide +kernel
theorem dX2_has_6 : decode cX2_has 6 = .ok (.getfield 15, 3) := by decide +kernel
theorem dX2_has_9 : decode cX2_has 9 = .ok (.iload_n 1, 1) := by decide +kernel
theorem dX2_has_10 : decode cX2_has 10 = .ok (.iaload, 1) := by decide +kernel
theorem dX2_has_11 : decode cX2_has 11 = .ok (.iload_n 3, 1) := by decide +kernel
theorem dX2_has_12 : decode cX2_has 12 = .ok (.isub, 1) := by decide +kernel
theorem dX2_has_13 : decode cX2_has 13 = .ok (.if_icmp .gt 7, 3) := by decide +kernel
theorem dX2_has_16 : decode cX2_has 16 = .ok (.iconst 1, 1) := by decide +kernel
theorem dX2_has_17 : decode cX2_has 17 = .ok (.goto 4, 3) := by decide +kernel
theorem dX2_has_20 : decode cX2_has 20 = .ok (.iconst 0, 1) := by decide +kernel
theorem dX2_has_21 : decode cX2_has 21 = .ok (.ireturn, 1) := by decide +kernel
theorem dX2_putRow_0 : decode cX2_putRow 0 = .ok (.aload_n 0, 1) := by decide +kernel
theorem dX2_putRow_1 : decode cX2_putRow 1 = .ok (.getfield 9, 3) := by decide +kernel
theorem dX2_putRow_4 : decode cX2_putRow 4 = .ok (.iload_n 1, 1) := by decide +kernel
theorem dX2_putRow_5 : decode cX2_putRow 5 = .ok (.bipush 100, 2) := by decide +kernel
theorem dX2_putRow_7 : decode cX2_putRow 7 = .ok (.iload_n 2, 1) := by decide +kernel
theorem dX2_putRow_8 : decode cX2_putRow 8 = .ok (.iadd, 1) := by decide +kernel
theorem dX2_putRow_9 : decode cX2_putRow 9 = .ok (.iastore, 1) := by decide +kernel
theorem dX2_putRow_10 : decode cX2_putRow 10 = .ok (.aload_n 0, 1) := by decide +kernel
theorem dX2_putRow_11 : decode cX2_putRow 11 = .ok (.getfield 15, 3) := by decide +kernel
theorem dX2_putRow_14 : decode cX2_putRow 14 = .ok (.iload_n 1, 1) := by decide +kernel
theorem dX2_putRow_15 : decode cX2_putRow 15 = .ok (.iload_n 3, 1) := by decide +kernel
theorem dX2_putRow_16 : decode cX2_putRow 16 = .ok (.iastore, 1) := by decide +kernel
theorem dX2_putRow_17 : decode cX2_putRow 17 = .ok (.iconst 0, 1) := by decide +kernel
theorem dX2_putRow_18 : decode cX2_putRow 18 = .ok (.istore 4, 2) := by decide +kernel
theorem dX2_putRow_20 : decode cX2_putRow 20 = .ok (.iload 4, 2) := by decide +kernel
theorem dX2_putRow_22 : decode cX2_putRow 22 = .ok (.iload_n 3, 1) := by decide +kernel
theorem dX2_putRow_23 : decode cX2_putRow 23 = .ok (.if_icmp .ge 23, 3) := by decide +kernel
theorem dX2_putRow_26 : decode cX2_putRow 26 = .ok (.aload_n 0, 1) := by decide +kernel
theorem dX2_putRow_27 : decode cX2_putRow 27 = .ok (.getfield 18, 3) := by decide +kernel
theorem dX2_putRow_30 : decode cX2_putRow 30 = .ok (.iload_n 1, 1) := by decide +kernel
theorem dX2_putRow_31 : decode cX2_putRow 31 = .ok (.sipush 160, 3) := by decide +kernel
theorem dX2_putRow_34 : decode cX2_putRow 34 = .ok (.imul, 1) := by decide +kernel
theorem dX2_putRow_35 : decode cX2_putRow 35 = .ok (.iload 4, 2) := by decide +kernel
theorem dX2_putRow_37 : decode cX2_putRow 37 = .ok (.iadd, 1) := by decide +kernel
theorem dX2_putRow_38 : decode cX2_putRow 38 = .ok (.lconst 0, 1) := by decide +kernel
theorem dX2_putRow_39 : decode cX2_putRow 39 = .ok (.lastore, 1) := by decide +kernel
theorem dX2_putRow_40 : decode cX2_putRow 40 = .ok (.iinc 4 1, 3) := by decide +kernel
theorem dX2_putRow_43 : decode cX2_putRow 43 = .ok (.goto (-23), 3) := by decide +kernel
theorem dX2_putRow_46 : decode cX2_putRow 46 = .ok (.return_, 1) := by decide +kernel
theorem dX2_putQuestion_0 : decode cX2_putQuestion 0 = .ok (.aload_n 0, 1) := by decide +kernel
theorem dX2_putQuestion_1 : decode cX2_putQuestion 1 = .ok (.getfield 9, 3) := by decide +kernel
theorem dX2_putQuestion_4 : decode cX2_putQuestion 4 = .ok (.iload_n 1, 1) := by decide +kernel
theorem dX2_putQuestion_5 : decode cX2_putQuestion 5 = .ok (.iload_n 2, 1) := by decide +kernel
theorem dX2_putQuestion_6 : decode cX2_putQuestion 6 = .ok (.iastore, 1) := by decide +kernel
theorem dX2_putQuestion_7 : decode cX2_putQuestion 7 = .ok (.return_, 1) := by decide +kernel
theorem dX2_dropQuestionsFrom_0 : decode cX2_dropQuestionsFrom 0 = .ok (.iconst 0, 1) := by decide +kernel
theorem dX2_dropQuestionsFrom_1 : decode cX2_dropQuestionsFrom 1 = .ok (.istore_n 2, 1) := by decide +kernel
theorem dX2_dropQuestionsFrom_2 : decode cX2_dropQuestionsFrom 2 = .ok (.iload_n 2, 1) := by decide +kernel
theorem dX2_dropQuestionsFrom_3 : decode cX2_dropQuestionsFrom 3 = .ok (.bipush 8, 2) := by decide +kernel
theorem dX2_dropQuestionsFrom_5 : decode cX2_dropQuestionsFrom 5 = .ok (.if_icmp .ge 34, 3) := by decide +kernel
theorem dX2_dropQuestionsFrom_8 : decode cX2_dropQuestionsFrom 8 = .ok (.aload_n 0, 1) := by decide +kernel
theorem dX2_dropQuestionsFrom_9 : decode cX2_dropQuestionsFrom 9 = .ok (.iload_n 2, 1) := by decide +kernel
theorem dX2_dropQuestionsFrom_10 : decode cX2_dropQuestionsFrom 10 = .ok (.invokevirtual 30, 3) := by decide +kernel
theorem dX2_dropQuestionsFrom_13 : decode cX2_dropQuestionsFrom 13 = .ok (.ifCond .eq 20, 3) := by decide +kernel
theorem dX2_dropQuestionsFrom_16 : decode cX2_dropQuestionsFrom 16 = .ok (.aload_n 0, 1) := by decide +kernel
theorem dX2_dropQuestionsFrom_17 : decode cX2_dropQuestionsFrom 17 = .ok (.getfield 9, 3) := by decide +kernel
theorem dX2_dropQuestionsFrom_20 : decode cX2_dropQuestionsFrom 20 = .ok (.iload_n 2, 1) := by decide +kernel
theorem dX2_dropQuestionsFrom_21 : decode cX2_dropQuestionsFrom 21 = .ok (.iaload, 1) := by decide +kernel
theorem dX2_dropQuestionsFrom_22 : decode cX2_dropQuestionsFrom 22 = .ok (.iload_n 1, 1) := by decide +kernel
theorem dX2_dropQuestionsFrom_23 : decode cX2_dropQuestionsFrom 23 = .ok (.if_icmp .lt 10, 3) := by decide +kernel
theorem dX2_dropQuestionsFrom_26 : decode cX2_dropQuestionsFrom 26 = .ok (.aload_n 0, 1) := by decide +kernel
theorem dX2_dropQuestionsFrom_27 : decode cX2_dropQuestionsFrom 27 = .ok (.getfield 9, 3) := by decide +kernel
theorem dX2_dropQuestionsFrom_30 : decode cX2_dropQuestionsFrom 30 = .ok (.iload_n 2, 1) := by decide +kernel
theorem dX2_dropQuestionsFrom_31 : decode cX2_dropQuestionsFrom 31 = .ok (.iconst (-1), 1) := by decide +kernel
theorem dX2_dropQuestionsFrom_32 : decode cX2_dropQuestionsFrom 32 = .ok (.iastore, 1) := by decide +kernel
theorem dX2_dropQuestionsFrom_33 : decode cX2_dropQuestionsFrom 33 = .ok (.iinc 2 1, 3) := by decide +kernel
theorem dX2_dropQuestionsFrom_36 : decode cX2_dropQuestionsFrom 36 = .ok (.goto (-34), 3) := by decide +kernel
theorem dX2_dropQuestionsFrom_39 : decode cX2_dropQuestionsFrom 39 = .ok (.return_, 1) := by decide +kernel
theorem dX2_putElement_0 : decode cX2_putElement 0 = .ok (.aload_n 0, 1) := by decide +kernel
theorem dX2_putElement_1 : decode cX2_putElement 1 = .ok (.getfield 18, 3) := by decide +kernel
theorem dX2_putElement_4 : decode cX2_putElement 4 = .ok (.iload_n 1, 1) := by decide +kernel
theorem dX2_putElement_5 : decode cX2_putElement 5 = .ok (.sipush 160, 3) := by decide +kernel
theorem dX2_putElement_8 : decode cX2_putElement 8 = .ok (.imul, 1) := by decide +kernel
theorem dX2_putElement_9 : decode cX2_putElement 9 = .ok (.iload_n 2, 1) := by decide +kernel
theorem dX2_putElement_10 : decode cX2_putElement 10 = .ok (.iadd, 1) := by decide +kernel
theorem dX2_putElement_11 : decode cX2_putElement 11 = .ok (.aload_n 0, 1) := by decide +kernel
theorem dX2_putElement_12 : decode cX2_putElement 12 = .ok (.getfield 9, 3) := by decide +kernel
theorem dX2_putElement_15 : decode cX2_putElement 15 = .ok (.iload_n 1, 1) := by decide +kernel
theorem dX2_putElement_16 : decode cX2_putElement 16 = .ok (.iaload, 1) := by decide +kernel
theorem dX2_putElement_17 : decode cX2_putElement 17 = .ok (.bipush 100, 2) := by decide +kernel
theorem dX2_putElement_19 : decode cX2_putElement 19 = .ok (.isub, 1) := by decide +kernel
theorem dX2_putElement_20 : decode cX2_putElement 20 = .ok (.lload_n 3, 1) := by decide +kernel
theorem dX2_putElement_21 : decode cX2_putElement 21 = .ok (.invokestatic 36, 3) := by decide +kernel
theorem dX2_putElement_24 : decode cX2_putElement 24 = .ok (.lastore, 1) := by decide +kernel
theorem dX2_putElement_25 : decode cX2_putElement 25 = .ok (.return_, 1) := by decide +kernel
theorem dX2_lowestBits_0 : decode cX2_lowestBits 0 = .ok (.iload_n 0, 1) := by decide +kernel
theorem dX2_lowestBits_1 : decode cX2_lowestBits 1 = .ok (.tableswitch 41 0 2 #[27, 32, 37], 27) := by decide +kernel
theorem dX2_lowestBits_28 : decode cX2_lowestBits 28 = .ok (.lload_n 1, 1) := by decide +kernel
theorem dX2_lowestBits_29 : decode cX2_lowestBits 29 = .ok (.l2i, 1) := by decide +kernel
theorem dX2_lowestBits_30 : decode cX2_lowestBits 30 = .ok (.i2b, 1) := by decide +kernel
theorem dX2_lowestBits_31 : decode cX2_lowestBits 31 = .ok (.i2l, 1) := by decide +kernel
theorem dX2_lowestBits_32 : decode cX2_lowestBits 32 = .ok (.lreturn, 1) := by decide +kernel
theorem dX2_lowestBits_33 : decode cX2_lowestBits 33 = .ok (.lload_n 1, 1) := by decide +kernel
theorem dX2_lowestBits_34 : decode cX2_lowestBits 34 = .ok (.l2i, 1) := by decide +kernel
theorem dX2_lowestBits_35 : decode cX2_lowestBits 35 = .ok (.i2s, 1) := by decide +kernel
theorem dX2_lowestBits_36 : decode cX2_lowestBits 36 = .ok (.i2l, 1) := by decide +kernel
theorem dX2_lowestBits_37 : decode cX2_lowestBits 37 = .ok (.lreturn, 1) := by decide +kernel
theorem dX2_lowestBits_38 : decode cX2_lowestBits 38 = .ok (.lload_n 1, 1) := by decide +kernel
theorem dX2_lowestBits_39 : decode cX2_lowestBits 39 = .ok (.l2i, 1) := by decide +kernel
theorem dX2_lowestBits_40 : decode cX2_lowestBits 40 = .ok (.i2l, 1) := by decide +kernel
theorem dX2_lowestBits_41 : decode cX2_lowestBits 41 = .ok (.lreturn, 1) := by decide +kernel
theorem dX2_lowestBits_42 : decode cX2_lowestBits 42 = .ok (.lload_n 1, 1) := by decide +kernel
theorem dX2_lowestBits_43 : decode cX2_lowestBits 43 = .ok (.lreturn, 1) := by decide +kernel
theorem dX2_copyElements_0 : decode cX2_copyElements 0 = .ok (.aload_n 0, 1) := by decide +kernel
theorem dX2_copyElements_1 : decode cX2_copyElements 1 = .ok (.getfield 18, 3) := by decide +kernel
theorem dX2_copyElements_4 : decode cX2_copyElements 4 = .ok (.iload_n 1, 1) := by decide +kernel
theorem dX2_copyElements_5 : decode cX2_copyElements 5 = .ok (.sipush 160, 3) := by decide +kernel
theorem dX2_copyElements_8 : decode cX2_copyElements 8 = .ok (.imul, 1) := by decide +kernel
theorem dX2_copyElements_9 : decode cX2_copyElements 9 = .ok (.iload_n 3, 1) := by decide +kernel
theorem dX2_copyElements_10 : decode cX2_copyElements 10 = .ok (.iadd, 1) := by decide +kernel
theorem dX2_copyElements_11 : decode cX2_copyElements 11 = .ok (.aload_n 0, 1) := by decide +kernel
theorem dX2_copyElements_12 : decode cX2_copyElements 12 = .ok (.getfield 18, 3) := by decide +kernel
theorem dX2_copyElements_15 : decode cX2_copyElements 15 = .ok (.iload_n 2, 1) := by decide +kernel
theorem dX2_copyElements_16 : decode cX2_copyElements 16 = .ok (.sipush 160, 3) := by decide +kernel
theorem dX2_copyElements_19 : decode cX2_copyElements 19 = .ok (.imul, 1) := by decide +kernel
theorem dX2_copyElements_20 : decode cX2_copyElements 20 = .ok (.iload 4, 2) := by decide +kernel
theorem dX2_copyElements_22 : decode cX2_copyElements 22 = .ok (.iadd, 1) := by decide +kernel
theorem dX2_copyElements_23 : decode cX2_copyElements 23 = .ok (.iload 5, 2) := by decide +kernel
theorem dX2_copyElements_25 : decode cX2_copyElements 25 = .ok (.invokestatic 40, 3) := by decide +kernel
theorem dX2_copyElements_28 : decode cX2_copyElements 28 = .ok (.return_, 1) := by decide +kernel
theorem dX2_longAt_0 : decode cX2_longAt 0 = .ok (.aload_n 0, 1) := by decide +kernel
theorem dX2_longAt_1 : decode cX2_longAt 1 = .ok (.getfield 18, 3) := by decide +kernel
theorem dX2_longAt_4 : decode cX2_longAt 4 = .ok (.iload_n 1, 1) := by decide +kernel
theorem dX2_longAt_5 : decode cX2_longAt 5 = .ok (.sipush 160, 3) := by decide +kernel
theorem dX2_longAt_8 : decode cX2_longAt 8 = .ok (.imul, 1) := by decide +kernel
theorem dX2_longAt_9 : decode cX2_longAt 9 = .ok (.iload_n 2, 1) := by decide +kernel
theorem dX2_longAt_10 : decode cX2_longAt 10 = .ok (.iadd, 1) := by decide +kernel
theorem dX2_longAt_11 : decode cX2_longAt 11 = .ok (.laload, 1) := by decide +kernel
theorem dX2_longAt_12 : decode cX2_longAt 12 = .ok (.lreturn, 1) := by decide +kernel
theorem dX2_intAt_0 : decode cX2_intAt 0 = .ok (.aload_n 0, 1) := by decide +kernel
theorem dX2_intAt_1 : decode cX2_intAt 1 = .ok (.getfield 18, 3) := by decide +kernel
theorem dX2_intAt_4 : decode cX2_intAt 4 = .ok (.iload_n 1, 1) := by decide +kernel
theorem dX2_intAt_5 : decode cX2_intAt 5 = .ok (.sipush 160, 3) := by decide +kernel
theorem dX2_intAt_8 : decode cX2_intAt 8 = .ok (.imul, 1) := by decide +kernel
theorem dX2_intAt_9 : decode cX2_intAt 9 = .ok (.iload_n 2, 1) := by decide +kernel
theorem dX2_intAt_10 : decode cX2_intAt 10 = .ok (.iadd, 1) := by decide +kernel
theorem dX2_intAt_11 : decode cX2_intAt 11 = .ok (.laload, 1) := by decide +kernel
theorem dX2_intAt_12 : decode cX2_intAt 12 = .ok (.l2i, 1) := by decide +kernel
theorem dX2_intAt_13 : decode cX2_intAt 13 = .ok (.ireturn, 1) := by decide +kernel
theorem dX2_copyInts_0 : decode cX2_copyInts 0 = .ok (.iconst 0, 1) := by decide +kernel
theorem dX2_copyInts_1 : decode cX2_copyInts 1 = .ok (.istore_n 3, 1) := by decide +kernel
theorem dX2_copyInts_2 : decode cX2_copyInts 2 = .ok (.iload_n 3, 1) := by decide +kernel
theorem dX2_copyInts_3 : decode cX2_copyInts 3 = .ok (.aload_n 0, 1) := by decide +kernel
theorem dX2_copyInts_4 : decode cX2_copyInts 4 = .ok (.getfield 15, 3) := by decide +kernel
theorem dX2_copyInts_7 : decode cX2_copyInts 7 = .ok (.iload_n 1, 1) := by decide +kernel
theorem dX2_copyInts_8 : decode cX2_copyInts 8 = .ok (.iaload, 1) := by decide +kernel
theorem dX2_copyInts_9 : decode cX2_copyInts 9 = .ok (.if_icmp .ge 24, 3) := by decide +kernel
theorem dX2_copyInts_12 : decode cX2_copyInts 12 = .ok (.iload_n 3, 1) := by decide +kernel
theorem dX2_copyInts_13 : decode cX2_copyInts 13 = .ok (.aload_n 2, 1) := by decide +kernel
theorem dX2_copyInts_14 : decode cX2_copyInts 14 = .ok (.arraylength, 1) := by decide +kernel
theorem dX2_copyInts_15 : decode cX2_copyInts 15 = .ok (.if_icmp .ge 18, 3) := by decide +kernel
theorem dX2_copyInts_18 : decode cX2_copyInts 18 = .ok (.aload_n 2, 1) := by decide +kernel
theorem dX2_copyInts_19 : decode cX2_copyInts 19 = .ok (.iload_n 3, 1) := by decide +kernel
theorem dX2_copyInts_20 : decode cX2_copyInts 20 = .ok (.aload_n 0, 1) := by decide +kernel
theorem dX2_copyInts_21 : decode cX2_copyInts 21 = .ok (.iload_n 1, 1) := by decide +kernel
theorem dX2_copyInts_22 : decode cX2_copyInts 22 = .ok (.iload_n 3, 1) := by decide +kernel
theorem dX2_copyInts_23 : decode cX2_copyInts 23 = .ok (.invokevirtual 46, 3) := by decide +kernel
theorem dX2_copyInts_26 : decode cX2_copyInts 26 = .ok (.iastore, 1) := by decide +kernel
theorem dX2_copyInts_27 : decode cX2_copyInts 27 = .ok (.iinc 3 1, 3) := by decide +kernel
theorem dX2_copyInts_30 : decode cX2_copyInts 30 = .ok (.goto (-28), 3) := by decide +kernel
theorem dX2_copyInts_33 : decode cX2_copyInts 33 = .ok (.return_, 1) := by decide +kernel
theorem dX3_init_0 : decode cX3_init 0 = .ok (.aload_n 0, 1) := by decide +kernel
theorem dX3_init_1 : decode cX3_init 1 = .ok (.invokespecial 3, 3) := by decide +kernel
theorem dX3_init_4 : decode cX3_init 4 = .ok (.aload_n 0, 1) := by decide +kernel
theorem dX3_init_5 : decode cX3_init 5 = .ok (.bipush 16, 2) := by decide +kernel
theorem dX3_init_7 : decode cX3_init 7 = .ok (.newarray .int, 2) := by decide +kernel
theorem dX3_init_9 : decode cX3_init 9 = .ok (.putfield 11, 3) := by decide +kernel
theorem dX3_init_12 : decode cX3_init 12 = .ok (.aload_n 0, 1) := by decide +kernel
theorem dX3_init_13 : decode cX3_init 13 = .ok (.bipush 64, 2) := by decide +kernel
theorem dX3_init_15 : decode cX3_init 15 = .ok (.newarray .int, 2) := by decide +kernel
theorem dX3_init_17 : decode cX3_init 17 = .ok (.putfield 15, 3) := by decide +kernel
theorem dX3_init_20 : decode cX3_init 20 = .ok (.aload_n 0, 1) := by decide +kernel
theorem dX3_init_21 : decode cX3_init 21 = .ok (.bipush 50, 2) := by decide +kernel
theorem dX3_init_23 : decode cX3_init 23 = .ok (.newarray .int, 2) := by decide +kernel
theorem dX3_init_25 : decode cX3_init 25 = .ok (.putfield 18, 3) := by decide +kernel
theorem dX3_init_28 : decode cX3_init 28 = .ok (.aload_n 0, 1) := by decide +kernel
theorem dX3_init_29 : decode cX3_init 29 = .ok (.iconst 5, 1) := by decide +kernel
theorem dX3_init_30 : decode cX3_init 30 = .ok (.putfield 21, 3) := by decide +kernel
theorem dX3_init_33 : decode cX3_init 33 = .ok (.aload_n 0, 1) := by decide +kernel
theorem dX3_init_34 : decode cX3_init 34 = .ok (.iconst 1, 1) := by decide +kernel
theorem dX3_init_35 : decode cX3_init 35 = .ok (.putfield 25, 3) := by decide +kernel
theorem dX3_init_38 : decode cX3_init 38 = .ok (.return_, 1) := by decide +kernel
theorem dX3_become_0 : decode cX3_become 0 = .ok (.aload_n 1, 1) := by decide +kernel
theorem dX3_become_1 : decode cX3_become 1 = .ok (.getfield 11, 3) := by decide +kernel
theorem dX3_become_4 : decode cX3_become 4 = .ok (.iconst 0, 1) := by decide +kernel
theorem dX3_become_5 : decode cX3_become 5 = .ok (.aload_n 0, 1) := by decide +kernel
theorem dX3_become_6 : decode cX3_become 6 = .ok (.getfield 11, 3) := by decide +kernel
theorem dX3_become_9 : decode cX3_become 9 = .ok (.iconst 0, 1) := by decide +kernel
theorem dX3_become_10 : decode cX3_become 10 = .ok (.aload_n 0, 1) := by decide +kernel
theorem dX3_become_11 : decode cX3_become 11 = .ok (.getfield 11, 3) := by decide +kernel
theorem dX3_become_14 : decode cX3_become 14 = .ok (.arraylength, 1) := by decide +kernel
theorem dX3_become_15 : decode cX3_become 15 = .ok (.invokestatic 28, 3) := by decide +kernel
theorem dX3_become_18 : decode cX3_become 18 = .ok (.aload_n 1, 1) := by decide +kernel
theorem dX3_become_19 : decode cX3_become 19 = .ok (.getfield 15, 3) := by decide +kernel
theorem dX3_become_22 : decode cX3_become 22 = .ok (.iconst 0, 1) := by decide +kernel
theorem dX3_become_23 : decode cX3_become 23 = .ok (.aload_n 0, 1) := by decide +kernel
theorem dX3_become_24 : decode cX3_become 24 = .ok (.getfield 15, 3) := by decide +kernel
theorem dX3_become_27 : decode cX3_become 27 = .ok (.iconst 0, 1) := by decide +kernel
theorem dX3_become_28 : decode cX3_become 28 = .ok (.aload_n 0, 1) := by decide +kernel
theorem dX3_become_29 : decode cX3_become 29 = .ok (.getfield 15, 3) := by decide +kernel
theorem dX3_become_32 : decode cX3_become 32 = .ok (.arraylength, 1) := by decide +kernel
theorem dX3_become_33 : decode cX3_become 33 = .ok (.invokestatic 28, 3) := by decide +kernel
theorem dX3_become_36 : decode cX3_become 36 = .ok (.aload_n 1, 1) := by decide +kernel
theorem dX3_become_37 : decode cX3_become 37 = .ok (.getfield 18, 3) := by decide +kernel
theorem dX3_become_40 : decode cX3_become 40 = .ok (.iconst 0, 1) := by decide +kernel
theorem dX3_become_41 : decode cX3_become 41 = .ok (.aload_n 0, 1) := by decide +kernel
theorem dX3_become_42 : decode cX3_become 42 = .ok (.getfield 18, 3) := by decide +kernel
theorem dX3_become_45 : decode cX3_become 45 = .ok (.iconst 0, 1) := by decide +kernel
theorem dX3_become_46 : decode cX3_become 46 = .ok (.aload_n 0, 1) := by decide +kernel
theorem dX3_become_47 : decode cX3_become 47 = .ok (.getfield 18, 3) := by decide +kernel
theorem dX3_become_50 : decode cX3_become 50 = .ok (.arraylength, 1) := by decide +kernel
theorem dX3_become_51 : decode cX3_become 51 = .ok (.invokestatic 28, 3) := by decide +kernel
theorem dX3_become_54 : decode cX3_become 54 = .ok (.aload_n 0, 1) := by decide +kernel
theorem dX3_become_55 : decode cX3_become 55 = .ok (.aload_n 1, 1) := by decide +kernel
theorem dX3_become_56 : decode cX3_become 56 = .ok (.getfield 34, 3) := by decide +kernel
theorem dX3_become_59 : decode cX3_become 59 = .ok (.putfield 34, 3) := by decide +kernel
theorem dX3_become_62 : decode cX3_become 62 = .ok (.aload_n 0, 1) := by decide +kernel
theorem dX3_become_63 : decode cX3_become 63 = .ok (.aload_n 1, 1) := by decide +kernel
theorem dX3_become_64 : decode cX3_become 64 = .ok (.getfield 37, 3) := by decide +kernel
theorem dX3_become_67 : decode cX3_become 67 = .ok (.putfield 37, 3) := by decide +kernel
theorem dX3_become_70 : decode cX3_become 70 = .ok (.aload_n 0, 1) := by decide +kernel
theorem dX3_become_71 : decode cX3_become 71 = .ok (.aload_n 1, 1) := by decide +kernel
theorem dX3_become_72 : decode cX3_become 72 = .ok (.getfield 21, 3) := by decide +kernel
theorem dX3_become_75 : decode cX3_become 75 = .ok (.putfield 21, 3) := by decide +kernel
theorem dX3_become_78 : decode cX3_become 78 = .ok (.aload_n 0, 1) := by decide +kernel
theorem dX3_become_79 : decode cX3_become 79 = .ok (.aload_n 1, 1) := by decide +kernel
theorem dX3_become_80 : decode cX3_become 80 = .ok (.getfield 40, 3) := by decide +kernel
theorem dX3_become_83 : decode cX3_become 83 = .ok (.putfield 40, 3) := by decide +kernel
theorem dX3_become_86 : decode cX3_become 86 = .ok (.aload_n 0, 1) := by decide +kernel
theorem dX3_become_87 : decode cX3_become 87 = .ok (.aload_n 1, 1) := by decide +kernel
theorem dX3_become_88 : decode cX3_become 88 = .ok (.getfield 25, 3) := by decide +kernel
theorem dX3_become_91 : decode cX3_become 91 = .ok (.putfield 25, 3) := by decide +kernel
theorem dX3_become_94 : decode cX3_become 94 = .ok (.aload_n 0, 1) := by decide +kernel
theorem dX3_become_95 : decode cX3_become 95 = .ok (.aload_n 1, 1) := by decide +kernel
theorem dX3_become_96 : decode cX3_become 96 = .ok (.getfield 43, 3) := by decide +kernel
theorem dX3_become_99 : decode cX3_become 99 = .ok (.putfield 43, 3) := by decide +kernel
theorem dX3_become_102 : decode cX3_become 102 = .ok (.aload_n 0, 1) := by decide +kernel
theorem dX3_become_103 : decode cX3_become 103 = .ok (.aload_n 1, 1) := by decide +kernel
theorem dX3_become_104 : decode cX3_become 104 = .ok (.getfield 46, 3) := by decide +kernel
theorem dX3_become_107 : decode cX3_become 107 = .ok (.putfield 46, 3) := by decide +kernel
theorem dX3_become_110 : decode cX3_become 110 = .ok (.return_, 1) := by decide +kernel
theorem dX3_hasQuestion_0 : decode cX3_hasQuestion 0 = .ok (.iload_n 1, 1) := by decide +kernel
theorem dX3_hasQuestion_1 : decode cX3_hasQuestion 1 = .ok (.iconst 0, 1) := by decide +kernel
theorem dX3_hasQuestion_2 : decode cX3_hasQuestion 2 = .ok (.aload_n 0, 1) := by decide +kernel
theorem dX3_hasQuestion_3 : decode cX3_hasQuestion 3 = .ok (.getfield 34, 3) := by decide +kernel
theorem dX3_hasQuestion_6 : decode cX3_hasQuestion 6 = .ok (.iconst 1, 1) := by decide +kernel
theorem dX3_hasQuestion_7 : decode cX3_hasQuestion 7 = .ok (.isub, 1) := by decide +kernel
theorem dX3_hasQuestion_8 : decode cX3_hasQuestion 8 = .ok (.invokestatic 49, 3) := by decide +kernel
theorem dX3_hasQuestion_11 : decode cX3_hasQuestion 11 = .ok (.ireturn, 1) := by decide +kernel
theorem dX3_hasQuestions_0 : decode cX3_hasQuestions 0 = .ok (.iload_n 1, 1) := by decide +kernel
theorem dX3_hasQuestions_1 : decode cX3_hasQuestions 1 = .ok (.aload_n 0, 1) := by decide +kernel
theorem dX3_hasQuestions_2 : decode cX3_hasQuestions 2 = .ok (.getfield 34, 3) := by decide +kernel
theorem dX3_hasQuestions_5 : decode cX3_hasQuestions 5 = .ok (.iushr, 1) := by decide +kernel
theorem dX3_hasQuestions_6 : decode cX3_hasQuestions 6 = .ok (.ifCond .ne 7, 3) := by decide +kernel
theorem dX3_hasQuestions_9 : decode cX3_hasQuestions 9 = .ok (.iconst 1, 1) := by decide +kernel
theorem dX3_hasQuestions_10 : decode cX3_hasQuestions 10 = .ok (.goto 4, 3) := by decide +kernel
theorem dX3_hasQuestions_13 : decode cX3_hasQuestions 13 = .ok (.iconst 0, 1) := by decide +kernel
theorem dX3_hasQuestions_14 : decode cX3_hasQuestions 14 = .ok (.ireturn, 1) := by decide +kernel
theorem dX3_hasGroup_0 : decode cX3_hasGroup 0 = .ok (.iload_n 1, 1) := by decide +kernel
theorem dX3_hasGroup_1 : decode cX3_hasGroup 1 = .ok (.iconst 0, 1) := by decide +kernel
theorem dX3_hasGroup_2 : decode cX3_hasGroup 2 = .ok (.aload_n 0, 1) := by decide +kernel
theorem dX3_hasGroup_3 : decode cX3_hasGroup 3 = .ok (.getfield 37, 3) := by decide +kernel
theorem dX3_hasGroup_6 : decode cX3_hasGroup 6 = .ok (.iconst 1, 1) := by decide +kernel
theorem dX3_hasGroup_7 : decode cX3_hasGroup 7 = .ok (.isub, 1) := by decide +kernel
theorem dX3_hasGroup_8 : decode cX3_hasGroup 8 = .ok (.invokestatic 49, 3) := by decide +kernel
theorem dX3_hasGroup_11 : decode cX3_hasGroup 11 = .ok (.ireturn, 1) := by decide +kernel
theorem dX3_hasRoomForQuestion_0 : decode cX3_hasRoomForQuestion 0 = .ok (.aload_n 0, 1) := by decide +kernel
theorem dX3_hasRoomForQuestion_1 : decode cX3_hasRoomForQuestion 1 = .ok (.getfield 34, 3) := by decide +kernel
theorem dX3_hasRoomForQuestion_4 : decode cX3_hasRoomForQuestion 4 = .ok (.bipush 8, 2) := by decide +kernel
theorem dX3_hasRoomForQuestion_6 : decode cX3_hasRoomForQuestion 6 = .ok (.if_icmp .ge 7, 3) := by decide +kernel
theorem dX3_hasRoomForQuestion_9 : decode cX3_hasRoomForQuestion 9 = .ok (.iconst 1, 1) := by decide +kernel
theorem dX3_hasRoomForQuestion_10 : decode cX3_hasRoomForQuestion 10 = .ok (.goto 4, 3) := by decide +kernel
theorem dX3_hasRoomForQuestion_13 : decode cX3_hasRoomForQuestion 13 = .ok (.iconst 0, 1) := by decide +kernel
theorem dX3_hasRoomForQuestion_14 : decode cX3_hasRoomForQuestion 14 = .ok (.ireturn, 1) := by decide +kernel
theorem dX3_hasRoomForGroup_0 : decode cX3_hasRoomForGroup 0 = .ok (.aload_n 0, 1) := by decide +kernel
theorem dX3_hasRoomForGroup_1 : decode cX3_hasRoomForGroup 1 = .ok (.getfield 37, 3) := by decide +kernel
theorem dX3_hasRoomForGroup_4 : decode cX3_hasRoomForGroup 4 = .ok (.bipush 10, 2) := by decide +kernel
theorem dX3_hasRoomForGroup_6 : decode cX3_hasRoomForGroup 6 = .ok (.if_icmp .ge 7, 3) := by decide +kernel
theorem dX3_hasRoomForGroup_9 : decode cX3_hasRoomForGroup 9 = .ok (.iconst 1, 1) := by decide +kernel
theorem dX3_hasRoomForGroup_10 : decode cX3_hasRoomForGroup 10 = .ok (.goto 4, 3) := by decide +kernel
theorem dX3_hasRoomForGroup_13 : decode cX3_hasRoomForGroup 13 = .ok (.iconst 0, 1) := by decide +kernel
theorem dX3_hasRoomForGroup_14 : decode cX3_hasRoomForGroup 14 = .ok (.ireturn, 1) := by decide +kernel
theorem dX3_addQuestion_0 : decode cX3_addQuestion 0 = .ok (.aload_n 0, 1) := by decide +kernel
theorem dX3_addQuestion_1 : decode cX3_addQuestion 1 = .ok (.dup, 1) := by decide +kernel
theorem dX3_addQuestion_2 : decode cX3_addQuestion 2 = .ok (.getfield 34, 3) := by decide +kernel
theorem dX3_addQuestion_5 : decode cX3_addQuestion 5 = .ok (.dup_x1, 1) := by decide +kernel
theorem dX3_addQuestion_6 : decode cX3_addQuestion 6 = .ok (.iconst 1, 1) := by decide +kernel
theorem dX3_addQuestion_7 : decode cX3_addQuestion 7 = .ok (.iadd, 1) := by decide +kernel
theorem dX3_addQuestion_8 : decode cX3_addQuestion 8 = .ok (.putfield 34, 3) := by decide +kernel
theorem dX3_addQuestion_11 : decode cX3_addQuestion 11 = .ok (.istore_n 3, 1) := by decide +kernel
theorem dX3_addQuestion_12 : decode cX3_addQuestion 12 = .ok (.aload_n 0, 1) := by decide +kernel
theorem dX3_addQuestion_13 : decode cX3_addQuestion 13 = .ok (.getfield 11, 3) := by decide +kernel
theorem dX3_addQuestion_16 : decode cX3_addQuestion 16 = .ok (.iload_n 3, 1) := by decide +kernel
theorem dX3_addQuestion_17 : decode cX3_addQuestion 17 = .ok (.iconst 2, 1) := by decide +kernel
theorem dX3_addQuestion_18 : decode cX3_addQuestion 18 = .ok (.imul, 1) := by decide +kernel
theorem dX3_addQuestion_19 : decode cX3_addQuestion 19 = .ok (.iload_n 1, 1) := by decide +kernel
theorem dX3_addQuestion_20 : decode cX3_addQuestion 20 = .ok (.iastore, 1) := by decide +kernel
theorem dX3_addQuestion_21 : decode cX3_addQuestion 21 = .ok (.aload_n 0, 1) := by decide +kernel
theorem dX3_addQuestion_22 : decode cX3_addQuestion 22 = .ok (.getfield 11, 3) := by decide +kernel
theorem dX3_addQuestion_25 : decode cX3_addQuestion 25 = .ok (.iload_n 3, 1) := by decide +kernel
theorem dX3_addQuestion_26 : decode cX3_addQuestion 26 = .ok (.iconst 2, 1) := by decide +kernel
theorem dX3_addQuestion_27 : decode cX3_addQuestion 27 = .ok (.imul, 1) := by decide +kernel
theorem dX3_addQuestion_28 : decode cX3_addQuestion 28 = .ok (.iconst 1, 1) := by decide +kernel
theorem dX3_addQuestion_29 : decode cX3_addQuestion 29 = .ok (.iadd, 1) := by decide +kernel
theorem dX3_addQuestion_30 : decode cX3_addQuestion 30 = .ok (.iload_n 2, 1) := by decide +kernel
theorem dX3_addQuestion_31 : decode cX3_addQuestion 31 = .ok (.iastore, 1) := by decide +kernel
theorem dX3_addQuestion_32 : decode cX3_addQuestion 32 = .ok (.iload_n 3, 1) := by decide +kernel
theorem dX3_addQuestion_33 : decode cX3_addQuestion 33 = .ok (.ireturn, 1) := by decide +kernel
theorem dX3_addGroup_0 : decode cX3_addGroup 0 = .ok (.aload_n 0, 1) := by decide +kernel
theorem dX3_addGroup_1 : decode cX3_addGroup 1 = .ok (.dup, 1) := by decide +kernel
theorem dX3_addGroup_2 : decode cX3_addGroup 2 = .ok (.getfield 37, 3) := by decide +kernel
theorem dX3_addGroup_5 : decode cX3_addGroup 5 = .ok (.dup_x1, 1) := by decide +kernel
theorem dX3_addGroup_6 : decode cX3_addGroup 6 = .ok (.iconst 1, 1) := by decide +kernel
theorem dX3_addGroup_7 : decode cX3_addGroup 7 = .ok (.iadd, 1) := by decide +kernel
theorem dX3_addGroup_8 : decode cX3_addGroup 8 = .ok (.putfield 37, 3) := by decide +kernel
theorem dX3_addGroup_11 : decode cX3_addGroup 11 = .ok (.istore 6, 2) := by decide +kernel
theorem dX3_addGroup_13 : decode cX3_addGroup 13 = .ok (.iload 6, 2) := by decide +kernel
theorem dX3_addGroup_15 : decode cX3_addGroup 15 = .ok (.iconst 5, 1) := by decide +kernel
theorem dX3_addGroup_16 : decode cX3_addGroup 16 = .ok (.imul, 1) := by decide +kernel
theorem dX3_addGroup_17 : decode cX3_addGroup 17 = .ok (.istore 7, 2) := by decide +kernel
theorem dX3_addGroup_19 : decode cX3_addGroup 19 = .ok (.aload_n 0, 1) := by decide +kernel
theorem dX3_addGroup_20 : decode cX3_addGroup 20 = .ok (.getfield 18, 3) := by decide +kernel
theorem dX3_addGroup_23 : decode cX3_addGroup 23 = .ok (.iload 7, 2) := by decide +kernel
theorem dX3_addGroup_25 : decode cX3_addGroup 25 = .ok (.iload_n 1, 1) := by decide +kernel
theorem dX3_addGroup_26 : decode cX3_addGroup 26 = .ok (.iastore, 1) := by decide +kernel
theorem dX3_addGroup_27 : decode cX3_addGroup 27 = .ok (.aload_n 0, 1) := by decide +kernel
theorem dX3_addGroup_28 : decode cX3_addGroup 28 = .ok (.getfield 18, 3) := by decide +kernel
theorem dX3_addGroup_31 : decode cX3_addGroup 31 = .ok (.iload 7, 2) := by decide +kernel
theorem dX3_addGroup_33 : decode cX3_addGroup 33 = .ok (.iconst 1, 1) := by decide +kernel
theorem dX3_addGroup_34 : decode cX3_addGroup 34 = .ok (.iadd, 1) := by decide +kernel
theorem dX3_addGroup_35 : decode cX3_addGroup 35 = .ok (.iload_n 2, 1) := by decide +kernel
theorem dX3_addGroup_36 : decode cX3_addGroup 36 = .ok (.iastore, 1) := by decide +kernel
theorem dX3_addGroup_37 : decode cX3_addGroup 37 = .ok (.aload_n 0, 1) := by decide +kernel
theorem dX3_addGroup_38 : decode cX3_addGroup 38 = .ok (.getfield 18, 3) := by decide +kernel
theorem dX3_addGroup_41 : decode cX3_addGroup 41 = .ok (.iload 7, 2) := by decide +kernel
theorem dX3_addGroup_43 : decode cX3_addGroup 43 = .ok (.iconst 2, 1) := by decide +kernel
theorem dX3_addGroup_44 : decode cX3_addGroup 44 = .ok (.iadd, 1) := by decide +kernel
theorem dX3_addGroup_45 : decode cX3_addGroup 45 = .ok (.iload_n 3, 1) := by decide +kernel
theorem dX3_addGroup_46 : decode cX3_addGroup 46 = .ok (.iastore, 1) := by decide +kernel
theorem dX3_addGroup_47 : decode cX3_addGroup 47 = .ok (.aload_n 0, 1) := by decide +kernel
theorem dX3_addGroup_48 : decode cX3_addGroup 48 = .ok (.getfield 18, 3) := by decide +kernel
theorem dX3_addGroup_51 : decode cX3_addGroup 51 = .ok (.iload 7, 2) := by decide +kernel
theorem dX3_addGroup_53 : decode cX3_addGroup 53 = .ok (.iconst 3, 1) := by decide +kernel
theorem dX3_addGroup_54 : decode cX3_addGroup 54 = .ok (.iadd, 1) := by decide +kernel
theorem dX3_addGroup_55 : decode cX3_addGroup 55 = .ok (.iload 4, 2) := by decide +kernel
theorem dX3_addGroup_57 : decode cX3_addGroup 57 = .ok (.iastore, 1) := by decide +kernel
theorem dX3_addGroup_58 : decode cX3_addGroup 58 = .ok (.aload_n 0, 1) := by decide +kernel
theorem dX3_addGroup_59 : decode cX3_addGroup 59 = .ok (.getfield 18, 3) := by decide +kernel
theorem dX3_addGroup_62 : decode cX3_addGroup 62 = .ok (.iload 7, 2) := by decide +kernel
theorem dX3_addGroup_64 : decode cX3_addGroup 64 = .ok (.iconst 4, 1) := by decide +kernel
theorem dX3_addGroup_65 : decode cX3_addGroup 65 = .ok (.iadd, 1) := by decide +kernel
theorem dX3_addGroup_66 : decode cX3_addGroup 66 = .ok (.iload 5, 2) := by decide +kernel
theorem dX3_addGroup_68 : decode cX3_addGroup 68 = .ok (.iastore, 1) := by decide +kernel
theorem dX3_addGroup_69 : decode cX3_addGroup 69 = .ok (.iload 6, 2) := by decide +kernel
theorem dX3_addGroup_71 : decode cX3_addGroup 71 = .ok (.ireturn, 1) := by decide +kernel
theorem dX3_splitGroup_0 : decode cX3_splitGroup 0 = .ok (.aload_n 0, 1) := by decide +kernel
theorem dX3_splitGroup_1 : decode cX3_splitGroup 1 = .ok (.getfield 18, 3) := by decide +kernel
theorem dX3_splitGroup_4 : decode cX3_splitGroup 4 = .ok (.iload_n 1, 1) := by decide +kernel
theorem dX3_splitGroup_5 : decode cX3_splitGroup 5 = .ok (.iconst 5, 1) := by decide +kernel
theorem dX3_splitGroup_6 : decode cX3_splitGroup 6 = .ok (.imul, 1) := by decide +kernel
theorem dX3_splitGroup_7 : decode cX3_splitGroup 7 = .ok (.dup2, 1) := by decide +kernel
theorem dX3_splitGroup_8 : decode cX3_splitGroup 8 = .ok (.iaload, 1) := by decide +kernel
theorem dX3_splitGroup_9 : decode cX3_splitGroup 9 = .ok (.iload_n 3, 1) := by decide +kernel
theorem dX3_splitGroup_10 : decode cX3_splitGroup 10 = .ok (.isub, 1) := by decide +kernel
theorem dX3_splitGroup_11 : decode cX3_splitGroup 11 = .ok (.iastore, 1) := by decide +kernel
theorem dX3_splitGroup_12 : decode cX3_splitGroup 12 = .ok (.aload_n 0, 1) := by decide +kernel
theorem dX3_splitGroup_13 : decode cX3_splitGroup 13 = .ok (.iload_n 3, 1) := by decide +kernel
theorem dX3_splitGroup_14 : decode cX3_splitGroup 14 = .ok (.iload_n 2, 1) := by decide +kernel
theorem dX3_splitGroup_15 : decode cX3_splitGroup 15 = .ok (.aload_n 0, 1) := by decide +kernel
theorem dX3_splitGroup_16 : decode cX3_splitGroup 16 = .ok (.iload_n 1, 1) := by decide +kernel
theorem dX3_splitGroup_17 : decode cX3_splitGroup 17 = .ok (.invokevirtual 53, 3) := by decide +kernel
theorem dX3_splitGroup_20 : decode cX3_splitGroup 20 = .ok (.aload_n 0, 1) := by decide +kernel
theorem dX3_splitGroup_21 : decode cX3_splitGroup 21 = .ok (.iload_n 1, 1) := by decide +kernel
theorem dX3_splitGroup_22 : decode cX3_splitGroup 22 = .ok (.invokevirtual 57, 3) := by decide +kernel
theorem dX3_splitGroup_25 : decode cX3_splitGroup 25 = .ok (.aload_n 0, 1) := by decide +kernel
theorem dX3_splitGroup_26 : decode cX3_splitGroup 26 = .ok (.iload_n 1, 1) := by decide +kernel
theorem dX3_splitGroup_27 : decode cX3_splitGroup 27 = .ok (.invokevirtual 60, 3) := by decide +kernel
theorem dX3_splitGroup_30 : decode cX3_splitGroup 30 = .ok (.invokevirtual 63, 3) := by decide +kernel
theorem dX3_splitGroup_33 : decode cX3_splitGroup 33 = .ok (.ireturn, 1) := by decide +kernel
theorem dX3_kindOf_0 : decode cX3_kindOf 0 = .ok (.aload_n 0, 1) := by decide +kernel
theorem dX3_kindOf_1 : decode cX3_kindOf 1 = .ok (.getfield 11, 3) := by decide +kernel
theorem dX3_kindOf_4 : decode cX3_kindOf 4 = .ok (.iload_n 1, 1) := by decide +kernel
theorem dX3_kindOf_5 : decode cX3_kindOf 5 = .ok (.iconst 2, 1) := by decide +kernel
theorem dX3_kindOf_6 : decode cX3_kindOf 6 = .ok (.imul, 1) := by decide +kernel
theorem dX3_kindOf_7 : decode cX3_kindOf 7 = .ok (.iaload, 1) := by decide +kernel
theorem dX3_kindOf_8 : decode cX3_kindOf 8 = .ok (.ireturn, 1) := by decide +kernel
theorem dX3_aOf_0 : decode cX3_aOf 0 = .ok (.aload_n 0, 1) := by decide +kernel
theorem dX3_aOf_1 : decode cX3_aOf 1 = .ok (.getfield 11, 3) := by decide +kernel
theorem dX3_aOf_4 : decode cX3_aOf 4 = .ok (.iload_n 1, 1) := by decide +kernel
theorem dX3_aOf_5 : decode cX3_aOf 5 = .ok (.iconst 2, 1) := by decide +kernel
theorem dX3_aOf_6 : decode cX3_aOf 6 = .ok (.imul, 1) := by decide +kernel
theorem dX3_aOf_7 : decode cX3_aOf 7 = .ok (.iconst 1, 1) := by decide +kernel
theorem dX3_aOf_8 : decode cX3_aOf 8 = .ok (.iadd, 1) := by decide +kernel
theorem dX3_aOf_9 : decode cX3_aOf 9 = .ok (.iaload, 1) := by decide +kernel
theorem dX3_aOf_10 : decode cX3_aOf 10 = .ok (.ireturn, 1) := by decide +kernel
theorem dX3_bearingOf_0 : decode cX3_bearingOf 0 = .ok (.aload_n 0, 1) := by decide +kernel
theorem dX3_bearingOf_1 : decode cX3_bearingOf 1 = .ok (.getfield 15, 3) := by decide +kernel
theorem dX3_bearingOf_4 : decode cX3_bearingOf 4 = .ok (.iload_n 1, 1) := by decide +kernel
theorem dX3_bearingOf_5 : decode cX3_bearingOf 5 = .ok (.bipush 8, 2) := by decide +kernel
theorem dX3_bearingOf_7 : decode cX3_bearingOf 7 = .ok (.imul, 1) := by decide +kernel
theorem dX3_bearingOf_8 : decode cX3_bearingOf 8 = .ok (.iload_n 2, 1) := by decide +kernel
theorem dX3_bearingOf_9 : decode cX3_bearingOf 9 = .ok (.iadd, 1) := by decide +kernel
theorem dX3_bearingOf_10 : decode cX3_bearingOf 10 = .ok (.iaload, 1) := by decide +kernel
theorem dX3_bearingOf_11 : decode cX3_bearingOf 11 = .ok (.ireturn, 1) := by decide +kernel
theorem dX3_putBearing_0 : decode cX3_putBearing 0 = .ok (.aload_n 0, 1) := by decide +kernel
theorem dX3_putBearing_1 : decode cX3_putBearing 1 = .ok (.getfield 15, 3) := by decide +kernel
theorem dX3_putBearing_4 : decode cX3_putBearing 4 = .ok (.iload_n 1, 1) := by decide +kernel
theorem dX3_putBearing_5 : decode cX3_putBearing 5 = .ok (.bipush 8, 2) := by decide +kernel
theorem dX3_putBearing_7 : decode cX3_putBearing 7 = .ok (.imul, 1) := by decide +kernel
theorem dX3_putBearing_8 : decode cX3_putBearing 8 = .ok (.iload_n 2, 1) := by decide +kernel
theorem dX3_putBearing_9 : decode cX3_putBearing 9 = .ok (.iadd, 1) := by decide +kernel
theorem dX3_putBearing_10 : decode cX3_putBearing 10 = .ok (.iload_n 3, 1) := by decide +kernel
theorem dX3_putBearing_11 : decode cX3_putBearing 11 = .ok (.iastore, 1) := by decide +kernel
theorem dX3_putBearing_12 : decode cX3_putBearing 12 = .ok (.return_, 1) := by decide +kernel
theorem dX3_countOf_0 : decode cX3_countOf 0 = .ok (.aload_n 0, 1) := by decide +kernel
theorem dX3_countOf_1 : decode cX3_countOf 1 = .ok (.getfield 18, 3) := by decide +kernel
theorem dX3_countOf_4 : decode cX3_countOf 4 = .ok (.iload_n 1, 1) := by decide +kernel
theorem dX3_countOf_5 : decode cX3_countOf 5 = .ok (.iconst 5, 1) := by decide +kernel
theorem dX3_countOf_6 : decode cX3_countOf 6 = .ok (.imul, 1) := by decide +kernel
theorem dX3_countOf_7 : decode cX3_countOf 7 = .ok (.iaload, 1) := by decide +kernel
theorem dX3_countOf_8 : decode cX3_countOf 8 = .ok (.ireturn, 1) := by decide +kernel
theorem dX3_viewOf_0 : decode cX3_viewOf 0 = .ok (.aload_n 0, 1) := by decide +kernel
theorem dX3_viewOf_1 : decode cX3_viewOf 1 = .ok (.getfield 18, 3) := by decide +kernel
theorem dX3_viewOf_4 : decode cX3_viewOf 4 = .ok (.iload_n 1, 1) := by decide +kernel
theorem dX3_viewOf_5 : decode cX3_viewOf 5 = .ok (.iconst 5, 1) := by decide +kernel
theorem dX3_viewOf_6 : decode cX3_viewOf 6 = .ok (.imul, 1) := by decide +kernel
theorem dX3_viewOf_7 : decode cX3_viewOf 7 = .ok (.iconst 1, 1) := by decide +kernel
theorem dX3_viewOf_8 : decode cX3_viewOf 8 = .ok (.iadd, 1) := by decide +kernel
theorem dX3_viewOf_9 : decode cX3_viewOf 9 = .ok (.iaload, 1) := by decide +kernel
theorem dX3_viewOf_10 : decode cX3_viewOf 10 = .ok (.ireturn, 1) := by decide +kernel
theorem dX3_putView_0 : decode cX3_putView 0 = .ok (.aload_n 0, 1) := by decide +kernel
theorem dX3_putView_1 : decode cX3_putView 1 = .ok (.getfield 18, 3) := by decide +kernel
theorem dX3_putView_4 : decode cX3_putView 4 = .ok (.iload_n 1, 1) := by decide +kernel
theorem dX3_putView_5 : decode cX3_putView 5 = .ok (.iconst 5, 1) := by decide +kernel
theorem dX3_putView_6 : decode cX3_putView 6 = .ok (.imul, 1) := by decide +kernel
theorem dX3_putView_7 : decode cX3_putView 7 = .ok (.iconst 1, 1) := by decide +kernel
theorem dX3_putView_8 : decode cX3_putView 8 = .ok (.iadd, 1) := by decide +kernel
theorem dX3_putView_9 : decode cX3_putView 9 = .ok (.iload_n 2, 1) := by decide +kernel
theorem dX3_putView_10 : decode cX3_putView 10 = .ok (.iastore, 1) := by decide +kernel
theorem dX3_putView_11 : decode cX3_putView 11 = .ok (.return_, 1) := by decide +kernel
theorem dX3_gladOf_0 : decode cX3_gladOf 0 = .ok (.aload_n 0, 1) := by decide +kernel
theorem dX3_gladOf_1 : decode cX3_gladOf 1 = .ok (.getfield 18, 3) := by decide +kernel
theorem dX3_gladOf_4 : decode cX3_gladOf 4 = .ok (.iload_n 1, 1) := by decide +kernel
theorem dX3_gladOf_5 : decode cX3_gladOf 5 = .ok (.iconst 5, 1) := by decide +kernel
theorem dX3_gladOf_6 : decode cX3_gladOf 6 = .ok (.imul, 1) := by decide +kernel
theorem dX3_gladOf_7 : decode cX3_gladOf 7 = .ok (.iconst 2, 1) := by decide +kernel
theorem dX3_gladOf_8 : decode cX3_gladOf 8 = .ok (.iadd, 1) := by decide +kernel
theorem dX3_gladOf_9 : decode cX3_gladOf 9 = .ok (.iaload, 1) := by decide +kernel
theorem dX3_gladOf_10 : decode cX3_gladOf 10 = .ok (.ireturn, 1) := by decide +kernel
theorem dX3_homeOf_0 : decode cX3_homeOf 0 = .ok (.aload_n 0, 1) := by decide +kernel
theorem dX3_homeOf_1 : decode cX3_homeOf 1 = .ok (.getfield 18, 3) := by decide +kernel
theorem dX3_homeOf_4 : decode cX3_homeOf 4 = .ok (.iload_n 1, 1) := by decide +kernel
theorem dX3_homeOf_5 : decode cX3_homeOf 5 = .ok (.iconst 5, 1) := by decide +kernel
theorem dX3_homeOf_6 : decode cX3_homeOf 6 = .ok (.imul, 1) := by decide +kernel
theorem dX3_homeOf_7 : decode cX3_homeOf 7 = .ok (.iconst 3, 1) := by decide +kernel
theorem dX3_homeOf_8 : decode cX3_homeOf 8 = .ok (.iadd, 1) := by decide +kernel
theorem dX3_homeOf_9 : decode cX3_homeOf 9 = .ok (.iaload, 1) := by decide +kernel
theorem dX3_homeOf_10 : decode cX3_homeOf 10 = .ok (.ireturn, 1) := by decide +kernel
theorem dX3_willOf_0 : decode cX3_willOf 0 = .ok (.aload_n 0, 1) := by decide +kernel
theorem dX3_willOf_1 : decode cX3_willOf 1 = .ok (.getfield 18, 3) := by decide +kernel
theorem dX3_willOf_4 : decode cX3_willOf 4 = .ok (.iload_n 1, 1) := by decide +kernel
theorem dX3_willOf_5 : decode cX3_willOf 5 = .ok (.iconst 5, 1) := by decide +kernel
theorem dX3_willOf_6 : decode cX3_willOf 6 = .ok (.imul, 1) := by decide +kernel
theorem dX3_willOf_7 : decode cX3_willOf 7 = .ok (.iconst 4, 1) := by decide +kernel
theorem dX3_willOf_8 : decode cX3_willOf 8 = .ok (.iadd, 1) := by decide +kernel
theorem dX3_willOf_9 : decode cX3_willOf 9 = .ok (.iaload, 1) := by decide +kernel
theorem dX3_willOf_10 : decode cX3_willOf 10 = .ok (.ireturn, 1) := by decide +kernel
theorem dX3_yesAs_0 : decode cX3_yesAs 0 = .ok (.aload_n 0, 1) := by decide +kernel
theorem dX3_yesAs_1 : decode cX3_yesAs 1 = .ok (.iload_n 1, 1) := by decide +kernel
theorem dX3_yesAs_2 : decode cX3_yesAs 2 = .ok (.invokevirtual 67, 3) := by decide +kernel
theorem dX3_yesAs_5 : decode cX3_yesAs 5 = .ok (.aload_n 0, 1) := by decide +kernel
theorem dX3_yesAs_6 : decode cX3_yesAs 6 = .ok (.iload_n 1, 1) := by decide +kernel
theorem dX3_yesAs_7 : decode cX3_yesAs 7 = .ok (.invokevirtual 70, 3) := by decide +kernel
theorem dX3_yesAs_10 : decode cX3_yesAs 10 = .ok (.iload_n 2, 1) := by decide +kernel
theorem dX3_yesAs_11 : decode cX3_yesAs 11 = .ok (.iload_n 3, 1) := by decide +kernel
theorem dX3_yesAs_12 : decode cX3_yesAs 12 = .ok (.iload 4, 2) := by decide +kernel
theorem dX3_yesAs_14 : decode cX3_yesAs 14 = .ok (.invokestatic 73, 3) := by decide +kernel
theorem dX3_yesAs_17 : decode cX3_yesAs 17 = .ok (.ireturn, 1) := by decide +kernel
theorem dX3_yesOf_0 : decode cX3_yesOf 0 = .ok (.aload_n 0, 1) := by decide +kernel
theorem dX3_yesOf_1 : decode cX3_yesOf 1 = .ok (.iload_n 1, 1) := by decide +kernel
theorem dX3_yesOf_2 : decode cX3_yesOf 2 = .ok (.invokevirtual 67, 3) := by decide +kernel
theorem dX3_yesOf_5 : decode cX3_yesOf 5 = .ok (.aload_n 0, 1) := by decide +kernel
theorem dX3_yesOf_6 : decode cX3_yesOf 6 = .ok (.iload_n 1, 1) := by decide +kernel
theorem dX3_yesOf_7 : decode cX3_yesOf 7 = .ok (.invokevirtual 70, 3) := by decide +kernel
theorem dX3_yesOf_10 : decode cX3_yesOf 10 = .ok (.aload_n 0, 1) := by decide +kernel
theorem dX3_yesOf_11 : decode cX3_yesOf 11 = .ok (.iload_n 2, 1) := by decide +kernel
theorem dX3_yesOf_12 : decode cX3_yesOf 12 = .ok (.invokevirtual 76, 3) := by decide +kernel
theorem dX3_yesOf_15 : decode cX3_yesOf 15 = .ok (.aload_n 0, 1) := by decide +kernel
theorem dX3_yesOf_16 : decode cX3_yesOf 16 = .ok (.iload_n 2, 1) := by decide +kernel
theorem dX3_yesOf_17 : decode cX3_yesOf 17 = .ok (.invokevirtual 53, 3) := by decide +kernel
theorem dX3_yesOf_20 : decode cX3_yesOf 20 = .ok (.iload_n 3, 1) := by decide +kernel
theorem dX3_yesOf_21 : decode cX3_yesOf 21 = .ok (.invokestatic 73, 3) := by decide +kernel
theorem dX3_yesOf_24 : decode cX3_yesOf 24 = .ok (.ireturn, 1) := by decide +kernel
theorem dX3_peopleOf_0 : decode cX3_peopleOf 0 = .ok (.iconst 0, 1) := by decide +kernel
theorem dX3_peopleOf_1 : decode cX3_peopleOf 1 = .ok (.istore_n 2, 1) := by decide +kernel
theorem dX3_peopleOf_2 : decode cX3_peopleOf 2 = .ok (.iconst 0, 1) := by decide +kernel
theorem dX3_peopleOf_3 : decode cX3_peopleOf 3 = .ok (.istore_n 3, 1) := by decide +kernel
theorem dX3_peopleOf_4 : decode cX3_peopleOf 4 = .ok (.iload_n 3, 1) := by decide +kernel
theorem dX3_peopleOf_5 : decode cX3_peopleOf 5 = .ok (.aload_n 0, 1) := by decide +kernel
theorem dX3_peopleOf_6 : decode cX3_peopleOf 6 = .ok (.getfield 37, 3) := by decide +kernel
theorem dX3_peopleOf_9 : decode cX3_peopleOf 9 = .ok (.if_icmp .ge 25, 3) := by decide +kernel
theorem dX3_peopleOf_12 : decode cX3_peopleOf 12 = .ok (.iload_n 1, 1) := by decide +kernel
theorem dX3_peopleOf_13 : decode cX3_peopleOf 13 = .ok (.iload_n 3, 1) := by decide +kernel
theorem dX3_peopleOf_14 : decode cX3_peopleOf 14 = .ok (.invokestatic 79, 3) := by decide +kernel
theorem dX3_peopleOf_17 : decode cX3_peopleOf 17 = .ok (.ifCond .eq 11, 3) := by decide +kernel
theorem dX3_peopleOf_20 : decode cX3_peopleOf 20 = .ok (.iload_n 2, 1) := by decide +kernel
theorem dX3_peopleOf_21 : decode cX3_peopleOf 21 = .ok (.aload_n 0, 1) := by decide +kernel
theorem dX3_peopleOf_22 : decode cX3_peopleOf 22 = .ok (.iload_n 3, 1) := by decide +kernel
theorem dX3_peopleOf_23 : decode cX3_peopleOf 23 = .ok (.invokevirtual 83, 3) := by decide +kernel
theorem dX3_peopleOf_26 : decode cX3_peopleOf 26 = .ok (.iadd, 1) := by decide +kernel
theorem dX3_peopleOf_27 : decode cX3_peopleOf 27 = .ok (.istore_n 2, 1) := by decide +kernel
theorem dX3_peopleOf_28 : decode cX3_peopleOf 28 = .ok (.iinc 3 1, 3) := by decide +kernel
theorem dX3_peopleOf_31 : decode cX3_peopleOf 31 = .ok (.goto (-27), 3) := by decide +kernel
theorem dX3_peopleOf_34 : decode cX3_peopleOf 34 = .ok (.iload_n 2, 1) := by decide +kernel
theorem dX3_peopleOf_35 : decode cX3_peopleOf 35 = .ok (.ireturn, 1) := by decide +kernel
theorem dX3_allOf_0 : decode cX3_allOf 0 = .ok (.iconst 0, 1) := by decide +kernel
theorem dX3_allOf_1 : decode cX3_allOf 1 = .ok (.istore_n 3, 1) := by decide +kernel
theorem dX3_allOf_2 : decode cX3_allOf 2 = .ok (.iconst 0, 1) := by decide +kernel
theorem dX3_allOf_3 : decode cX3_allOf 3 = .ok (.istore 4, 2) := by decide +kernel
theorem dX3_allOf_5 : decode cX3_allOf 5 = .ok (.iload 4, 2) := by decide +kernel
theorem dX3_allOf_7 : decode cX3_allOf 7 = .ok (.aload_n 0, 1) := by decide +kernel
theorem dX3_allOf_8 : decode cX3_allOf 8 = .ok (.getfield 37, 3) := by decide +kernel
theorem dX3_allOf_11 : decode cX3_allOf 11 = .ok (.if_icmp .ge 34, 3) := by decide +kernel
theorem dX3_allOf_14 : decode cX3_allOf 14 = .ok (.iload_n 2, 1) := by decide +kernel
theorem dX3_allOf_15 : decode cX3_allOf 15 = .ok (.iload 4, 2) := by decide +kernel
theorem dX3_allOf_17 : decode cX3_allOf 17 = .ok (.invokestatic 79, 3) := by decide +kernel
theorem dX3_allOf_20 : decode cX3_allOf 20 = .ok (.ifCond .eq 19, 3) := by decide +kernel
theorem dX3_allOf_23 : decode cX3_allOf 23 = .ok (.iload_n 3, 1) := by decide +kernel
theorem dX3_allOf_24 : decode cX3_allOf 24 = .ok (.aload_n 0, 1) := by decide +kernel
theorem dX3_allOf_25 : decode cX3_allOf 25 = .ok (.iload_n 1, 1) := by decide +kernel
theorem dX3_allOf_26 : decode cX3_allOf 26 = .ok (.iload 4, 2) := by decide +kernel
theorem dX3_allOf_28 : decode cX3_allOf 28 = .ok (.aload_n 0, 1) := by decide +kernel
theorem dX3_allOf_29 : decode cX3_allOf 29 = .ok (.iload 4, 2) := by decide +kernel
theorem dX3_allOf_31 : decode cX3_allOf 31 = .ok (.invokevirtual 83, 3) := by decide +kernel
theorem dX3_allOf_34 : decode cX3_allOf 34 = .ok (.invokevirtual 86, 3) := by decide +kernel
theorem dX3_allOf_37 : decode cX3_allOf 37 = .ok (.iadd, 1) := by decide +kernel
theorem dX3_allOf_38 : decode cX3_allOf 38 = .ok (.istore_n 3, 1) := by decide +kernel
theorem dX3_allOf_39 : decode cX3_allOf 39 = .ok (.iinc 4 1, 3) := by decide +kernel
theorem dX3_allOf_42 : decode cX3_allOf 42 = .ok (.goto (-37), 3) := by decide +kernel
theorem dX3_allOf_45 : decode cX3_allOf 45 = .ok (.iload_n 3, 1) := by decide +kernel
theorem dX3_allOf_46 : decode cX3_allOf 46 = .ok (.ireturn, 1) := by decide +kernel
theorem dX3_shareOf_0 : decode cX3_shareOf 0 = .ok (.aload_n 0, 1) := by decide +kernel
theorem dX3_shareOf_1 : decode cX3_shareOf 1 = .ok (.iload_n 1, 1) := by decide +kernel
theorem dX3_shareOf_2 : decode cX3_shareOf 2 = .ok (.iload_n 2, 1) := by decide +kernel
theorem dX3_shareOf_3 : decode cX3_shareOf 3 = .ok (.invokevirtual 90, 3) := by decide +kernel
theorem dX3_shareOf_6 : decode cX3_shareOf 6 = .ok (.aload_n 0, 1) := by decide +kernel
theorem dX3_shareOf_7 : decode cX3_shareOf 7 = .ok (.iload_n 2, 1) := by decide +kernel
theorem dX3_shareOf_8 : decode cX3_shareOf 8 = .ok (.invokevirtual 94, 3) := by decide +kernel
theorem dX3_shareOf_11 : decode cX3_shareOf 11 = .ok (.invokestatic 97, 3) := by decide +kernel
theorem dX3_shareOf_14 : decode cX3_shareOf 14 = .ok (.ireturn, 1) := by decide +kernel
theorem dX3_shareBehind_0 : decode cX3_shareBehind 0 = .ok (.iconst 0, 1) := by decide +kernel
theorem dX3_shareBehind_1 : decode cX3_shareBehind 1 = .ok (.istore 4, 2) := by decide +kernel
theorem dX3_shareBehind_3 : decode cX3_shareBehind 3 = .ok (.iconst 0, 1) := by decide +kernel
theorem dX3_shareBehind_4 : decode cX3_shareBehind 4 = .ok (.istore 5, 2) := by decide +kernel
theorem dX3_shareBehind_6 : decode cX3_shareBehind 6 = .ok (.iload 5, 2) := by decide +kernel
theorem dX3_shareBehind_8 : decode cX3_shareBehind 8 = .ok (.aload_n 0, 1) := by decide +kernel
theorem dX3_shareBehind_9 : decode cX3_shareBehind 9 = .ok (.getfield 34, 3) := by decide +kernel
theorem dX3_shareBehind_12 : decode cX3_shareBehind 12 = .ok (.if_icmp .ge 30, 3) := by decide +kernel
theorem dX3_shareBehind_15 : decode cX3_shareBehind 15 = .ok (.iload_n 3, 1) := by decide +kernel
theorem dX3_shareBehind_16 : decode cX3_shareBehind 16 = .ok (.iload 5, 2) := by decide +kernel
theorem dX3_shareBehind_18 : decode cX3_shareBehind 18 = .ok (.invokestatic 79, 3) := by decide +kernel
theorem dX3_shareBehind_21 : decode cX3_shareBehind 21 = .ok (.ifCond .eq 15, 3) := by decide +kernel
theorem dX3_shareBehind_24 : decode cX3_shareBehind 24 = .ok (.iload 4, 2) := by decide +kernel
theorem dX3_shareBehind_26 : decode cX3_shareBehind 26 = .ok (.aload_n 0, 1) := by decide +kernel
theorem dX3_shareBehind_27 : decode cX3_shareBehind 27 = .ok (.iload 5, 2) := by decide +kernel
theorem dX3_shareBehind_29 : decode cX3_shareBehind 29 = .ok (.iload_n 1, 1) := by decide +kernel
theorem dX3_shareBehind_30 : decode cX3_shareBehind 30 = .ok (.invokevirtual 100, 3) := by decide +kernel
theorem dX3_shareBehind_33 : decode cX3_shareBehind 33 = .ok (.iadd, 1) := by decide +kernel
theorem dX3_shareBehind_34 : decode cX3_shareBehind 34 = .ok (.istore 4, 2) := by decide +kernel
theorem dX3_shareBehind_36 : decode cX3_shareBehind 36 = .ok (.iinc 5 1, 3) := by decide +kernel
theorem dX3_shareBehind_39 : decode cX3_shareBehind 39 = .ok (.goto (-33), 3) := by decide +kernel
theorem dX3_shareBehind_42 : decode cX3_shareBehind 42 = .ok (.iconst 0, 1) := by decide +kernel
theorem dX3_shareBehind_43 : decode cX3_shareBehind 43 = .ok (.sipush 1000, 3) := by decide +kernel
theorem dX3_shareBehind_46 : decode cX3_shareBehind 46 = .ok (.iload_n 2, 1) := by decide +kernel
theorem dX3_shareBehind_47 : decode cX3_shareBehind 47 = .ok (.bipush 10, 2) := by decide +kernel
theorem dX3_shareBehind_49 : decode cX3_shareBehind 49 = .ok (.iload 4, 2) := by decide +kernel
theorem dX3_shareBehind_51 : decode cX3_shareBehind 51 = .ok (.imul, 1) := by decide +kernel
theorem dX3_shareBehind_52 : decode cX3_shareBehind 52 = .ok (.iadd, 1) := by decide +kernel
theorem dX3_shareBehind_53 : decode cX3_shareBehind 53 = .ok (.invokestatic 103, 3) := by decide +kernel
theorem dX3_shareBehind_56 : decode cX3_shareBehind 56 = .ok (.invokestatic 108, 3) := by decide +kernel
theorem dX3_shareBehind_59 : decode cX3_shareBehind 59 = .ok (.ireturn, 1) := by decide +kernel
theorem dX3_holding_0 : decode cX3_holding 0 = .ok (.iconst 0, 1) := by decide +kernel
theorem dX3_holding_1 : decode cX3_holding 1 = .ok (.istore_n 1, 1) := by decide +kernel
theorem dX3_holding_2 : decode cX3_holding 2 = .ok (.iconst 0, 1) := by decide +kernel
theorem dX3_holding_3 : decode cX3_holding 3 = .ok (.istore_n 2, 1) := by decide +kernel
theorem dX3_holding_4 : decode cX3_holding 4 = .ok (.iload_n 2, 1) := by decide +kernel
theorem dX3_holding_5 : decode cX3_holding 5 = .ok (.aload_n 0, 1) := by decide +kernel
theorem dX3_holding_6 : decode cX3_holding 6 = .ok (.getfield 37, 3) := by decide +kernel
theorem dX3_holding_9 : decode cX3_holding 9 = .ok (.if_icmp .ge 25, 3) := by decide +kernel
theorem dX3_holding_12 : decode cX3_holding 12 = .ok (.aload_n 0, 1) := by decide +kernel
theorem dX3_holding_13 : decode cX3_holding 13 = .ok (.iload_n 2, 1) := by decide +kernel
theorem dX3_holding_14 : decode cX3_holding 14 = .ok (.invokevirtual 76, 3) := by decide +kernel
theorem dX3_holding_17 : decode cX3_holding 17 = .ok (.ifCond .ne 11, 3) := by decide +kernel
theorem dX3_holding_20 : decode cX3_holding 20 = .ok (.iload_n 1, 1) := by decide +kernel
theorem dX3_holding_21 : decode cX3_holding 21 = .ok (.aload_n 0, 1) := by decide +kernel
theorem dX3_holding_22 : decode cX3_holding 22 = .ok (.iload_n 2, 1) := by decide +kernel
theorem dX3_holding_23 : decode cX3_holding 23 = .ok (.invokevirtual 83, 3) := by decide +kernel
theorem dX3_holding_26 : decode cX3_holding 26 = .ok (.iadd, 1) := by decide +kernel
theorem dX3_holding_27 : decode cX3_holding 27 = .ok (.istore_n 1, 1) := by decide +kernel
theorem dX3_holding_28 : decode cX3_holding 28 = .ok (.iinc 2 1, 3) := by decide +kernel
theorem dX3_holding_31 : decode cX3_holding 31 = .ok (.goto (-27), 3) := by decide +kernel
theorem dX3_holding_34 : decode cX3_holding 34 = .ok (.iload_n 1, 1) := by decide +kernel
theorem dX3_holding_35 : decode cX3_holding 35 = .ok (.aload_n 0, 1) := by decide +kernel
theorem dX3_holding_36 : decode cX3_holding 36 = .ok (.sipush 1023, 3) := by decide +kernel
theorem dX3_holding_39 : decode cX3_holding 39 = .ok (.invokevirtual 94, 3) := by decide +kernel
theorem dX3_holding_42 : decode cX3_holding 42 = .ok (.invokestatic 97, 3) := by decide +kernel
theorem dX3_holding_45 : decode cX3_holding 45 = .ok (.ireturn, 1) := by decide +kernel
theorem dX3_wrongOf_0 : decode cX3_wrongOf 0 = .ok (.aload_n 0, 1) := by decide +kernel
theorem dX3_wrongOf_1 : decode cX3_wrongOf 1 = .ok (.iload_n 1, 1) := by decide +kernel
theorem dX3_wrongOf_2 : decode cX3_wrongOf 2 = .ok (.sipush 1023, 3) := by decide +kernel
theorem dX3_wrongOf_5 : decode cX3_wrongOf 5 = .ok (.invokevirtual 111, 3) := by decide +kernel
theorem dX3_wrongOf_8 : decode cX3_wrongOf 8 = .ok (.istore_n 2, 1) := by decide +kernel
theorem dX3_wrongOf_9 : decode cX3_wrongOf 9 = .ok (.aload_n 0, 1) := by decide +kernel
theorem dX3_wrongOf_10 : decode cX3_wrongOf 10 = .ok (.iload_n 1, 1) := by decide +kernel
theorem dX3_wrongOf_11 : decode cX3_wrongOf 11 = .ok (.invokevirtual 67, 3) := by decide +kernel
theorem dX3_wrongOf_14 : decode cX3_wrongOf 14 = .ok (.iconst 2, 1) := by decide +kernel
theorem dX3_wrongOf_15 : decode cX3_wrongOf 15 = .ok (.invokestatic 114, 3) := by decide +kernel
theorem dX3_wrongOf_18 : decode cX3_wrongOf 18 = .ok (.ifCond .eq 11, 3) := by decide +kernel
theorem dX3_wrongOf_21 : decode cX3_wrongOf 21 = .ok (.sipush 1000, 3) := by decide +kernel
theorem dX3_wrongOf_24 : decode cX3_wrongOf 24 = .ok (.iload_n 2, 1) := by decide +kernel
theorem dX3_wrongOf_25 : decode cX3_wrongOf 25 = .ok (.isub, 1) := by decide +kernel
theorem dX3_wrongOf_26 : decode cX3_wrongOf 26 = .ok (.goto 4, 3) := by decide +kernel
theorem dX3_wrongOf_29 : decode cX3_wrongOf 29 = .ok (.iload_n 2, 1) := by decide +kernel
theorem dX3_wrongOf_30 : decode cX3_wrongOf 30 = .ok (.istore_n 3, 1) := by decide +kernel
theorem dX3_wrongOf_31 : decode cX3_wrongOf 31 = .ok (.iload_n 3, 1) := by decide +kernel
theorem dX3_wrongOf_32 : decode cX3_wrongOf 32 = .ok (.aload_n 0, 1) := by decide +kernel
theorem dX3_wrongOf_33 : decode cX3_wrongOf 33 = .ok (.invokevirtual 117, 3) := by decide +kernel
theorem dX3_wrongOf_36 : decode cX3_wrongOf 36 = .ok (.isub, 1) := by decide +kernel
theorem dX3_wrongOf_37 : decode cX3_wrongOf 37 = .ok (.ireturn, 1) := by decide +kernel
theorem dX3_leastMoved_0 : decode cX3_leastMoved 0 = .ok (.aload_n 0, 1) := by decide +kernel
theorem dX3_leastMoved_1 : decode cX3_leastMoved 1 = .ok (.sipush 1023, 3) := by decide +kernel
theorem dX3_leastMoved_4 : decode cX3_leastMoved 4 = .ok (.invokevirtual 94, 3) := by decide +kernel
theorem dX3_leastMoved_7 : decode cX3_leastMoved 7 = .ok (.istore_n 3, 1) := by decide +kernel
theorem dX3_leastMoved_8 : decode cX3_leastMoved 8 = .ok (.aload_n 0, 1) := by decide +kernel
theorem dX3_leastMoved_9 : decode cX3_leastMoved 9 = .ok (.iload_n 1, 1) := by decide +kernel
theorem dX3_leastMoved_10 : decode cX3_leastMoved 10 = .ok (.sipush 1023, 3) := by decide +kernel
theorem dX3_leastMoved_13 : decode cX3_leastMoved 13 = .ok (.invokevirtual 90, 3) := by decide +kernel
theorem dX3_leastMoved_16 : decode cX3_leastMoved 16 = .ok (.istore 4, 2) := by decide +kernel
theorem dX3_leastMoved_18 : decode cX3_leastMoved 18 = .ok (.iload 4, 2) := by decide +kernel
theorem dX3_leastMoved_20 : decode cX3_leastMoved 20 = .ok (.iload_n 3, 1) := by decide +kernel
theorem dX3_leastMoved_21 : decode cX3_leastMoved 21 = .ok (.invokestatic 97, 3) := by decide +kernel
theorem dX3_leastMoved_24 : decode cX3_leastMoved 24 = .ok (.iload_n 2, 1) := by decide +kernel
theorem dX3_leastMoved_25 : decode cX3_leastMoved 25 = .ok (.if_icmp .lt 5, 3) := by decide +kernel
theorem dX3_leastMoved_28 : decode cX3_leastMoved 28 = .ok (.iconst 0, 1) := by decide +kernel
theorem dX3_leastMoved_29 : decode cX3_leastMoved 29 = .ok (.ireturn, 1) := by decide +kernel
theorem dX3_leastMoved_30 : decode cX3_leastMoved 30 = .ok (.iconst 0, 1) := by decide +kernel
theorem dX3_leastMoved_31 : decode cX3_leastMoved 31 = .ok (.istore 5, 2) := by decide +kernel
theorem dX3_leastMoved_33 : decode cX3_leastMoved 33 = .ok (.iconst 0, 1) := by decide +kernel
theorem dX3_leastMoved_34 : decode cX3_leastMoved 34 = .ok (.istore 6, 2) := by decide +kernel
theorem dX3_leastMoved_36 : decode cX3_leastMoved 36 = .ok (.iload 6, 2) := by decide +kernel
theorem dX3_leastMoved_38 : decode cX3_leastMoved 38 = .ok (.aload_n 0, 1) := by decide +kernel
theorem dX3_leastMoved_39 : decode cX3_leastMoved 39 = .ok (.getfield 37, 3) := by decide +kernel
theorem dX3_leastMoved_42 : decode cX3_leastMoved 42 = .ok (.if_icmp .ge 115, 3) := by decide +kernel
theorem dX3_leastMoved_45 : decode cX3_leastMoved 45 = .ok (.aload_n 0, 1) := by decide +kernel
theorem dX3_leastMoved_46 : decode cX3_leastMoved 46 = .ok (.iload 6, 2) := by decide +kernel
theorem dX3_leastMoved_48 : decode cX3_leastMoved 48 = .ok (.invokevirtual 76, 3) := by decide +kernel
theorem dX3_leastMoved_51 : decode cX3_leastMoved 51 = .ok (.iconst 2, 1) := by decide +kernel
theorem dX3_leastMoved_52 : decode cX3_leastMoved 52 = .ok (.if_icmp .eq 6, 3) := by decide +kernel
theorem dX3_leastMoved_55 : decode cX3_leastMoved 55 = .ok (.goto 96, 3) := by decide +kernel
theorem dX3_leastMoved_58 : decode cX3_leastMoved 58 = .ok (.aload_n 0, 1) := by decide +kernel
theorem dX3_leastMoved_59 : decode cX3_leastMoved 59 = .ok (.iload 6, 2) := by decide +kernel
theorem dX3_leastMoved_61 : decode cX3_leastMoved 61 = .ok (.invokevirtual 83, 3) := by decide +kernel
theorem dX3_leastMoved_64 : decode cX3_leastMoved 64 = .ok (.istore 7, 2) := by decide +kernel
theorem dX3_leastMoved_66 : decode cX3_leastMoved 66 = .ok (.iload 4, 2) := by decide +kernel
theorem dX3_leastMoved_68 : decode cX3_leastMoved 68 = .ok (.aload_n 0, 1) := by decide +kernel
theorem dX3_leastMoved_69 : decode cX3_leastMoved 69 = .ok (.iload_n 1, 1) := by decide +kernel
theorem dX3_leastMoved_70 : decode cX3_leastMoved 70 = .ok (.iload 6, 2) := by decide +kernel
theorem dX3_leastMoved_72 : decode cX3_leastMoved 72 = .ok (.iload 7, 2) := by decide +kernel
theorem dX3_leastMoved_74 : decode cX3_leastMoved 74 = .ok (.invokevirtual 86, 3) := by decide +kernel
theorem dX3_leastMoved_77 : decode cX3_leastMoved 77 = .ok (.isub, 1) := by decide +kernel
theorem dX3_leastMoved_78 : decode cX3_leastMoved 78 = .ok (.istore 8, 2) := by decide +kernel
theorem dX3_leastMoved_80 : decode cX3_leastMoved 80 = .ok (.iconst 1, 1) := by decide +kernel
theorem dX3_leastMoved_81 : decode cX3_leastMoved 81 = .ok (.istore 9, 2) := by decide +kernel
theorem dX3_leastMoved_83 : decode cX3_leastMoved 83 = .ok (.iload 9, 2) := by decide +kernel
theorem dX3_leastMoved_85 : decode cX3_leastMoved 85 = .ok (.iload 7, 2) := by decide +kernel
theorem dX3_leastMoved_87 : decode cX3_leastMoved 87 = .ok (.if_icmp .gt 57, 3) := by decide +kernel
theorem dX3_leastMoved_90 : decode cX3_leastMoved 90 = .ok (.iload 8, 2) := by decide +kernel
theorem dX3_leastMoved_92 : decode cX3_leastMoved 92 = .ok (.aload_n 0, 1) := by decide +kernel
theorem dX3_leastMoved_93 : decode cX3_leastMoved 93 = .ok (.iload_n 1, 1) := by decide +kernel
theorem dX3_leastMoved_94 : decode cX3_leastMoved 94 = .ok (.iconst 0, 1) := by decide +kernel
theorem dX3_leastMoved_95 : decode cX3_leastMoved 95 = .ok (.aload_n 0, 1) := by decide +kernel
theorem dX3_leastMoved_96 : decode cX3_leastMoved 96 = .ok (.iload 6, 2) := by decide +kernel
theorem dX3_leastMoved_98 : decode cX3_leastMoved 98 = .ok (.invokevirtual 53, 3) := by decide +kernel
theorem dX3_leastMoved_101 : decode cX3_leastMoved 101 = .ok (.iload 9, 2) := by decide +kernel
theorem dX3_leastMoved_103 : decode cX3_leastMoved 103 = .ok (.invokevirtual 121, 3) := by decide +kernel
theorem dX3_leastMoved_106 : decode cX3_leastMoved 106 = .ok (.iadd, 1) := by decide +kernel
theorem dX3_leastMoved_107 : decode cX3_leastMoved 107 = .ok (.aload_n 0, 1) := by decide +kernel
theorem dX3_leastMoved_108 : decode cX3_leastMoved 108 = .ok (.iload_n 1, 1) := by decide +kernel
theorem dX3_leastMoved_109 : decode cX3_leastMoved 109 = .ok (.iload 6, 2) := by decide +kernel
theorem dX3_leastMoved_111 : decode cX3_leastMoved 111 = .ok (.iload 7, 2) := by decide +kernel
theorem dX3_leastMoved_113 : decode cX3_leastMoved 113 = .ok (.iload 9, 2) := by decide +kernel
theorem dX3_leastMoved_115 : decode cX3_leastMoved 115 = .ok (.isub, 1) := by decide +kernel
theorem dX3_leastMoved_116 : decode cX3_leastMoved 116 = .ok (.invokevirtual 86, 3) := by decide +kernel
theorem dX3_leastMoved_119 : decode cX3_leastMoved 119 = .ok (.iadd, 1) := by decide +kernel
theorem dX3_leastMoved_120 : decode cX3_leastMoved 120 = .ok (.istore 4, 2) := by decide +kernel
theorem dX3_leastMoved_122 : decode cX3_leastMoved 122 = .ok (.iload 4, 2) := by decide +kernel
theorem dX3_leastMoved_124 : decode cX3_leastMoved 124 = .ok (.iload_n 3, 1) := by decide +kernel
theorem dX3_leastMoved_125 : decode cX3_leastMoved 125 = .ok (.invokestatic 97, 3) := by decide +kernel
theorem dX3_leastMoved_128 : decode cX3_leastMoved 128 = .ok (.iload_n 2, 1) := by decide +kernel
theorem dX3_leastMoved_129 : decode cX3_leastMoved 129 = .ok (.if_icmp .lt 9, 3) := by decide +kernel
theorem dX3_leastMoved_132 : decode cX3_leastMoved 132 = .ok (.iload 5, 2) := by decide +kernel
theorem dX3_leastMoved_134 : decode cX3_leastMoved 134 = .ok (.iload 9, 2) := by decide +kernel
theorem dX3_leastMoved_136 : decode cX3_leastMoved 136 = .ok (.iadd, 1) := by decide +kernel
theorem dX3_leastMoved_137 : decode cX3_leastMoved 137 = .ok (.ireturn, 1) := by decide +kernel
theorem dX3_leastMoved_138 : decode cX3_leastMoved 138 = .ok (.iinc 9 1, 3) := by decide +kernel
theorem dX3_leastMoved_141 : decode cX3_leastMoved 141 = .ok (.goto (-58), 3) := by decide +kernel
theorem dX3_leastMoved_144 : decode cX3_leastMoved 144 = .ok (.iload 5, 2) := by decide +kernel
theorem dX3_leastMoved_146 : decode cX3_leastMoved 146 = .ok (.iload 7, 2) := by decide +kernel
theorem dX3_leastMoved_148 : decode cX3_leastMoved 148 = .ok (.iadd, 1) := by decide +kernel
theorem dX3_leastMoved_149 : decode cX3_leastMoved 149 = .ok (.istore 5, 2) := by decide +kernel
theorem dX3_leastMoved_151 : decode cX3_leastMoved 151 = .ok (.iinc 6 1, 3) := by decide +kernel
theorem dX3_leastMoved_154 : decode cX3_leastMoved 154 = .ok (.goto (-118), 3) := by decide +kernel
theorem dX3_leastMoved_157 : decode cX3_leastMoved 157 = .ok (.iconst (-1), 1) := by decide +kernel
theorem dX3_leastMoved_158 : decode cX3_leastMoved 158 = .ok (.ireturn, 1) := by decide +kernel
theorem dX3_knock_0 : decode cX3_knock 0 = .ok (.aload_n 0, 1) := by decide +kernel
theorem dX3_knock_1 : decode cX3_knock 1 = .ok (.aload_n 0, 1) := by decide +kernel
theorem dX3_knock_2 : decode cX3_knock 2 = .ok (.getfield 37, 3) := by decide +kernel
theorem dX3_knock_5 : decode cX3_knock 5 = .ok (.invokevirtual 125, 3) := by decide +kernel
theorem dX3_knock_8 : decode cX3_knock 8 = .ok (.istore_n 1, 1) := by decide +kernel
theorem dX3_knock_9 : decode cX3_knock 9 = .ok (.aload_n 0, 1) := by decide +kernel
theorem dX3_knock_10 : decode cX3_knock 10 = .ok (.bipush 10, 2) := by decide +kernel
theorem dX3_knock_12 : decode cX3_knock 12 = .ok (.invokevirtual 125, 3) := by decide +kernel
theorem dX3_knock_15 : decode cX3_knock 15 = .ok (.aload_n 0, 1) := by decide +kernel
theorem dX3_knock_16 : decode cX3_knock 16 = .ok (.iload_n 1, 1) := by decide +kernel
theorem dX3_knock_17 : decode cX3_knock 17 = .ok (.invokevirtual 57, 3) := by decide +kernel
theorem dX3_knock_20 : decode cX3_knock 20 = .ok (.if_icmp .ge 17, 3) := by decide +kernel
theorem dX3_knock_23 : decode cX3_knock 23 = .ok (.aload_n 0, 1) := by decide +kernel
theorem dX3_knock_24 : decode cX3_knock 24 = .ok (.bipush 10, 2) := by decide +kernel
theorem dX3_knock_26 : decode cX3_knock 26 = .ok (.invokevirtual 125, 3) := by decide +kernel
theorem dX3_knock_29 : decode cX3_knock 29 = .ok (.aload_n 0, 1) := by decide +kernel
theorem dX3_knock_30 : decode cX3_knock 30 = .ok (.iload_n 1, 1) := by decide +kernel
theorem dX3_knock_31 : decode cX3_knock 31 = .ok (.invokevirtual 60, 3) := by decide +kernel
theorem dX3_knock_34 : decode cX3_knock 34 = .ok (.if_icmp .lt 4, 3) := by decide +kernel
theorem dX3_knock_37 : decode cX3_knock 37 = .ok (.return_, 1) := by decide +kernel
theorem dX3_knock_38 : decode cX3_knock 38 = .ok (.aload_n 0, 1) := by decide +kernel
theorem dX3_knock_39 : decode cX3_knock 39 = .ok (.dup, 1) := by decide +kernel
theorem dX3_knock_40 : decode cX3_knock 40 = .ok (.getfield 43, 3) := by decide +kernel
theorem dX3_knock_43 : decode cX3_knock 43 = .ok (.iconst 1, 1) := by decide +kernel
theorem dX3_knock_44 : decode cX3_knock 44 = .ok (.iadd, 1) := by decide +kernel
theorem dX3_knock_45 : decode cX3_knock 45 = .ok (.putfield 43, 3) := by decide +kernel
theorem dX3_knock_48 : decode cX3_knock 48 = .ok (.aload_n 0, 1) := by decide +kernel
theorem dX3_knock_49 : decode cX3_knock 49 = .ok (.aload_n 0, 1) := by decide +kernel
theorem dX3_knock_50 : decode cX3_knock 50 = .ok (.getfield 34, 3) := by decide +kernel
theorem dX3_knock_53 : decode cX3_knock 53 = .ok (.invokevirtual 125, 3) := by decide +kernel
theorem dX3_knock_56 : decode cX3_knock 56 = .ok (.istore_n 2, 1) := by decide +kernel
theorem dX3_knock_57 : decode cX3_knock 57 = .ok (.aload_n 0, 1) := by decide +kernel
theorem dX3_knock_58 : decode cX3_knock 58 = .ok (.iload_n 1, 1) := by decide +kernel
theorem dX3_knock_59 : decode cX3_knock 59 = .ok (.invokevirtual 83, 3) := by decide +kernel
theorem dX3_knock_62 : decode cX3_knock 62 = .ok (.istore_n 3, 1) := by decide +kernel
theorem dX3_knock_63 : decode cX3_knock 63 = .ok (.aload_n 0, 1) := by decide +kernel
theorem dX3_knock_64 : decode cX3_knock 64 = .ok (.iload_n 3, 1) := by decide +kernel
theorem dX3_knock_65 : decode cX3_knock 65 = .ok (.invokevirtual 125, 3) := by decide +kernel
theorem dX3_knock_68 : decode cX3_knock 68 = .ok (.aload_n 0, 1) := by decide +kernel
theorem dX3_knock_69 : decode cX3_knock 69 = .ok (.iload_n 2, 1) := by decide +kernel
theorem dX3_knock_70 : decode cX3_knock 70 = .ok (.iload_n 1, 1) := by decide +kernel
theorem dX3_knock_71 : decode cX3_knock 71 = .ok (.iload_n 3, 1) := by decide +kernel
theorem dX3_knock_72 : decode cX3_knock 72 = .ok (.invokevirtual 86, 3) := by decide +kernel
theorem dX3_knock_75 : decode cX3_knock 75 = .ok (.if_icmp .ge 13, 3) := by decide +kernel
theorem dX3_knock_78 : decode cX3_knock 78 = .ok (.aload_n 0, 1) := by decide +kernel
theorem dX3_knock_79 : decode cX3_knock 79 = .ok (.dup, 1) := by decide +kernel
theorem dX3_knock_80 : decode cX3_knock 80 = .ok (.getfield 46, 3) := by decide +kernel
theorem dX3_knock_83 : decode cX3_knock 83 = .ok (.iconst 1, 1) := by decide +kernel
theorem dX3_knock_84 : decode cX3_knock 84 = .ok (.iadd, 1) := by decide +kernel
theorem dX3_knock_85 : decode cX3_knock 85 = .ok (.putfield 46, 3) := by decide +kernel
theorem dX3_knock_88 : decode cX3_knock 88 = .ok (.return_, 1) := by decide +kernel
theorem dX3_draw_0 : decode cX3_draw 0 = .ok (.aload_n 0, 1) := by decide +kernel
theorem dX3_draw_1 : decode cX3_draw 1 = .ok (.aload_n 0, 1) := by decide +kernel
theorem dX3_draw_2 : decode cX3_draw 2 = .ok (.getfield 25, 3) := by decide +kernel
theorem dX3_draw_5 : decode cX3_draw 5 = .ok (.ldc 128, 2) := by decide +kernel
theorem dX3_draw_7 : decode cX3_draw 7 = .ok (.imul, 1) := by decide +kernel
theorem dX3_draw_8 : decode cX3_draw 8 = .ok (.sipush 12345, 3) := by decide +kernel
theorem dX3_draw_11 : decode cX3_draw 11 = .ok (.iadd, 1) := by decide +kernel
theorem dX3_draw_12 : decode cX3_draw 12 = .ok (.putfield 25, 3) := by decide +kernel
theorem dX3_draw_15 : decode cX3_draw 15 = .ok (.iload_n 1, 1) := by decide +kernel
theorem dX3_draw_16 : decode cX3_draw 16 = .ok (.iconst 1, 1) := by decide +kernel
theorem dX3_draw_17 : decode cX3_draw 17 = .ok (.if_icmp .ge 7, 3) := by decide +kernel
theorem dX3_draw_20 : decode cX3_draw 20 = .ok (.iconst 0, 1) := by decide +kernel
theorem dX3_draw_21 : decode cX3_draw 21 = .ok (.goto 12, 3) := by decide +kernel
theorem dX3_draw_24 : decode cX3_draw 24 = .ok (.aload_n 0, 1) := by decide +kernel
theorem dX3_draw_25 : decode cX3_draw 25 = .ok (.getfield 25, 3) := by decide +kernel
theorem dX3_draw_28 : decode cX3_draw 28 = .ok (.bipush 16, 2) := by decide +kernel
theorem dX3_draw_30 : decode cX3_draw 30 = .ok (.iushr, 1) := by decide +kernel
theorem dX3_draw_31 : decode cX3_draw 31 = .ok (.iload_n 1, 1) := by decide +kernel
theorem dX3_draw_32 : decode cX3_draw 32 = .ok (.irem, 1) := by decide +kernel
theorem dX3_draw_33 : decode cX3_draw 33 = .ok (.ireturn, 1) := by decide +kernel
theorem dX4_init_0 : decode cX4_init 0 = .ok (.aload_n 0, 1) := by decide +kernel
theorem dX4_init_1 : decode cX4_init 1 = .ok (.invokespecial 3, 3) := by decide +kernel
theorem dX4_init_4 : decode cX4_init 4 = .ok (.aload_n 0, 1) := by decide +kernel
theorem dX4_init_5 : decode cX4_init 5 = .ok (.sipush 160, 3) := by decide +kernel
theorem dX4_init_8 : decode cX4_init 8 = .ok (.newarray .int, 2) := by decide +kernel
theorem dX4_init_10 : decode cX4_init 10 = .ok (.putfield 9, 3) := by decide +kernel
theorem dX4_init_13 : decode cX4_init 13 = .ok (.aload_n 0, 1) := by decide +kernel
theorem dX4_init_14 : decode cX4_init 14 = .ok (.new 15, 3) := by decide +kernel
theorem dX4_init_17 : decode cX4_init 17 = .ok (.dup, 1) := by decide +kernel
theorem dX4_init_18 : decode cX4_init 18 = .ok (.invokespecial 17, 3) := by decide +kernel
theorem dX4_init_21 : decode cX4_init 21 = .ok (.putfield 18, 3) := by decide +kernel
theorem dX4_init_24 : decode cX4_init 24 = .ok (.aload_n 0, 1) := by decide +kernel
theorem dX4_init_25 : decode cX4_init 25 = .ok (.iconst (-1), 1) := by decide +kernel
theorem dX4_init_26 : decode cX4_init 26 = .ok (.putfield 22, 3) := by decide +kernel
theorem dX4_init_29 : decode cX4_init 29 = .ok (.return_, 1) := by decide +kernel
theorem dX4_read_0 : decode cX4_read 0 = .ok (.aload_n 0, 1) := by decide +kernel
theorem dX4_read_1 : decode cX4_read 1 = .ok (.getfield 18, 3) := by decide +kernel
theorem dX4_read_4 : decode cX4_read 4 = .ok (.aload_n 2, 1) := by decide +kernel
theorem dX4_read_5 : decode cX4_read 5 = .ok (.invokevirtual 26, 3) := by decide +kernel
theorem dX4_read_8 : decode cX4_read 8 = .ok (.aload_n 0, 1) := by decide +kernel
theorem dX4_read_9 : decode cX4_read 9 = .ok (.iload_n 1, 1) := by decide +kernel
theorem dX4_read_10 : decode cX4_read 10 = .ok (.putfield 30, 3) := by decide +kernel
theorem dX4_read_13 : decode cX4_read 13 = .ok (.aload_n 0, 1) := by decide +kernel
theorem dX4_read_14 : decode cX4_read 14 = .ok (.iconst 0, 1) := by decide +kernel
theorem dX4_read_15 : decode cX4_read 15 = .ok (.putfield 33, 3) := by decide +kernel
theorem dX4_read_18 : decode cX4_read 18 = .ok (.aload_n 0, 1) := by decide +kernel
theorem dX4_read_19 : decode cX4_read 19 = .ok (.iconst (-1), 1) := by decide +kernel
theorem dX4_read_20 : decode cX4_read 20 = .ok (.putfield 22, 3) := by decide +kernel
theorem dX4_read_23 : decode cX4_read 23 = .ok (.aload_n 0, 1) := by decide +kernel
theorem dX4_read_24 : decode cX4_read 24 = .ok (.invokevirtual 36, 3) := by decide +kernel
theorem dX4_read_27 : decode cX4_read 27 = .ok (.iconst 1, 1) := by decide +kernel
theorem dX4_read_28 : decode cX4_read 28 = .ok (.istore_n 3, 1) := by decide +kernel
theorem dX4_read_29 : decode cX4_read 29 = .ok (.iconst 0, 1) := by decide +kernel
theorem dX4_read_30 : decode cX4_read 30 = .ok (.istore 4, 2) := by decide +kernel
theorem dX4_read_32 : decode cX4_read 32 = .ok (.iload 4, 2) := by decide +kernel
theorem dX4_read_34 : decode cX4_read 34 = .ok (.iload_n 1, 1) := by decide +kernel
theorem dX4_read_35 : decode cX4_read 35 = .ok (.if_icmp .ge 41, 3) := by decide +kernel
theorem dX4_read_38 : decode cX4_read 38 = .ok (.aload_n 0, 1) := by decide +kernel
theorem dX4_read_39 : decode cX4_read 39 = .ok (.getfield 22, 3) := by decide +kernel
theorem dX4_read_42 : decode cX4_read 42 = .ok (.iconst (-1), 1) := by decide +kernel
theorem dX4_read_43 : decode cX4_read 43 = .ok (.if_icmp .ne 33, 3) := by decide +kernel
theorem dX4_read_46 : decode cX4_read 46 = .ok (.aload_n 0, 1) := by decide +kernel
theorem dX4_read_47 : decode cX4_read 47 = .ok (.getfield 33, 3) := by decide +kernel
theorem dX4_read_50 : decode cX4_read 50 = .ok (.aload_n 0, 1) := by decide +kernel
theorem dX4_read_51 : decode cX4_read 51 = .ok (.getfield 30, 3) := by decide +kernel
theorem dX4_read_54 : decode cX4_read 54 = .ok (.if_icmp .ge 22, 3) := by decide +kernel
theorem dX4_read_57 : decode cX4_read 57 = .ok (.aload_n 0, 1) := by decide +kernel
theorem dX4_read_58 : decode cX4_read 58 = .ok (.bipush 59, 2) := by decide +kernel
theorem dX4_read_60 : decode cX4_read 60 = .ok (.invokevirtual 39, 3) := by decide +kernel
theorem dX4_read_63 : decode cX4_read 63 = .ok (.aload_n 0, 1) := by decide +kernel
theorem dX4_read_64 : decode cX4_read 64 = .ok (.invokevirtual 36, 3) := by decide +kernel
theorem dX4_read_67 : decode cX4_read 67 = .ok (.iinc 3 1, 3) := by decide +kernel
theorem dX4_read_70 : decode cX4_read 70 = .ok (.iinc 4 1, 3) := by decide +kernel
theorem dX4_read_73 : decode cX4_read 73 = .ok (.goto (-41), 3) := by decide +kernel
theorem dX4_read_76 : decode cX4_read 76 = .ok (.iload_n 3, 1) := by decide +kernel
theorem dX4_read_77 : decode cX4_read 77 = .ok (.ireturn, 1) := by decide +kernel
theorem dX4_readItem_0 : decode cX4_readItem 0 = .ok (.aload_n 0, 1) := by decide +kernel
theorem dX4_readItem_1 : decode cX4_readItem 1 = .ok (.invokevirtual 43, 3) := by decide +kernel
theorem dX4_readItem_4 : decode cX4_readItem 4 = .ok (.tableswitch 172 97 113 #[112, 98, 172, 172, 172, 172, 84, 149, 172, 172, 172, 172, 172, 172, 172, 126, 91], 84) := by decide +kernel
theorem dX4_readItem_88 : decode cX4_readItem 88 = .ok (.aload_n 0, 1) := by decide +kernel
theorem dX4_readItem_89 : decode cX4_readItem 89 = .ok (.invokevirtual 47, 3) := by decide +kernel
theorem dX4_readItem_92 : decode cX4_readItem 92 = .ok (.goto 92, 3) := by decide +kernel
theorem dX4_readItem_95 : decode cX4_readItem 95 = .ok (.aload_n 0, 1) := by decide +kernel
theorem dX4_readItem_96 : decode cX4_readItem 96 = .ok (.invokevirtual 50, 3) := by decide +kernel
theorem dX4_readItem_99 : decode cX4_readItem 99 = .ok (.goto 85, 3) := by decide +kernel
theorem dX4_readItem_102 : decode cX4_readItem 102 = .ok (.aload_n 0, 1) := by decide +kernel
theorem dX4_readItem_103 : decode cX4_readItem 103 = .ok (.ldc 53, 2) := by decide +kernel
theorem dX4_readItem_105 : decode cX4_readItem 105 = .ok (.invokevirtual 55, 3) := by decide +kernel
theorem dX4_readItem_108 : decode cX4_readItem 108 = .ok (.aload_n 0, 1) := by decide +kernel
theorem dX4_readItem_109 : decode cX4_readItem 109 = .ok (.iconst 1, 1) := by decide +kernel
theorem dX4_readItem_110 : decode cX4_readItem 110 = .ok (.invokevirtual 59, 3) := by decide +kernel
theorem dX4_readItem_113 : decode cX4_readItem 113 = .ok (.goto 71, 3) := by decide +kernel
theorem dX4_readItem_116 : decode cX4_readItem 116 = .ok (.aload_n 0, 1) := by decide +kernel
theorem dX4_readItem_117 : decode cX4_readItem 117 = .ok (.ldc 63, 2) := by decide +kernel
theorem dX4_readItem_119 : decode cX4_readItem 119 = .ok (.invokevirtual 55, 3) := by decide +kernel
theorem dX4_readItem_122 : decode cX4_readItem 122 = .ok (.aload_n 0, 1) := by decide +kernel
theorem dX4_readItem_123 : decode cX4_readItem 123 = .ok (.iconst (-1), 1) := by decide +kernel
theorem dX4_readItem_124 : decode cX4_readItem 124 = .ok (.invokevirtual 59, 3) := by decide +kernel
theorem dX4_readItem_127 : decode cX4_readItem 127 = .ok (.goto 57, 3) := by decide +kernel
theorem dX4_readItem_130 : decode cX4_readItem 130 = .ok (.aload_n 0, 1) := by decide +kernel
theorem dX4_readItem_131 : decode cX4_readItem 131 = .ok (.ldc 65, 2) := by decide +kernel
theorem dX4_readItem_133 : decode cX4_readItem 133 = .ok (.invokevirtual 55, 3) := by decide +kernel
theorem dX4_readItem_136 : decode cX4_readItem 136 = .ok (.aload_n 0, 1) := by decide +kernel
theorem dX4_readItem_137 : decode cX4_readItem 137 = .ok (.getfield 18, 3) := by decide +kernel
theorem dX4_readItem_140 : decode cX4_readItem 140 = .ok (.aload_n 0, 1) := by decide +kernel
theorem dX4_readItem_141 : decode cX4_readItem 141 = .ok (.iconst 0, 1) := by decide +kernel
theorem dX4_readItem_142 : decode cX4_readItem 142 = .ok (.bipush 99, 2) := by decide +kernel
theorem dX4_readItem_144 : decode cX4_readItem 144 = .ok (.invokevirtual 67, 3) := by decide +kernel
theorem dX4_readItem_147 : decode cX4_readItem 147 = .ok (.putfield 71, 3) := by decide +kernel
theorem dX4_readItem_150 : decode cX4_readItem 150 = .ok (.goto 34, 3) := by decide +kernel
theorem dX4_readItem_153 : decode cX4_readItem 153 = .ok (.aload_n 0, 1) := by decide +kernel
theorem dX4_readItem_154 : decode cX4_readItem 154 = .ok (.ldc 73, 2) := by decide +kernel
theorem dX4_readItem_156 : decode cX4_readItem 156 = .ok (.invokevirtual 55, 3) := by decide +kernel
theorem dX4_readItem_159 : decode cX4_readItem 159 = .ok (.aload_n 0, 1) := by decide +kernel
theorem dX4_readItem_160 : decode cX4_readItem 160 = .ok (.getfield 18, 3) := by decide +kernel
theorem dX4_readItem_163 : decode cX4_readItem 163 = .ok (.aload_n 0, 1) := by decide +kernel
theorem dX4_readItem_164 : decode cX4_readItem 164 = .ok (.iconst 0, 1) := by decide +kernel
theorem dX4_readItem_165 : decode cX4_readItem 165 = .ok (.bipush 7, 2) := by decide +kernel
theorem dX4_readItem_167 : decode cX4_readItem 167 = .ok (.invokevirtual 67, 3) := by decide +kernel
theorem dX4_readItem_170 : decode cX4_readItem 170 = .ok (.putfield 75, 3) := by decide +kernel
theorem dX4_readItem_173 : decode cX4_readItem 173 = .ok (.goto 11, 3) := by decide +kernel
theorem dX4_readItem_176 : decode cX4_readItem 176 = .ok (.aload_n 0, 1) := by decide +kernel
theorem dX4_readItem_177 : decode cX4_readItem 177 = .ok (.aload_n 0, 1) := by decide +kernel
theorem dX4_readItem_178 : decode cX4_readItem 178 = .ok (.getfield 33, 3) := by decide +kernel
theorem dX4_readItem_181 : decode cX4_readItem 181 = .ok (.invokevirtual 77, 3) := by decide +kernel
theorem dX4_readItem_184 : decode cX4_readItem 184 = .ok (.return_, 1) := by decide +kernel
theorem dX4_readGroup_0 : decode cX4_readGroup 0 = .ok (.aload_n 0, 1) := by decide +kernel
theorem dX4_readGroup_1 : decode cX4_readGroup 1 = .ok (.getfield 33, 3) := by decide +kernel
theorem dX4_readGroup_4 : decode cX4_readGroup 4 = .ok (.istore_n 1, 1) := by decide +kernel
theorem dX4_readGroup_5 : decode cX4_readGroup 5 = .ok (.aload_n 0, 1) := by decide +kernel
theorem dX4_readGroup_6 : decode cX4_readGroup 6 = .ok (.ldc 80, 2) := by decide +kernel
theorem dX4_readGroup_8 : decode cX4_readGroup 8 = .ok (.invokevirtual 55, 3) := by decide +kernel
theorem dX4_readGroup_11 : decode cX4_readGroup 11 = .ok (.aload_n 0, 1) := by decide +kernel
theorem dX4_readGroup_12 : decode cX4_readGroup 12 = .ok (.getfield 18, 3) := by decide +kernel
theorem dX4_readGroup_15 : decode cX4_readGroup 15 = .ok (.invokevirtual 82, 3) := by decide +kernel
theorem dX4_readGroup_18 : decode cX4_readGroup 18 = .ok (.ifCond .ne 8, 3) := by decide +kernel
theorem dX4_readGroup_21 : decode cX4_readGroup 21 = .ok (.aload_n 0, 1) := by decide +kernel
theorem dX4_readGroup_22 : decode cX4_readGroup 22 = .ok (.iload_n 1, 1) := by decide +kernel
theorem dX4_readGroup_23 : decode cX4_readGroup 23 = .ok (.invokevirtual 77, 3) := by decide +kernel
theorem dX4_readGroup_26 : decode cX4_readGroup 26 = .ok (.aload_n 0, 1) := by decide +kernel
theorem dX4_readGroup_27 : decode cX4_readGroup 27 = .ok (.iconst 1, 1) := by decide +kernel
theorem dX4_readGroup_28 : decode cX4_readGroup 28 = .ok (.sipush 999, 3) := by decide +kernel
theorem dX4_readGroup_31 : decode cX4_readGroup 31 = .ok (.invokevirtual 67, 3) := by decide +kernel
theorem dX4_readGroup_34 : decode cX4_readGroup 34 = .ok (.istore_n 2, 1) := by decide +kernel
theorem dX4_readGroup_35 : decode cX4_readGroup 35 = .ok (.aload_n 0, 1) := by decide +kernel
theorem dX4_readGroup_36 : decode cX4_readGroup 36 = .ok (.iconst 0, 1) := by decide +kernel
theorem dX4_readGroup_37 : decode cX4_readGroup 37 = .ok (.iconst 2, 1) := by decide +kernel
theorem dX4_readGroup_38 : decode cX4_readGroup 38 = .ok (.invokevirtual 67, 3) := by decide +kernel
theorem dX4_readGroup_41 : decode cX4_readGroup 41 = .ok (.istore_n 3, 1) := by decide +kernel
theorem dX4_readGroup_42 : decode cX4_readGroup 42 = .ok (.aload_n 0, 1) := by decide +kernel
theorem dX4_readGroup_43 : decode cX4_readGroup 43 = .ok (.iconst 0, 1) := by decide +kernel
theorem dX4_readGroup_44 : decode cX4_readGroup 44 = .ok (.bipush 10, 2) := by decide +kernel
theorem dX4_readGroup_46 : decode cX4_readGroup 46 = .ok (.invokevirtual 67, 3) := by decide +kernel
theorem dX4_readGroup_49 : decode cX4_readGroup 49 = .ok (.istore 4, 2) := by decide +kernel
theorem dX4_readGroup_51 : decode cX4_readGroup 51 = .ok (.aload_n 0, 1) := by decide +kernel
theorem dX4_readGroup_52 : decode cX4_readGroup 52 = .ok (.iconst 0, 1) := by decide +kernel
theorem dX4_readGroup_53 : decode cX4_readGroup 53 = .ok (.bipush 10, 2) := by decide +kernel
theorem dX4_readGroup_55 : decode cX4_readGroup 55 = .ok (.invokevirtual 67, 3) := by decide +kernel
theorem dX4_readGroup_58 : decode cX4_readGroup 58 = .ok (.istore 5, 2) := by decide +kernel
theorem dX4_readGroup_60 : decode cX4_readGroup 60 = .ok (.aload_n 0, 1) := by decide +kernel
theorem dX4_readGroup_61 : decode cX4_readGroup 61 = .ok (.iconst 0, 1) := by decide +kernel
theorem dX4_readGroup_62 : decode cX4_readGroup 62 = .ok (.bipush 10, 2) := by decide +kernel
theorem dX4_readGroup_64 : decode cX4_readGroup 64 = .ok (.invokevirtual 67, 3) := by decide +kernel
theorem dX4_readGroup_67 : decode cX4_readGroup 67 = .ok (.istore 6, 2) := by decide +kernel
theorem dX4_readGroup_69 : decode cX4_readGroup 69 = .ok (.aload_n 0, 1) := by decide +kernel
theorem dX4_readGroup_70 : decode cX4_readGroup 70 = .ok (.getfield 22, 3) := by decide +kernel
theorem dX4_readGroup_73 : decode cX4_readGroup 73 = .ok (.iconst (-1), 1) := by decide +kernel
theorem dX4_readGroup_74 : decode cX4_readGroup 74 = .ok (.if_icmp .ne 19, 3) := by decide +kernel
theorem dX4_readGroup_77 : decode cX4_readGroup 77 = .ok (.aload_n 0, 1) := by decide +kernel
theorem dX4_readGroup_78 : decode cX4_readGroup 78 = .ok (.getfield 18, 3) := by decide +kernel
theorem dX4_readGroup_81 : decode cX4_readGroup 81 = .ok (.iload_n 2, 1) := by decide +kernel
theorem dX4_readGroup_82 : decode cX4_readGroup 82 = .ok (.iload_n 3, 1) := by decide +kernel
theorem dX4_readGroup_83 : decode cX4_readGroup 83 = .ok (.iload 4, 2) := by decide +kernel
theorem dX4_readGroup_85 : decode cX4_readGroup 85 = .ok (.iload 5, 2) := by decide +kernel
theorem dX4_readGroup_87 : decode cX4_readGroup 87 = .ok (.iload 6, 2) := by decide +kernel
theorem dX4_readGroup_89 : decode cX4_readGroup 89 = .ok (.invokevirtual 86, 3) := by decide +kernel
theorem dX4_readGroup_92 : decode cX4_readGroup 92 = .ok (.pop, 1) := by decide +kernel
theorem dX4_readGroup_93 : decode cX4_readGroup 93 = .ok (.return_, 1) := by decide +kernel
theorem dX4_readQuestion_0 : decode cX4_readQuestion 0 = .ok (.aload_n 0, 1) := by decide +kernel
theorem dX4_readQuestion_1 : decode cX4_readQuestion 1 = .ok (.getfield 33, 3) := by decide +kernel
theorem dX4_readQuestion_4 : decode cX4_readQuestion 4 = .ok (.istore_n 1, 1) := by decide +kernel
theorem dX4_readQuestion_5 : decode cX4_readQuestion 5 = .ok (.aload_n 0, 1) := by decide +kernel
theorem dX4_readQuestion_6 : decode cX4_readQuestion 6 = .ok (.ldc 90, 2) := by decide +kernel
theorem dX4_readQuestion_8 : decode cX4_readQuestion 8 = .ok (.invokevirtual 55, 3) := by decide +kernel
theorem dX4_readQuestion_11 : decode cX4_readQuestion 11 = .ok (.aload_n 0, 1) := by decide +kernel
theorem dX4_readQuestion_12 : decode cX4_readQuestion 12 = .ok (.getfield 18, 3) := by decide +kernel
theorem dX4_readQuestion_15 : decode cX4_readQuestion 15 = .ok (.invokevirtual 92, 3) := by decide +kernel
theorem dX4_readQuestion_18 : decode cX4_readQuestion 18 = .ok (.ifCond .ne 8, 3) := by decide +kernel
theorem dX4_readQuestion_21 : decode cX4_readQuestion 21 = .ok (.aload_n 0, 1) := by decide +kernel
theorem dX4_readQuestion_22 : decode cX4_readQuestion 22 = .ok (.iload_n 1, 1) := by decide +kernel
theorem dX4_readQuestion_23 : decode cX4_readQuestion 23 = .ok (.invokevirtual 77, 3) := by decide +kernel
theorem dX4_readQuestion_26 : decode cX4_readQuestion 26 = .ok (.aload_n 0, 1) := by decide +kernel
theorem dX4_readQuestion_27 : decode cX4_readQuestion 27 = .ok (.iconst 0, 1) := by decide +kernel
theorem dX4_readQuestion_28 : decode cX4_readQuestion 28 = .ok (.bipush 6, 2) := by decide +kernel
theorem dX4_readQuestion_30 : decode cX4_readQuestion 30 = .ok (.invokevirtual 67, 3) := by decide +kernel
theorem dX4_readQuestion_33 : decode cX4_readQuestion 33 = .ok (.istore_n 2, 1) := by decide +kernel
theorem dX4_readQuestion_34 : decode cX4_readQuestion 34 = .ok (.aload_n 0, 1) := by decide +kernel
theorem dX4_readQuestion_35 : decode cX4_readQuestion 35 = .ok (.iconst 0, 1) := by decide +kernel
theorem dX4_readQuestion_36 : decode cX4_readQuestion 36 = .ok (.bipush 9, 2) := by decide +kernel
theorem dX4_readQuestion_38 : decode cX4_readQuestion 38 = .ok (.invokevirtual 67, 3) := by decide +kernel
theorem dX4_readQuestion_41 : decode cX4_readQuestion 41 = .ok (.istore_n 3, 1) := by decide +kernel
theorem dX4_readQuestion_42 : decode cX4_readQuestion 42 = .ok (.aload_n 0, 1) := by decide +kernel
theorem dX4_readQuestion_43 : decode cX4_readQuestion 43 = .ok (.getfield 22, 3) := by decide +kernel
theorem dX4_readQuestion_46 : decode cX4_readQuestion 46 = .ok (.iconst (-1), 1) := by decide +kernel
theorem dX4_readQuestion_47 : decode cX4_readQuestion 47 = .ok (.if_icmp .ne 13, 3) := by decide +kernel
theorem dX4_readQuestion_50 : decode cX4_readQuestion 50 = .ok (.aload_n 0, 1) := by decide +kernel
theorem dX4_readQuestion_51 : decode cX4_readQuestion 51 = .ok (.getfield 18, 3) := by decide +kernel
theorem dX4_readQuestion_54 : decode cX4_readQuestion 54 = .ok (.iload_n 2, 1) := by decide +kernel
theorem dX4_readQuestion_55 : decode cX4_readQuestion 55 = .ok (.iload_n 3, 1) := by decide +kernel
theorem dX4_readQuestion_56 : decode cX4_readQuestion 56 = .ok (.invokevirtual 95, 3) := by decide +kernel
theorem dX4_readQuestion_59 : decode cX4_readQuestion 59 = .ok (.pop, 1) := by decide +kernel
theorem dX4_readQuestion_60 : decode cX4_readQuestion 60 = .ok (.return_, 1) := by decide +kernel
theorem dX4_readBearing_0 : decode cX4_readBearing 0 = .ok (.aload_n 0, 1) := by decide +kernel
theorem dX4_readBearing_1 : decode cX4_readBearing 1 = .ok (.iconst 0, 1) := by decide +kernel
theorem dX4_readBearing_2 : decode cX4_readBearing 2 = .ok (.aload_n 0, 1) := by decide +kernel
theorem dX4_readBearing_3 : decode cX4_readBearing 3 = .ok (.getfield 18, 3) := by decide +kernel
theorem dX4_readBearing_6 : decode cX4_readBearing 6 = .ok (.getfield 98, 3) := by decide +kernel
theorem dX4_readBearing_9 : decode cX4_readBearing 9 = .ok (.iconst 1, 1) := by decide +kernel
theorem dX4_readBearing_10 : decode cX4_readBearing 10 = .ok (.isub, 1) := by decide +kernel
theorem dX4_readBearing_11 : decode cX4_readBearing 11 = .ok (.invokevirtual 67, 3) := by decide +kernel
theorem dX4_readBearing_14 : decode cX4_readBearing 14 = .ok (.istore_n 2, 1) := by decide +kernel
theorem dX4_readBearing_15 : decode cX4_readBearing 15 = .ok (.aload_n 0, 1) := by decide +kernel
theorem dX4_readBearing_16 : decode cX4_readBearing 16 = .ok (.getfield 33, 3) := by decide +kernel
theorem dX4_readBearing_19 : decode cX4_readBearing 19 = .ok (.iconst 1, 1) := by decide +kernel
theorem dX4_readBearing_20 : decode cX4_readBearing 20 = .ok (.iadd, 1) := by decide +kernel
theorem dX4_readBearing_21 : decode cX4_readBearing 21 = .ok (.istore_n 3, 1) := by decide +kernel
theorem dX4_readBearing_22 : decode cX4_readBearing 22 = .ok (.aload_n 0, 1) := by decide +kernel
theorem dX4_readBearing_23 : decode cX4_readBearing 23 = .ok (.iconst 0, 1) := by decide +kernel
theorem dX4_readBearing_24 : decode cX4_readBearing 24 = .ok (.aload_n 0, 1) := by decide +kernel
theorem dX4_readBearing_25 : decode cX4_readBearing 25 = .ok (.getfield 18, 3) := by decide +kernel
theorem dX4_readBearing_28 : decode cX4_readBearing 28 = .ok (.getfield 98, 3) := by decide +kernel
theorem dX4_readBearing_31 : decode cX4_readBearing 31 = .ok (.iconst 1, 1) := by decide +kernel
theorem dX4_readBearing_32 : decode cX4_readBearing 32 = .ok (.isub, 1) := by decide +kernel
theorem dX4_readBearing_33 : decode cX4_readBearing 33 = .ok (.invokevirtual 67, 3) := by decide +kernel
theorem dX4_readBearing_36 : decode cX4_readBearing 36 = .ok (.istore 4, 2) := by decide +kernel
theorem dX4_readBearing_38 : decode cX4_readBearing 38 = .ok (.iload 4, 2) := by decide +kernel
theorem dX4_readBearing_40 : decode cX4_readBearing 40 = .ok (.iload_n 2, 1) := by decide +kernel
theorem dX4_readBearing_41 : decode cX4_readBearing 41 = .ok (.if_icmp .ne 8, 3) := by decide +kernel
theorem dX4_readBearing_44 : decode cX4_readBearing 44 = .ok (.aload_n 0, 1) := by decide +kernel
theorem dX4_readBearing_45 : decode cX4_readBearing 45 = .ok (.iload_n 3, 1) := by decide +kernel
theorem dX4_readBearing_46 : decode cX4_readBearing 46 = .ok (.invokevirtual 77, 3) := by decide +kernel
theorem dX4_readBearing_49 : decode cX4_readBearing 49 = .ok (.aload_n 0, 1) := by decide +kernel
theorem dX4_readBearing_50 : decode cX4_readBearing 50 = .ok (.iconst 0, 1) := by decide +kernel
theorem dX4_readBearing_51 : decode cX4_readBearing 51 = .ok (.bipush 9, 2) := by decide +kernel
theorem dX4_readBearing_53 : decode cX4_readBearing 53 = .ok (.invokevirtual 67, 3) := by decide +kernel
theorem dX4_readBearing_56 : decode cX4_readBearing 56 = .ok (.istore 5, 2) := by decide +kernel
theorem dX4_readBearing_58 : decode cX4_readBearing 58 = .ok (.aload_n 0, 1) := by decide +kernel
theorem dX4_readBearing_59 : decode cX4_readBearing 59 = .ok (.getfield 22, 3) := by decide +kernel
theorem dX4_readBearing_62 : decode cX4_readBearing 62 = .ok (.iconst (-1), 1) := by decide +kernel
theorem dX4_readBearing_63 : decode cX4_readBearing 63 = .ok (.if_icmp .ne 17, 3) := by decide +kernel
theorem dX4_readBearing_66 : decode cX4_readBearing 66 = .ok (.aload_n 0, 1) := by decide +kernel
theorem dX4_readBearing_67 : decode cX4_readBearing 67 = .ok (.getfield 18, 3) := by decide +kernel
theorem dX4_readBearing_70 : decode cX4_readBearing 70 = .ok (.iload_n 2, 1) := by decide +kernel
theorem dX4_readBearing_71 : decode cX4_readBearing 71 = .ok (.iload 4, 2) := by decide +kernel
theorem dX4_readBearing_73 : decode cX4_readBearing 73 = .ok (.iload_n 1, 1) := by decide +kernel
theorem dX4_readBearing_74 : decode cX4_readBearing 74 = .ok (.iload 5, 2) := by decide +kernel
end
section
theorem dX4_readBearing_76 : decode cX4_readBearing 76 = .ok (.imul, 1) := by decide +kernel
theorem dX4_readBearing_77 : decode cX4_readBearing 77 = .ok (.invokevirtual 101, 3) := by decide +kernel
theorem dX4_readBearing_80 : decode cX4_readBearing 80 = .ok (.return_, 1) := by decide +kernel
theorem dX4_faultAt_0 : decode cX4_faultAt 0 = .ok (.aload_n 0, 1) := by decide +kernel
theorem dX4_faultAt_1 : decode cX4_faultAt 1 = .ok (.getfield 22, 3) := by decide +kernel
theorem dX4_faultAt_4 : decode cX4_faultAt 4 = .ok (.iconst (-1), 1) := by decide +kernel
theorem dX4_faultAt_5 : decode cX4_faultAt 5 = .ok (.if_icmp .ne 8, 3) := by decide +kernel
theorem dX4_faultAt_8 : decode cX4_faultAt 8 = .ok (.aload_n 0, 1) := by decide +kernel
theorem dX4_faultAt_9 : decode cX4_faultAt 9 = .ok (.iload_n 1, 1) := by decide +kernel
theorem dX4_faultAt_10 : decode cX4_faultAt 10 = .ok (.putfield 22, 3) := by decide +kernel
theorem dX4_faultAt_13 : decode cX4_faultAt 13 = .ok (.return_, 1) := by decide +kernel
theorem dX4_letterHere_0 : decode cX4_letterHere 0 = .ok (.aload_n 0, 1) := by decide +kernel
theorem dX4_letterHere_1 : decode cX4_letterHere 1 = .ok (.getfield 33, 3) := by decide +kernel
theorem dX4_letterHere_4 : decode cX4_letterHere 4 = .ok (.ifCond .lt 26, 3) := by decide +kernel
theorem dX4_letterHere_7 : decode cX4_letterHere 7 = .ok (.aload_n 0, 1) := by decide +kernel
theorem dX4_letterHere_8 : decode cX4_letterHere 8 = .ok (.getfield 33, 3) := by decide +kernel
theorem dX4_letterHere_11 : decode cX4_letterHere 11 = .ok (.aload_n 0, 1) := by decide +kernel
theorem dX4_letterHere_12 : decode cX4_letterHere 12 = .ok (.getfield 30, 3) := by decide +kernel
theorem dX4_letterHere_15 : decode cX4_letterHere 15 = .ok (.if_icmp .ge 15, 3) := by decide +kernel
theorem dX4_letterHere_18 : decode cX4_letterHere 18 = .ok (.aload_n 0, 1) := by decide +kernel
theorem dX4_letterHere_19 : decode cX4_letterHere 19 = .ok (.getfield 9, 3) := by decide +kernel
theorem dX4_letterHere_22 : decode cX4_letterHere 22 = .ok (.aload_n 0, 1) := by decide +kernel
theorem dX4_letterHere_23 : decode cX4_letterHere 23 = .ok (.getfield 33, 3) := by decide +kernel
theorem dX4_letterHere_26 : decode cX4_letterHere 26 = .ok (.iaload, 1) := by decide +kernel
theorem dX4_letterHere_27 : decode cX4_letterHere 27 = .ok (.goto 4, 3) := by decide +kernel
theorem dX4_letterHere_30 : decode cX4_letterHere 30 = .ok (.iconst (-1), 1) := by decide +kernel
theorem dX4_letterHere_31 : decode cX4_letterHere 31 = .ok (.ireturn, 1) := by decide +kernel
theorem dX4_readLetter_0 : decode cX4_readLetter 0 = .ok (.aload_n 0, 1) := by decide +kernel
theorem dX4_readLetter_1 : decode cX4_readLetter 1 = .ok (.invokevirtual 43, 3) := by decide +kernel
theorem dX4_readLetter_4 : decode cX4_readLetter 4 = .ok (.iload_n 1, 1) := by decide +kernel
theorem dX4_readLetter_5 : decode cX4_readLetter 5 = .ok (.if_icmp .eq 11, 3) := by decide +kernel
theorem dX4_readLetter_8 : decode cX4_readLetter 8 = .ok (.aload_n 0, 1) := by decide +kernel
theorem dX4_readLetter_9 : decode cX4_readLetter 9 = .ok (.aload_n 0, 1) := by decide +kernel
theorem dX4_readLetter_10 : decode cX4_readLetter 10 = .ok (.getfield 33, 3) := by decide +kernel
theorem dX4_readLetter_13 : decode cX4_readLetter 13 = .ok (.invokevirtual 77, 3) := by decide +kernel
theorem dX4_readLetter_16 : decode cX4_readLetter 16 = .ok (.aload_n 0, 1) := by decide +kernel
theorem dX4_readLetter_17 : decode cX4_readLetter 17 = .ok (.getfield 22, 3) := by decide +kernel
theorem dX4_readLetter_20 : decode cX4_readLetter 20 = .ok (.iconst (-1), 1) := by decide +kernel
theorem dX4_readLetter_21 : decode cX4_readLetter 21 = .ok (.if_icmp .ne 13, 3) := by decide +kernel
theorem dX4_readLetter_24 : decode cX4_readLetter 24 = .ok (.aload_n 0, 1) := by decide +kernel
theorem dX4_readLetter_25 : decode cX4_readLetter 25 = .ok (.dup, 1) := by decide +kernel
theorem dX4_readLetter_26 : decode cX4_readLetter 26 = .ok (.getfield 33, 3) := by decide +kernel
theorem dX4_readLetter_29 : decode cX4_readLetter 29 = .ok (.iconst 1, 1) := by decide +kernel
theorem dX4_readLetter_30 : decode cX4_readLetter 30 = .ok (.iadd, 1) := by decide +kernel
theorem dX4_readLetter_31 : decode cX4_readLetter 31 = .ok (.putfield 33, 3) := by decide +kernel
theorem dX4_readLetter_34 : decode cX4_readLetter 34 = .ok (.return_, 1) := by decide +kernel
theorem dX4_readWord_0 : decode cX4_readWord 0 = .ok (.iconst 0, 1) := by decide +kernel
theorem dX4_readWord_1 : decode cX4_readWord 1 = .ok (.istore_n 2, 1) := by decide +kernel
theorem dX4_readWord_2 : decode cX4_readWord 2 = .ok (.iload_n 2, 1) := by decide +kernel
theorem dX4_readWord_3 : decode cX4_readWord 3 = .ok (.aload_n 1, 1) := by decide +kernel
theorem dX4_readWord_4 : decode cX4_readWord 4 = .ok (.invokevirtual 105, 3) := by decide +kernel
theorem dX4_readWord_7 : decode cX4_readWord 7 = .ok (.if_icmp .ge 18, 3) := by decide +kernel
theorem dX4_readWord_10 : decode cX4_readWord 10 = .ok (.aload_n 0, 1) := by decide +kernel
theorem dX4_readWord_11 : decode cX4_readWord 11 = .ok (.aload_n 1, 1) := by decide +kernel
theorem dX4_readWord_12 : decode cX4_readWord 12 = .ok (.iload_n 2, 1) := by decide +kernel
theorem dX4_readWord_13 : decode cX4_readWord 13 = .ok (.invokevirtual 110, 3) := by decide +kernel
theorem dX4_readWord_16 : decode cX4_readWord 16 = .ok (.invokevirtual 39, 3) := by decide +kernel
theorem dX4_readWord_19 : decode cX4_readWord 19 = .ok (.iinc 2 1, 3) := by decide +kernel
theorem dX4_readWord_22 : decode cX4_readWord 22 = .ok (.goto (-20), 3) := by decide +kernel
theorem dX4_readWord_25 : decode cX4_readWord 25 = .ok (.return_, 1) := by decide +kernel
theorem dX4_readNumber_0 : decode cX4_readNumber 0 = .ok (.aload_n 0, 1) := by decide +kernel
theorem dX4_readNumber_1 : decode cX4_readNumber 1 = .ok (.bipush 32, 2) := by decide +kernel
theorem dX4_readNumber_3 : decode cX4_readNumber 3 = .ok (.invokevirtual 39, 3) := by decide +kernel
theorem dX4_readNumber_6 : decode cX4_readNumber 6 = .ok (.aload_n 0, 1) := by decide +kernel
theorem dX4_readNumber_7 : decode cX4_readNumber 7 = .ok (.getfield 33, 3) := by decide +kernel
theorem dX4_readNumber_10 : decode cX4_readNumber 10 = .ok (.istore_n 3, 1) := by decide +kernel
theorem dX4_readNumber_11 : decode cX4_readNumber 11 = .ok (.iconst 0, 1) := by decide +kernel
theorem dX4_readNumber_12 : decode cX4_readNumber 12 = .ok (.istore 4, 2) := by decide +kernel
theorem dX4_readNumber_14 : decode cX4_readNumber 14 = .ok (.iconst 0, 1) := by decide +kernel
theorem dX4_readNumber_15 : decode cX4_readNumber 15 = .ok (.istore 5, 2) := by decide +kernel
theorem dX4_readNumber_17 : decode cX4_readNumber 17 = .ok (.iload 5, 2) := by decide +kernel
theorem dX4_readNumber_19 : decode cX4_readNumber 19 = .ok (.iconst 3, 1) := by decide +kernel
theorem dX4_readNumber_20 : decode cX4_readNumber 20 = .ok (.if_icmp .ge 56, 3) := by decide +kernel
theorem dX4_readNumber_23 : decode cX4_readNumber 23 = .ok (.aload_n 0, 1) := by decide +kernel
theorem dX4_readNumber_24 : decode cX4_readNumber 24 = .ok (.getfield 22, 3) := by decide +kernel
theorem dX4_readNumber_27 : decode cX4_readNumber 27 = .ok (.iconst (-1), 1) := by decide +kernel
theorem dX4_readNumber_28 : decode cX4_readNumber 28 = .ok (.if_icmp .ne 48, 3) := by decide +kernel
theorem dX4_readNumber_31 : decode cX4_readNumber 31 = .ok (.aload_n 0, 1) := by decide +kernel
theorem dX4_readNumber_32 : decode cX4_readNumber 32 = .ok (.invokevirtual 43, 3) := by decide +kernel
theorem dX4_readNumber_35 : decode cX4_readNumber 35 = .ok (.bipush 48, 2) := by decide +kernel
theorem dX4_readNumber_37 : decode cX4_readNumber 37 = .ok (.bipush 57, 2) := by decide +kernel
theorem dX4_readNumber_39 : decode cX4_readNumber 39 = .ok (.invokestatic 114, 3) := by decide +kernel
theorem dX4_readNumber_42 : decode cX4_readNumber 42 = .ok (.ifCond .eq 34, 3) := by decide +kernel
theorem dX4_readNumber_45 : decode cX4_readNumber 45 = .ok (.bipush 10, 2) := by decide +kernel
theorem dX4_readNumber_47 : decode cX4_readNumber 47 = .ok (.iload 4, 2) := by decide +kernel
theorem dX4_readNumber_49 : decode cX4_readNumber 49 = .ok (.imul, 1) := by decide +kernel
theorem dX4_readNumber_50 : decode cX4_readNumber 50 = .ok (.aload_n 0, 1) := by decide +kernel
theorem dX4_readNumber_51 : decode cX4_readNumber 51 = .ok (.invokevirtual 43, 3) := by decide +kernel
theorem dX4_readNumber_54 : decode cX4_readNumber 54 = .ok (.iadd, 1) := by decide +kernel
theorem dX4_readNumber_55 : decode cX4_readNumber 55 = .ok (.bipush 48, 2) := by decide +kernel
theorem dX4_readNumber_57 : decode cX4_readNumber 57 = .ok (.isub, 1) := by decide +kernel
theorem dX4_readNumber_58 : decode cX4_readNumber 58 = .ok (.istore 4, 2) := by decide +kernel
theorem dX4_readNumber_60 : decode cX4_readNumber 60 = .ok (.aload_n 0, 1) := by decide +kernel
theorem dX4_readNumber_61 : decode cX4_readNumber 61 = .ok (.dup, 1) := by decide +kernel
theorem dX4_readNumber_62 : decode cX4_readNumber 62 = .ok (.getfield 33, 3) := by decide +kernel
theorem dX4_readNumber_65 : decode cX4_readNumber 65 = .ok (.iconst 1, 1) := by decide +kernel
theorem dX4_readNumber_66 : decode cX4_readNumber 66 = .ok (.iadd, 1) := by decide +kernel
theorem dX4_readNumber_67 : decode cX4_readNumber 67 = .ok (.putfield 33, 3) := by decide +kernel
theorem dX4_readNumber_70 : decode cX4_readNumber 70 = .ok (.iinc 5 1, 3) := by decide +kernel
theorem dX4_readNumber_73 : decode cX4_readNumber 73 = .ok (.goto (-56), 3) := by decide +kernel
theorem dX4_readNumber_76 : decode cX4_readNumber 76 = .ok (.aload_n 0, 1) := by decide +kernel
theorem dX4_readNumber_77 : decode cX4_readNumber 77 = .ok (.getfield 33, 3) := by decide +kernel
theorem dX4_readNumber_80 : decode cX4_readNumber 80 = .ok (.iload_n 3, 1) := by decide +kernel
theorem dX4_readNumber_81 : decode cX4_readNumber 81 = .ok (.if_icmp .ne 11, 3) := by decide +kernel
theorem dX4_readNumber_84 : decode cX4_readNumber 84 = .ok (.aload_n 0, 1) := by decide +kernel
theorem dX4_readNumber_85 : decode cX4_readNumber 85 = .ok (.aload_n 0, 1) := by decide +kernel
theorem dX4_readNumber_86 : decode cX4_readNumber 86 = .ok (.getfield 33, 3) := by decide +kernel
theorem dX4_readNumber_89 : decode cX4_readNumber 89 = .ok (.invokevirtual 77, 3) := by decide +kernel
theorem dX4_readNumber_92 : decode cX4_readNumber 92 = .ok (.iload 4, 2) := by decide +kernel
theorem dX4_readNumber_94 : decode cX4_readNumber 94 = .ok (.iload_n 1, 1) := by decide +kernel
theorem dX4_readNumber_95 : decode cX4_readNumber 95 = .ok (.iload_n 2, 1) := by decide +kernel
theorem dX4_readNumber_96 : decode cX4_readNumber 96 = .ok (.invokestatic 114, 3) := by decide +kernel
theorem dX4_readNumber_99 : decode cX4_readNumber 99 = .ok (.ifCond .ne 8, 3) := by decide +kernel
theorem dX4_readNumber_102 : decode cX4_readNumber 102 = .ok (.aload_n 0, 1) := by decide +kernel
theorem dX4_readNumber_103 : decode cX4_readNumber 103 = .ok (.iload_n 3, 1) := by decide +kernel
theorem dX4_readNumber_104 : decode cX4_readNumber 104 = .ok (.invokevirtual 77, 3) := by decide +kernel
theorem dX4_readNumber_107 : decode cX4_readNumber 107 = .ok (.iload 4, 2) := by decide +kernel
theorem dX4_readNumber_109 : decode cX4_readNumber 109 = .ok (.ireturn, 1) := by decide +kernel
theorem dX5_leftOf_0 : decode cX5_leftOf 0 = .ok (.aload_n 0, 1) := by decide +kernel
theorem dX5_leftOf_1 : decode cX5_leftOf 1 = .ok (.iload_n 1, 1) := by decide +kernel
theorem dX5_leftOf_2 : decode cX5_leftOf 2 = .ok (.invokevirtual 9, 3) := by decide +kernel
theorem dX5_leftOf_5 : decode cX5_leftOf 5 = .ok (.istore_n 3, 1) := by decide +kernel
theorem dX5_leftOf_6 : decode cX5_leftOf 6 = .ok (.iconst 0, 1) := by decide +kernel
theorem dX5_leftOf_7 : decode cX5_leftOf 7 = .ok (.istore 4, 2) := by decide +kernel
theorem dX5_leftOf_9 : decode cX5_leftOf 9 = .ok (.iload 4, 2) := by decide +kernel
theorem dX5_leftOf_11 : decode cX5_leftOf 11 = .ok (.iload_n 2, 1) := by decide +kernel
theorem dX5_leftOf_12 : decode cX5_leftOf 12 = .ok (.if_icmp .ge 22, 3) := by decide +kernel
theorem dX5_leftOf_15 : decode cX5_leftOf 15 = .ok (.iload_n 3, 1) := by decide +kernel
theorem dX5_leftOf_16 : decode cX5_leftOf 16 = .ok (.iload_n 3, 1) := by decide +kernel
theorem dX5_leftOf_17 : decode cX5_leftOf 17 = .ok (.aload_n 0, 1) := by decide +kernel
theorem dX5_leftOf_18 : decode cX5_leftOf 18 = .ok (.iload_n 1, 1) := by decide +kernel
theorem dX5_leftOf_19 : decode cX5_leftOf 19 = .ok (.invokevirtual 15, 3) := by decide +kernel
theorem dX5_leftOf_22 : decode cX5_leftOf 22 = .ok (.imul, 1) := by decide +kernel
theorem dX5_leftOf_23 : decode cX5_leftOf 23 = .ok (.bipush 10, 2) := by decide +kernel
theorem dX5_leftOf_25 : decode cX5_leftOf 25 = .ok (.idiv, 1) := by decide +kernel
theorem dX5_leftOf_26 : decode cX5_leftOf 26 = .ok (.isub, 1) := by decide +kernel
theorem dX5_leftOf_27 : decode cX5_leftOf 27 = .ok (.istore_n 3, 1) := by decide +kernel
theorem dX5_leftOf_28 : decode cX5_leftOf 28 = .ok (.iinc 4 1, 3) := by decide +kernel
theorem dX5_leftOf_31 : decode cX5_leftOf 31 = .ok (.goto (-22), 3) := by decide +kernel
theorem dX5_leftOf_34 : decode cX5_leftOf 34 = .ok (.iload_n 3, 1) := by decide +kernel
theorem dX5_leftOf_35 : decode cX5_leftOf 35 = .ok (.ireturn, 1) := by decide +kernel
theorem dX5_answersOf_0 : decode cX5_answersOf 0 = .ok (.aload_n 0, 1) := by decide +kernel
theorem dX5_answersOf_1 : decode cX5_answersOf 1 = .ok (.iload_n 1, 1) := by decide +kernel
theorem dX5_answersOf_2 : decode cX5_answersOf 2 = .ok (.invokevirtual 9, 3) := by decide +kernel
theorem dX5_answersOf_5 : decode cX5_answersOf 5 = .ok (.istore_n 3, 1) := by decide +kernel
theorem dX5_answersOf_6 : decode cX5_answersOf 6 = .ok (.iconst 0, 1) := by decide +kernel
theorem dX5_answersOf_7 : decode cX5_answersOf 7 = .ok (.istore 4, 2) := by decide +kernel
theorem dX5_answersOf_9 : decode cX5_answersOf 9 = .ok (.iconst 0, 1) := by decide +kernel
theorem dX5_answersOf_10 : decode cX5_answersOf 10 = .ok (.istore 5, 2) := by decide +kernel
theorem dX5_answersOf_12 : decode cX5_answersOf 12 = .ok (.iload 5, 2) := by decide +kernel
theorem dX5_answersOf_14 : decode cX5_answersOf 14 = .ok (.iload_n 2, 1) := by decide +kernel
theorem dX5_answersOf_15 : decode cX5_answersOf 15 = .ok (.if_icmp .ge 42, 3) := by decide +kernel
theorem dX5_answersOf_18 : decode cX5_answersOf 18 = .ok (.iload_n 3, 1) := by decide +kernel
theorem dX5_answersOf_19 : decode cX5_answersOf 19 = .ok (.aload_n 0, 1) := by decide +kernel
theorem dX5_answersOf_20 : decode cX5_answersOf 20 = .ok (.iload_n 1, 1) := by decide +kernel
theorem dX5_answersOf_21 : decode cX5_answersOf 21 = .ok (.invokevirtual 15, 3) := by decide +kernel
theorem dX5_answersOf_24 : decode cX5_answersOf 24 = .ok (.imul, 1) := by decide +kernel
theorem dX5_answersOf_25 : decode cX5_answersOf 25 = .ok (.bipush 10, 2) := by decide +kernel
theorem dX5_answersOf_27 : decode cX5_answersOf 27 = .ok (.idiv, 1) := by decide +kernel
theorem dX5_answersOf_28 : decode cX5_answersOf 28 = .ok (.istore 6, 2) := by decide +kernel
theorem dX5_answersOf_30 : decode cX5_answersOf 30 = .ok (.iload_n 3, 1) := by decide +kernel
theorem dX5_answersOf_31 : decode cX5_answersOf 31 = .ok (.iload 6, 2) := by decide +kernel
theorem dX5_answersOf_33 : decode cX5_answersOf 33 = .ok (.isub, 1) := by decide +kernel
theorem dX5_answersOf_34 : decode cX5_answersOf 34 = .ok (.istore_n 3, 1) := by decide +kernel
theorem dX5_answersOf_35 : decode cX5_answersOf 35 = .ok (.iload 4, 2) := by decide +kernel
theorem dX5_answersOf_37 : decode cX5_answersOf 37 = .ok (.iload 6, 2) := by decide +kernel
theorem dX5_answersOf_39 : decode cX5_answersOf 39 = .ok (.aload_n 0, 1) := by decide +kernel
theorem dX5_answersOf_40 : decode cX5_answersOf 40 = .ok (.iload_n 1, 1) := by decide +kernel
theorem dX5_answersOf_41 : decode cX5_answersOf 41 = .ok (.invokevirtual 18, 3) := by decide +kernel
theorem dX5_answersOf_44 : decode cX5_answersOf 44 = .ok (.imul, 1) := by decide +kernel
theorem dX5_answersOf_45 : decode cX5_answersOf 45 = .ok (.bipush 10, 2) := by decide +kernel
theorem dX5_answersOf_47 : decode cX5_answersOf 47 = .ok (.idiv, 1) := by decide +kernel
theorem dX5_answersOf_48 : decode cX5_answersOf 48 = .ok (.iadd, 1) := by decide +kernel
theorem dX5_answersOf_49 : decode cX5_answersOf 49 = .ok (.istore 4, 2) := by decide +kernel
theorem dX5_answersOf_51 : decode cX5_answersOf 51 = .ok (.iinc 5 1, 3) := by decide +kernel
theorem dX5_answersOf_54 : decode cX5_answersOf 54 = .ok (.goto (-42), 3) := by decide +kernel
theorem dX5_answersOf_57 : decode cX5_answersOf 57 = .ok (.iload 4, 2) := by decide +kernel
theorem dX5_answersOf_59 : decode cX5_answersOf 59 = .ok (.ireturn, 1) := by decide +kernel
theorem dX5_leftBy_0 : decode cX5_leftBy 0 = .ok (.iconst 0, 1) := by decide +kernel
theorem dX5_leftBy_1 : decode cX5_leftBy 1 = .ok (.istore_n 2, 1) := by decide +kernel
theorem dX5_leftBy_2 : decode cX5_leftBy 2 = .ok (.iconst 0, 1) := by decide +kernel
theorem dX5_leftBy_3 : decode cX5_leftBy 3 = .ok (.istore_n 3, 1) := by decide +kernel
theorem dX5_leftBy_4 : decode cX5_leftBy 4 = .ok (.iload_n 3, 1) := by decide +kernel
theorem dX5_leftBy_5 : decode cX5_leftBy 5 = .ok (.aload_n 0, 1) := by decide +kernel
theorem dX5_leftBy_6 : decode cX5_leftBy 6 = .ok (.getfield 21, 3) := by decide +kernel
theorem dX5_leftBy_9 : decode cX5_leftBy 9 = .ok (.if_icmp .ge 18, 3) := by decide +kernel
theorem dX5_leftBy_12 : decode cX5_leftBy 12 = .ok (.iload_n 2, 1) := by decide +kernel
theorem dX5_leftBy_13 : decode cX5_leftBy 13 = .ok (.aload_n 0, 1) := by decide +kernel
theorem dX5_leftBy_14 : decode cX5_leftBy 14 = .ok (.iload_n 3, 1) := by decide +kernel
theorem dX5_leftBy_15 : decode cX5_leftBy 15 = .ok (.iload_n 1, 1) := by decide +kernel
theorem dX5_leftBy_16 : decode cX5_leftBy 16 = .ok (.invokestatic 25, 3) := by decide +kernel
theorem dX5_leftBy_19 : decode cX5_leftBy 19 = .ok (.iadd, 1) := by decide +kernel
theorem dX5_leftBy_20 : decode cX5_leftBy 20 = .ok (.istore_n 2, 1) := by decide +kernel
theorem dX5_leftBy_21 : decode cX5_leftBy 21 = .ok (.iinc 3 1, 3) := by decide +kernel
theorem dX5_leftBy_24 : decode cX5_leftBy 24 = .ok (.goto (-20), 3) := by decide +kernel
theorem dX5_leftBy_27 : decode cX5_leftBy 27 = .ok (.iload_n 2, 1) := by decide +kernel
theorem dX5_leftBy_28 : decode cX5_leftBy 28 = .ok (.ireturn, 1) := by decide +kernel
theorem dX5_answersBetween_0 : decode cX5_answersBetween 0 = .ok (.iconst 0, 1) := by decide +kernel
theorem dX5_answersBetween_1 : decode cX5_answersBetween 1 = .ok (.istore_n 3, 1) := by decide +kernel
theorem dX5_answersBetween_2 : decode cX5_answersBetween 2 = .ok (.iconst 0, 1) := by decide +kernel
theorem dX5_answersBetween_3 : decode cX5_answersBetween 3 = .ok (.istore 4, 2) := by decide +kernel
theorem dX5_answersBetween_5 : decode cX5_answersBetween 5 = .ok (.iload 4, 2) := by decide +kernel
theorem dX5_answersBetween_7 : decode cX5_answersBetween 7 = .ok (.aload_n 0, 1) := by decide +kernel
theorem dX5_answersBetween_8 : decode cX5_answersBetween 8 = .ok (.getfield 21, 3) := by decide +kernel
theorem dX5_answersBetween_11 : decode cX5_answersBetween 11 = .ok (.if_icmp .ge 27, 3) := by decide +kernel
theorem dX5_answersBetween_14 : decode cX5_answersBetween 14 = .ok (.iload_n 3, 1) := by decide +kernel
theorem dX5_answersBetween_15 : decode cX5_answersBetween 15 = .ok (.aload_n 0, 1) := by decide +kernel
theorem dX5_answersBetween_16 : decode cX5_answersBetween 16 = .ok (.iload 4, 2) := by decide +kernel
theorem dX5_answersBetween_18 : decode cX5_answersBetween 18 = .ok (.iload_n 2, 1) := by decide +kernel
theorem dX5_answersBetween_19 : decode cX5_answersBetween 19 = .ok (.invokestatic 31, 3) := by decide +kernel
theorem dX5_answersBetween_22 : decode cX5_answersBetween 22 = .ok (.aload_n 0, 1) := by decide +kernel
theorem dX5_answersBetween_23 : decode cX5_answersBetween 23 = .ok (.iload 4, 2) := by decide +kernel
theorem dX5_answersBetween_25 : decode cX5_answersBetween 25 = .ok (.iload_n 1, 1) := by decide +kernel
theorem dX5_answersBetween_26 : decode cX5_answersBetween 26 = .ok (.invokestatic 31, 3) := by decide +kernel
theorem dX5_answersBetween_29 : decode cX5_answersBetween 29 = .ok (.isub, 1) := by decide +kernel
theorem dX5_answersBetween_30 : decode cX5_answersBetween 30 = .ok (.iadd, 1) := by decide +kernel
theorem dX5_answersBetween_31 : decode cX5_answersBetween 31 = .ok (.istore_n 3, 1) := by decide +kernel
theorem dX5_answersBetween_32 : decode cX5_answersBetween 32 = .ok (.iinc 4 1, 3) := by decide +kernel
theorem dX5_answersBetween_35 : decode cX5_answersBetween 35 = .ok (.goto (-30), 3) := by decide +kernel
theorem dX5_answersBetween_38 : decode cX5_answersBetween 38 = .ok (.iload_n 3, 1) := by decide +kernel
theorem dX5_answersBetween_39 : decode cX5_answersBetween 39 = .ok (.ireturn, 1) := by decide +kernel
theorem dX5_shareBetween_0 : decode cX5_shareBetween 0 = .ok (.iconst 0, 1) := by decide +kernel
theorem dX5_shareBetween_1 : decode cX5_shareBetween 1 = .ok (.istore 4, 2) := by decide +kernel
theorem dX5_shareBetween_3 : decode cX5_shareBetween 3 = .ok (.iconst 0, 1) := by decide +kernel
theorem dX5_shareBetween_4 : decode cX5_shareBetween 4 = .ok (.istore 5, 2) := by decide +kernel
theorem dX5_shareBetween_6 : decode cX5_shareBetween 6 = .ok (.iload 5, 2) := by decide +kernel
theorem dX5_shareBetween_8 : decode cX5_shareBetween 8 = .ok (.aload_n 0, 1) := by decide +kernel
theorem dX5_shareBetween_9 : decode cX5_shareBetween 9 = .ok (.getfield 21, 3) := by decide +kernel
theorem dX5_shareBetween_12 : decode cX5_shareBetween 12 = .ok (.if_icmp .ge 36, 3) := by decide +kernel
theorem dX5_shareBetween_15 : decode cX5_shareBetween 15 = .ok (.iload 4, 2) := by decide +kernel
theorem dX5_shareBetween_17 : decode cX5_shareBetween 17 = .ok (.aload_n 0, 1) := by decide +kernel
theorem dX5_shareBetween_18 : decode cX5_shareBetween 18 = .ok (.iload_n 1, 1) := by decide +kernel
theorem dX5_shareBetween_19 : decode cX5_shareBetween 19 = .ok (.iload 5, 2) := by decide +kernel
theorem dX5_shareBetween_21 : decode cX5_shareBetween 21 = .ok (.aload_n 0, 1) := by decide +kernel
theorem dX5_shareBetween_22 : decode cX5_shareBetween 22 = .ok (.iload 5, 2) := by decide +kernel
theorem dX5_shareBetween_24 : decode cX5_shareBetween 24 = .ok (.iload_n 3, 1) := by decide +kernel
theorem dX5_shareBetween_25 : decode cX5_shareBetween 25 = .ok (.invokestatic 31, 3) := by decide +kernel
theorem dX5_shareBetween_28 : decode cX5_shareBetween 28 = .ok (.aload_n 0, 1) := by decide +kernel
theorem dX5_shareBetween_29 : decode cX5_shareBetween 29 = .ok (.iload 5, 2) := by decide +kernel
theorem dX5_shareBetween_31 : decode cX5_shareBetween 31 = .ok (.iload_n 2, 1) := by decide +kernel
theorem dX5_shareBetween_32 : decode cX5_shareBetween 32 = .ok (.invokestatic 31, 3) := by decide +kernel
theorem dX5_shareBetween_35 : decode cX5_shareBetween 35 = .ok (.isub, 1) := by decide +kernel
theorem dX5_shareBetween_36 : decode cX5_shareBetween 36 = .ok (.invokevirtual 34, 3) := by decide +kernel
theorem dX5_shareBetween_39 : decode cX5_shareBetween 39 = .ok (.iadd, 1) := by decide +kernel
theorem dX5_shareBetween_40 : decode cX5_shareBetween 40 = .ok (.istore 4, 2) := by decide +kernel
theorem dX5_shareBetween_42 : decode cX5_shareBetween 42 = .ok (.iinc 5 1, 3) := by decide +kernel
theorem dX5_shareBetween_45 : decode cX5_shareBetween 45 = .ok (.goto (-39), 3) := by decide +kernel
theorem dX5_shareBetween_48 : decode cX5_shareBetween 48 = .ok (.iload 4, 2) := by decide +kernel
theorem dX5_shareBetween_50 : decode cX5_shareBetween 50 = .ok (.aload_n 0, 1) := by decide +kernel
theorem dX5_shareBetween_51 : decode cX5_shareBetween 51 = .ok (.iload_n 2, 1) := by decide +kernel
theorem dX5_shareBetween_52 : decode cX5_shareBetween 52 = .ok (.iload_n 3, 1) := by decide +kernel
theorem dX5_shareBetween_53 : decode cX5_shareBetween 53 = .ok (.invokestatic 38, 3) := by decide +kernel
theorem dX5_shareBetween_56 : decode cX5_shareBetween 56 = .ok (.invokestatic 41, 3) := by decide +kernel
theorem dX5_shareBetween_59 : decode cX5_shareBetween 59 = .ok (.ireturn, 1) := by decide +kernel
theorem dX5_offBy_0 : decode cX5_offBy 0 = .ok (.aload_n 0, 1) := by decide +kernel
theorem dX5_offBy_1 : decode cX5_offBy 1 = .ok (.iload_n 1, 1) := by decide +kernel
theorem dX5_offBy_2 : decode cX5_offBy 2 = .ok (.iconst 0, 1) := by decide +kernel
theorem dX5_offBy_3 : decode cX5_offBy 3 = .ok (.iload_n 2, 1) := by decide +kernel
theorem dX5_offBy_4 : decode cX5_offBy 4 = .ok (.invokestatic 45, 3) := by decide +kernel
theorem dX5_offBy_7 : decode cX5_offBy 7 = .ok (.aload_n 0, 1) := by decide +kernel
theorem dX5_offBy_8 : decode cX5_offBy 8 = .ok (.iload_n 1, 1) := by decide +kernel
theorem dX5_offBy_9 : decode cX5_offBy 9 = .ok (.sipush 1023, 3) := by decide +kernel
theorem dX5_offBy_12 : decode cX5_offBy 12 = .ok (.invokevirtual 49, 3) := by decide +kernel
theorem dX5_offBy_15 : decode cX5_offBy 15 = .ok (.isub, 1) := by decide +kernel
theorem dX5_offBy_16 : decode cX5_offBy 16 = .ok (.ireturn, 1) := by decide +kernel
theorem dX5_costOf_0 : decode cX5_costOf 0 = .ok (.iconst 0, 1) := by decide +kernel
theorem dX5_costOf_1 : decode cX5_costOf 1 = .ok (.istore_n 2, 1) := by decide +kernel
theorem dX5_costOf_2 : decode cX5_costOf 2 = .ok (.iconst 0, 1) := by decide +kernel
theorem dX5_costOf_3 : decode cX5_costOf 3 = .ok (.istore_n 3, 1) := by decide +kernel
theorem dX5_costOf_4 : decode cX5_costOf 4 = .ok (.iload_n 3, 1) := by decide +kernel
theorem dX5_costOf_5 : decode cX5_costOf 5 = .ok (.iload_n 1, 1) := by decide +kernel
theorem dX5_costOf_6 : decode cX5_costOf 6 = .ok (.if_icmp .ge 17, 3) := by decide +kernel
theorem dX5_costOf_9 : decode cX5_costOf 9 = .ok (.iload_n 2, 1) := by decide +kernel
theorem dX5_costOf_10 : decode cX5_costOf 10 = .ok (.aload_n 0, 1) := by decide +kernel
theorem dX5_costOf_11 : decode cX5_costOf 11 = .ok (.iload_n 3, 1) := by decide +kernel
theorem dX5_costOf_12 : decode cX5_costOf 12 = .ok (.invokestatic 52, 3) := by decide +kernel
theorem dX5_costOf_15 : decode cX5_costOf 15 = .ok (.iadd, 1) := by decide +kernel
theorem dX5_costOf_16 : decode cX5_costOf 16 = .ok (.istore_n 2, 1) := by decide +kernel
theorem dX5_costOf_17 : decode cX5_costOf 17 = .ok (.iinc 3 1, 3) := by decide +kernel
theorem dX5_costOf_20 : decode cX5_costOf 20 = .ok (.goto (-16), 3) := by decide +kernel
theorem dX5_costOf_23 : decode cX5_costOf 23 = .ok (.aload_n 0, 1) := by decide +kernel
theorem dX5_costOf_24 : decode cX5_costOf 24 = .ok (.getfield 56, 3) := by decide +kernel
theorem dX5_costOf_27 : decode cX5_costOf 27 = .ok (.iload_n 2, 1) := by decide +kernel
theorem dX5_costOf_28 : decode cX5_costOf 28 = .ok (.imul, 1) := by decide +kernel
theorem dX5_costOf_29 : decode cX5_costOf 29 = .ok (.ireturn, 1) := by decide +kernel
theorem dX5_enoughFor_0 : decode cX5_enoughFor 0 = .ok (.iconst 0, 1) := by decide +kernel
theorem dX5_enoughFor_1 : decode cX5_enoughFor 1 = .ok (.istore_n 3, 1) := by decide +kernel
theorem dX5_enoughFor_2 : decode cX5_enoughFor 2 = .ok (.iload_n 3, 1) := by decide +kernel
theorem dX5_enoughFor_3 : decode cX5_enoughFor 3 = .ok (.bipush 9, 2) := by decide +kernel
theorem dX5_enoughFor_5 : decode cX5_enoughFor 5 = .ok (.if_icmp .gt 24, 3) := by decide +kernel
theorem dX5_enoughFor_8 : decode cX5_enoughFor 8 = .ok (.aload_n 0, 1) := by decide +kernel
theorem dX5_enoughFor_9 : decode cX5_enoughFor 9 = .ok (.iload_n 1, 1) := by decide +kernel
theorem dX5_enoughFor_10 : decode cX5_enoughFor 10 = .ok (.iload_n 3, 1) := by decide +kernel
theorem dX5_enoughFor_11 : decode cX5_enoughFor 11 = .ok (.invokestatic 59, 3) := by decide +kernel
theorem dX5_enoughFor_14 : decode cX5_enoughFor 14 = .ok (.invokestatic 62, 3) := by decide +kernel
theorem dX5_enoughFor_17 : decode cX5_enoughFor 17 = .ok (.iload_n 2, 1) := by decide +kernel
theorem dX5_enoughFor_18 : decode cX5_enoughFor 18 = .ok (.if_icmp .gt 5, 3) := by decide +kernel
theorem dX5_enoughFor_21 : decode cX5_enoughFor 21 = .ok (.iload_n 3, 1) := by decide +kernel
theorem dX5_enoughFor_22 : decode cX5_enoughFor 22 = .ok (.ireturn, 1) := by decide +kernel
theorem dX5_enoughFor_23 : decode cX5_enoughFor 23 = .ok (.iinc 3 1, 3) := by decide +kernel
theorem dX5_enoughFor_26 : decode cX5_enoughFor 26 = .ok (.goto (-24), 3) := by decide +kernel
theorem dX5_enoughFor_29 : decode cX5_enoughFor 29 = .ok (.iconst (-1), 1) := by decide +kernel
theorem dX5_enoughFor_30 : decode cX5_enoughFor 30 = .ok (.ireturn, 1) := by decide +kernel
theorem dX5_finest_0 : decode cX5_finest 0 = .ok (.ldc 67, 2) := by decide +kernel
theorem dX5_finest_2 : decode cX5_finest 2 = .ok (.istore_n 3, 1) := by decide +kernel
theorem dX5_finest_3 : decode cX5_finest 3 = .ok (.iconst 0, 1) := by decide +kernel
theorem dX5_finest_4 : decode cX5_finest 4 = .ok (.istore 4, 2) := by decide +kernel
theorem dX5_finest_6 : decode cX5_finest 6 = .ok (.iconst 0, 1) := by decide +kernel
theorem dX5_finest_7 : decode cX5_finest 7 = .ok (.istore 5, 2) := by decide +kernel
theorem dX5_finest_9 : decode cX5_finest 9 = .ok (.iload 5, 2) := by decide +kernel
theorem dX5_finest_11 : decode cX5_finest 11 = .ok (.bipush 9, 2) := by decide +kernel
theorem dX5_finest_13 : decode cX5_finest 13 = .ok (.if_icmp .gt 44, 3) := by decide +kernel
theorem dX5_finest_16 : decode cX5_finest 16 = .ok (.aload_n 0, 1) := by decide +kernel
theorem dX5_finest_17 : decode cX5_finest 17 = .ok (.iload_n 1, 1) := by decide +kernel
theorem dX5_finest_18 : decode cX5_finest 18 = .ok (.iload 5, 2) := by decide +kernel
theorem dX5_finest_20 : decode cX5_finest 20 = .ok (.invokestatic 59, 3) := by decide +kernel
theorem dX5_finest_23 : decode cX5_finest 23 = .ok (.invokestatic 62, 3) := by decide +kernel
theorem dX5_finest_26 : decode cX5_finest 26 = .ok (.istore 6, 2) := by decide +kernel
theorem dX5_finest_28 : decode cX5_finest 28 = .ok (.aload_n 0, 1) := by decide +kernel
theorem dX5_finest_29 : decode cX5_finest 29 = .ok (.iload 5, 2) := by decide +kernel
theorem dX5_finest_31 : decode cX5_finest 31 = .ok (.invokestatic 68, 3) := by decide +kernel
theorem dX5_finest_34 : decode cX5_finest 34 = .ok (.iload_n 2, 1) := by decide +kernel
theorem dX5_finest_35 : decode cX5_finest 35 = .ok (.if_icmp .gt 16, 3) := by decide +kernel
theorem dX5_finest_38 : decode cX5_finest 38 = .ok (.iload 6, 2) := by decide +kernel
theorem dX5_finest_40 : decode cX5_finest 40 = .ok (.iload_n 3, 1) := by decide +kernel
theorem dX5_finest_41 : decode cX5_finest 41 = .ok (.if_icmp .ge 10, 3) := by decide +kernel
theorem dX5_finest_44 : decode cX5_finest 44 = .ok (.iload 6, 2) := by decide +kernel
theorem dX5_finest_46 : decode cX5_finest 46 = .ok (.istore_n 3, 1) := by decide +kernel
theorem dX5_finest_47 : decode cX5_finest 47 = .ok (.iload 5, 2) := by decide +kernel
theorem dX5_finest_49 : decode cX5_finest 49 = .ok (.istore 4, 2) := by decide +kernel
theorem dX5_finest_51 : decode cX5_finest 51 = .ok (.iinc 5 1, 3) := by decide +kernel
theorem dX5_finest_54 : decode cX5_finest 54 = .ok (.goto (-45), 3) := by decide +kernel
theorem dX5_finest_57 : decode cX5_finest 57 = .ok (.iload 4, 2) := by decide +kernel
theorem dX5_finest_59 : decode cX5_finest 59 = .ok (.ireturn, 1) := by decide +kernel
theorem dX5_groupsThatNeverAnswer_0 : decode cX5_groupsThatNeverAnswer 0 = .ok (.iconst 0, 1) := by decide +kernel
theorem dX5_groupsThatNeverAnswer_1 : decode cX5_groupsThatNeverAnswer 1 = .ok (.istore_n 1, 1) := by decide +kernel
theorem dX5_groupsThatNeverAnswer_2 : decode cX5_groupsThatNeverAnswer 2 = .ok (.iconst 0, 1) := by decide +kernel
theorem dX5_groupsThatNeverAnswer_3 : decode cX5_groupsThatNeverAnswer 3 = .ok (.istore_n 2, 1) := by decide +kernel
theorem dX5_groupsThatNeverAnswer_4 : decode cX5_groupsThatNeverAnswer 4 = .ok (.iload_n 2, 1) := by decide +kernel
theorem dX5_groupsThatNeverAnswer_5 : decode cX5_groupsThatNeverAnswer 5 = .ok (.aload_n 0, 1) := by decide +kernel
theorem dX5_groupsThatNeverAnswer_6 : decode cX5_groupsThatNeverAnswer 6 = .ok (.getfield 21, 3) := by decide +kernel
theorem dX5_groupsThatNeverAnswer_9 : decode cX5_groupsThatNeverAnswer 9 = .ok (.if_icmp .ge 25, 3) := by decide +kernel
theorem dX5_groupsThatNeverAnswer_12 : decode cX5_groupsThatNeverAnswer 12 = .ok (.aload_n 0, 1) := by decide +kernel
theorem dX5_groupsThatNeverAnswer_13 : decode cX5_groupsThatNeverAnswer 13 = .ok (.iload_n 2, 1) := by decide +kernel
theorem dX5_groupsThatNeverAnswer_14 : decode cX5_groupsThatNeverAnswer 14 = .ok (.bipush 9, 2) := by decide +kernel
theorem dX5_groupsThatNeverAnswer_16 : decode cX5_groupsThatNeverAnswer 16 = .ok (.invokestatic 31, 3) := by decide +kernel
theorem dX5_groupsThatNeverAnswer_19 : decode cX5_groupsThatNeverAnswer 19 = .ok (.ifCond .ne 9, 3) := by decide +kernel
theorem dX5_groupsThatNeverAnswer_22 : decode cX5_groupsThatNeverAnswer 22 = .ok (.iload_n 1, 1) := by decide +kernel
theorem dX5_groupsThatNeverAnswer_23 : decode cX5_groupsThatNeverAnswer 23 = .ok (.iconst 1, 1) := by decide +kernel
theorem dX5_groupsThatNeverAnswer_24 : decode cX5_groupsThatNeverAnswer 24 = .ok (.iload_n 2, 1) := by decide +kernel
theorem dX5_groupsThatNeverAnswer_25 : decode cX5_groupsThatNeverAnswer 25 = .ok (.ishl, 1) := by decide +kernel
theorem dX5_groupsThatNeverAnswer_26 : decode cX5_groupsThatNeverAnswer 26 = .ok (.ior, 1) := by decide +kernel
theorem dX5_groupsThatNeverAnswer_27 : decode cX5_groupsThatNeverAnswer 27 = .ok (.istore_n 1, 1) := by decide +kernel
theorem dX5_groupsThatNeverAnswer_28 : decode cX5_groupsThatNeverAnswer 28 = .ok (.iinc 2 1, 3) := by decide +kernel
theorem dX5_groupsThatNeverAnswer_31 : decode cX5_groupsThatNeverAnswer 31 = .ok (.goto (-27), 3) := by decide +kernel
theorem dX5_groupsThatNeverAnswer_34 : decode cX5_groupsThatNeverAnswer 34 = .ok (.iload_n 1, 1) := by decide +kernel
theorem dX5_groupsThatNeverAnswer_35 : decode cX5_groupsThatNeverAnswer 35 = .ok (.ireturn, 1) := by decide +kernel
theorem dX6_init_0 : decode cX6_init 0 = .ok (.aload_n 0, 1) := by decide +kernel
theorem dX6_init_1 : decode cX6_init 1 = .ok (.invokespecial 1, 3) := by decide +kernel
theorem dX6_init_4 : decode cX6_init 4 = .ok (.aload_n 0, 1) := by decide +kernel
theorem dX6_init_5 : decode cX6_init 5 = .ok (.new 7, 3) := by decide +kernel
theorem dX6_init_8 : decode cX6_init 8 = .ok (.dup, 1) := by decide +kernel
theorem dX6_init_9 : decode cX6_init 9 = .ok (.invokespecial 9, 3) := by decide +kernel
theorem dX6_init_12 : decode cX6_init 12 = .ok (.putfield 10, 3) := by decide +kernel
theorem dX6_init_15 : decode cX6_init 15 = .ok (.aload_n 0, 1) := by decide +kernel
theorem dX6_init_16 : decode cX6_init 16 = .ok (.new 7, 3) := by decide +kernel
theorem dX6_init_19 : decode cX6_init 19 = .ok (.dup, 1) := by decide +kernel
theorem dX6_init_20 : decode cX6_init 20 = .ok (.invokespecial 9, 3) := by decide +kernel
theorem dX6_init_23 : decode cX6_init 23 = .ok (.putfield 16, 3) := by decide +kernel
theorem dX6_init_26 : decode cX6_init 26 = .ok (.aload_n 0, 1) := by decide +kernel
theorem dX6_init_27 : decode cX6_init 27 = .ok (.new 19, 3) := by decide +kernel
theorem dX6_init_30 : decode cX6_init 30 = .ok (.dup, 1) := by decide +kernel
theorem dX6_init_31 : decode cX6_init 31 = .ok (.invokespecial 21, 3) := by decide +kernel
theorem dX6_init_34 : decode cX6_init 34 = .ok (.putfield 22, 3) := by decide +kernel
theorem dX6_init_37 : decode cX6_init 37 = .ok (.aload_n 0, 1) := by decide +kernel
theorem dX6_init_38 : decode cX6_init 38 = .ok (.new 26, 3) := by decide +kernel
theorem dX6_init_41 : decode cX6_init 41 = .ok (.dup, 1) := by decide +kernel
theorem dX6_init_42 : decode cX6_init 42 = .ok (.invokespecial 28, 3) := by decide +kernel
theorem dX6_init_45 : decode cX6_init 45 = .ok (.putfield 29, 3) := by decide +kernel
theorem dX6_init_48 : decode cX6_init 48 = .ok (.aload_n 0, 1) := by decide +kernel
theorem dX6_init_49 : decode cX6_init 49 = .ok (.new 33, 3) := by decide +kernel
theorem dX6_init_52 : decode cX6_init 52 = .ok (.dup, 1) := by decide +kernel
theorem dX6_init_53 : decode cX6_init 53 = .ok (.invokespecial 35, 3) := by decide +kernel
theorem dX6_init_56 : decode cX6_init 56 = .ok (.putfield 36, 3) := by decide +kernel
theorem dX6_init_59 : decode cX6_init 59 = .ok (.aload_n 0, 1) := by decide +kernel
theorem dX6_init_60 : decode cX6_init 60 = .ok (.new 40, 3) := by decide +kernel
theorem dX6_init_63 : decode cX6_init 63 = .ok (.dup, 1) := by decide +kernel
theorem dX6_init_64 : decode cX6_init 64 = .ok (.invokespecial 42, 3) := by decide +kernel
theorem dX6_init_67 : decode cX6_init 67 = .ok (.putfield 43, 3) := by decide +kernel
theorem dX6_init_70 : decode cX6_init 70 = .ok (.aload_n 0, 1) := by decide +kernel
theorem dX6_init_71 : decode cX6_init 71 = .ok (.bipush 8, 2) := by decide +kernel
theorem dX6_init_73 : decode cX6_init 73 = .ok (.newarray .int, 2) := by decide +kernel
theorem dX6_init_75 : decode cX6_init 75 = .ok (.putfield 47, 3) := by decide +kernel
theorem dX6_init_78 : decode cX6_init 78 = .ok (.aload_n 0, 1) := by decide +kernel
theorem dX6_init_79 : decode cX6_init 79 = .ok (.iconst (-1), 1) := by decide +kernel
theorem dX6_init_80 : decode cX6_init 80 = .ok (.putfield 51, 3) := by decide +kernel
theorem dX6_init_83 : decode cX6_init 83 = .ok (.return_, 1) := by decide +kernel
theorem dX6_row_0 : decode cX6_row 0 = .ok (.iload_n 1, 1) := by decide +kernel
theorem dX6_row_1 : decode cX6_row 1 = .ok (.invokestatic 55, 3) := by decide +kernel
theorem dX6_row_4 : decode cX6_row 4 = .ok (.ifCond .ne 9, 3) := by decide +kernel
theorem dX6_row_7 : decode cX6_row 7 = .ok (.aload_n 0, 1) := by decide +kernel
theorem dX6_row_8 : decode cX6_row 8 = .ok (.iconst (-1), 1) := by decide +kernel
theorem dX6_row_9 : decode cX6_row 9 = .ok (.invokevirtual 59, 3) := by decide +kernel
theorem dX6_row_12 : decode cX6_row 12 = .ok (.ireturn, 1) := by decide +kernel
theorem dX6_row_13 : decode cX6_row 13 = .ok (.iload_n 3, 1) := by decide +kernel
theorem dX6_row_14 : decode cX6_row 14 = .ok (.ifCond .ge 10, 3) := by decide +kernel
theorem dX6_row_17 : decode cX6_row 17 = .ok (.aload_n 0, 1) := by decide +kernel
theorem dX6_row_18 : decode cX6_row 18 = .ok (.bipush (-4), 2) := by decide +kernel
theorem dX6_row_20 : decode cX6_row 20 = .ok (.invokevirtual 59, 3) := by decide +kernel
theorem dX6_row_23 : decode cX6_row 23 = .ok (.ireturn, 1) := by decide +kernel
theorem dX6_row_24 : decode cX6_row 24 = .ok (.iload_n 2, 1) := by decide +kernel
theorem dX6_row_25 : decode cX6_row 25 = .ok (.iconst 0, 1) := by decide +kernel
theorem dX6_row_26 : decode cX6_row 26 = .ok (.iconst 3, 1) := by decide +kernel
theorem dX6_row_27 : decode cX6_row 27 = .ok (.invokestatic 63, 3) := by decide +kernel
theorem dX6_row_30 : decode cX6_row 30 = .ok (.ifCond .ne 10, 3) := by decide +kernel
theorem dX6_row_33 : decode cX6_row 33 = .ok (.aload_n 0, 1) := by decide +kernel
theorem dX6_row_34 : decode cX6_row 34 = .ok (.bipush (-6), 2) := by decide +kernel
theorem dX6_row_36 : decode cX6_row 36 = .ok (.invokevirtual 59, 3) := by decide +kernel
theorem dX6_row_39 : decode cX6_row 39 = .ok (.ireturn, 1) := by decide +kernel
theorem dX6_row_40 : decode cX6_row 40 = .ok (.iload_n 3, 1) := by decide +kernel
theorem dX6_row_41 : decode cX6_row 41 = .ok (.sipush 160, 3) := by decide +kernel
theorem dX6_row_44 : decode cX6_row 44 = .ok (.if_icmp .le 10, 3) := by decide +kernel
theorem dX6_row_47 : decode cX6_row 47 = .ok (.aload_n 0, 1) := by decide +kernel
theorem dX6_row_48 : decode cX6_row 48 = .ok (.bipush (-7), 2) := by decide +kernel
theorem dX6_row_50 : decode cX6_row 50 = .ok (.invokevirtual 59, 3) := by decide +kernel
theorem dX6_row_53 : decode cX6_row 53 = .ok (.ireturn, 1) := by decide +kernel
theorem dX6_row_54 : decode cX6_row 54 = .ok (.aload_n 0, 1) := by decide +kernel
theorem dX6_row_55 : decode cX6_row 55 = .ok (.getfield 29, 3) := by decide +kernel
theorem dX6_row_58 : decode cX6_row 58 = .ok (.iload_n 1, 1) := by decide +kernel
theorem dX6_row_59 : decode cX6_row 59 = .ok (.iload_n 2, 1) := by decide +kernel
theorem dX6_row_60 : decode cX6_row 60 = .ok (.iload_n 3, 1) := by decide +kernel
theorem dX6_row_61 : decode cX6_row 61 = .ok (.invokevirtual 67, 3) := by decide +kernel
theorem dX6_row_64 : decode cX6_row 64 = .ok (.iconst 1, 1) := by decide +kernel
theorem dX6_row_65 : decode cX6_row 65 = .ok (.ireturn, 1) := by decide +kernel
theorem dX6_set_0 : decode cX6_set 0 = .ok (.aload_n 0, 1) := by decide +kernel
theorem dX6_set_1 : decode cX6_set 1 = .ok (.getfield 29, 3) := by decide +kernel
theorem dX6_set_4 : decode cX6_set 4 = .ok (.iload_n 1, 1) := by decide +kernel
theorem dX6_set_5 : decode cX6_set 5 = .ok (.invokevirtual 71, 3) := by decide +kernel
theorem dX6_set_8 : decode cX6_set 8 = .ok (.istore 5, 2) := by decide +kernel
theorem dX6_set_10 : decode cX6_set 10 = .ok (.iload 5, 2) := by decide +kernel
theorem dX6_set_12 : decode cX6_set 12 = .ok (.ifCond .eq 10, 3) := by decide +kernel
theorem dX6_set_15 : decode cX6_set 15 = .ok (.aload_n 0, 1) := by decide +kernel
theorem dX6_set_16 : decode cX6_set 16 = .ok (.iload 5, 2) := by decide +kernel
theorem dX6_set_18 : decode cX6_set 18 = .ok (.invokevirtual 59, 3) := by decide +kernel
theorem dX6_set_21 : decode cX6_set 21 = .ok (.ireturn, 1) := by decide +kernel
theorem dX6_set_22 : decode cX6_set 22 = .ok (.aload_n 0, 1) := by decide +kernel
theorem dX6_set_23 : decode cX6_set 23 = .ok (.getfield 29, 3) := by decide +kernel
theorem dX6_set_26 : decode cX6_set 26 = .ok (.iload_n 1, 1) := by decide +kernel
theorem dX6_set_27 : decode cX6_set 27 = .ok (.iload_n 2, 1) := by decide +kernel
theorem dX6_set_28 : decode cX6_set 28 = .ok (.iconst 1, 1) := by decide +kernel
theorem dX6_set_29 : decode cX6_set 29 = .ok (.invokevirtual 74, 3) := by decide +kernel
theorem dX6_set_32 : decode cX6_set 32 = .ok (.ifCond .ne 10, 3) := by decide +kernel
theorem dX6_set_35 : decode cX6_set 35 = .ok (.aload_n 0, 1) := by decide +kernel
theorem dX6_set_36 : decode cX6_set 36 = .ok (.bipush (-5), 2) := by decide +kernel
theorem dX6_set_38 : decode cX6_set 38 = .ok (.invokevirtual 59, 3) := by decide +kernel
theorem dX6_set_41 : decode cX6_set 41 = .ok (.ireturn, 1) := by decide +kernel
theorem dX6_set_42 : decode cX6_set 42 = .ok (.aload_n 0, 1) := by decide +kernel
theorem dX6_set_43 : decode cX6_set 43 = .ok (.getfield 29, 3) := by decide +kernel
theorem dX6_set_46 : decode cX6_set 46 = .ok (.iload_n 1, 1) := by decide +kernel
theorem dX6_set_47 : decode cX6_set 47 = .ok (.iload_n 2, 1) := by decide +kernel
theorem dX6_set_48 : decode cX6_set 48 = .ok (.lload_n 3, 1) := by decide +kernel
theorem dX6_set_49 : decode cX6_set 49 = .ok (.invokevirtual 77, 3) := by decide +kernel
theorem dX6_set_52 : decode cX6_set 52 = .ok (.iconst 1, 1) := by decide +kernel
theorem dX6_set_53 : decode cX6_set 53 = .ok (.ireturn, 1) := by decide +kernel
theorem dX6_copy_0 : decode cX6_copy 0 = .ok (.aload_n 0, 1) := by decide +kernel
theorem dX6_copy_1 : decode cX6_copy 1 = .ok (.getfield 29, 3) := by decide +kernel
theorem dX6_copy_4 : decode cX6_copy 4 = .ok (.iload_n 1, 1) := by decide +kernel
theorem dX6_copy_5 : decode cX6_copy 5 = .ok (.iload_n 2, 1) := by decide +kernel
theorem dX6_copy_6 : decode cX6_copy 6 = .ok (.invokevirtual 81, 3) := by decide +kernel
theorem dX6_copy_9 : decode cX6_copy 9 = .ok (.istore 6, 2) := by decide +kernel
theorem dX6_copy_11 : decode cX6_copy 11 = .ok (.iload 6, 2) := by decide +kernel
theorem dX6_copy_13 : decode cX6_copy 13 = .ok (.ifCond .eq 10, 3) := by decide +kernel
theorem dX6_copy_16 : decode cX6_copy 16 = .ok (.aload_n 0, 1) := by decide +kernel
theorem dX6_copy_17 : decode cX6_copy 17 = .ok (.iload 6, 2) := by decide +kernel
theorem dX6_copy_19 : decode cX6_copy 19 = .ok (.invokevirtual 59, 3) := by decide +kernel
theorem dX6_copy_22 : decode cX6_copy 22 = .ok (.ireturn, 1) := by decide +kernel
theorem dX6_copy_23 : decode cX6_copy 23 = .ok (.iload 5, 2) := by decide +kernel
theorem dX6_copy_25 : decode cX6_copy 25 = .ok (.ifCond .ge 10, 3) := by decide +kernel
theorem dX6_copy_28 : decode cX6_copy 28 = .ok (.aload_n 0, 1) := by decide +kernel
theorem dX6_copy_29 : decode cX6_copy 29 = .ok (.bipush (-4), 2) := by decide +kernel
theorem dX6_copy_31 : decode cX6_copy 31 = .ok (.invokevirtual 59, 3) := by decide +kernel
theorem dX6_copy_34 : decode cX6_copy 34 = .ok (.ireturn, 1) := by decide +kernel
theorem dX6_copy_35 : decode cX6_copy 35 = .ok (.aload_n 0, 1) := by decide +kernel
theorem dX6_copy_36 : decode cX6_copy 36 = .ok (.getfield 29, 3) := by decide +kernel
theorem dX6_copy_39 : decode cX6_copy 39 = .ok (.iload_n 1, 1) := by decide +kernel
theorem dX6_copy_40 : decode cX6_copy 40 = .ok (.iload_n 3, 1) := by decide +kernel
theorem dX6_copy_41 : decode cX6_copy 41 = .ok (.iload 5, 2) := by decide +kernel
theorem dX6_copy_43 : decode cX6_copy 43 = .ok (.invokevirtual 74, 3) := by decide +kernel
theorem dX6_copy_46 : decode cX6_copy 46 = .ok (.ifCond .eq 18, 3) := by decide +kernel
theorem dX6_copy_49 : decode cX6_copy 49 = .ok (.aload_n 0, 1) := by decide +kernel
theorem dX6_copy_50 : decode cX6_copy 50 = .ok (.getfield 29, 3) := by decide +kernel
theorem dX6_copy_53 : decode cX6_copy 53 = .ok (.iload_n 2, 1) := by decide +kernel
theorem dX6_copy_54 : decode cX6_copy 54 = .ok (.iload 4, 2) := by decide +kernel
theorem dX6_copy_56 : decode cX6_copy 56 = .ok (.iload 5, 2) := by decide +kernel
theorem dX6_copy_58 : decode cX6_copy 58 = .ok (.invokevirtual 74, 3) := by decide +kernel
theorem dX6_copy_61 : decode cX6_copy 61 = .ok (.ifCond .ne 10, 3) := by decide +kernel
theorem dX6_copy_64 : decode cX6_copy 64 = .ok (.aload_n 0, 1) := by decide +kernel
theorem dX6_copy_65 : decode cX6_copy 65 = .ok (.bipush (-5), 2) := by decide +kernel
theorem dX6_copy_67 : decode cX6_copy 67 = .ok (.invokevirtual 59, 3) := by decide +kernel
theorem dX6_copy_70 : decode cX6_copy 70 = .ok (.ireturn, 1) := by decide +kernel
theorem dX6_copy_71 : decode cX6_copy 71 = .ok (.aload_n 0, 1) := by decide +kernel
theorem dX6_copy_72 : decode cX6_copy 72 = .ok (.getfield 29, 3) := by decide +kernel
theorem dX6_copy_75 : decode cX6_copy 75 = .ok (.iload_n 1, 1) := by decide +kernel
theorem dX6_copy_76 : decode cX6_copy 76 = .ok (.iload_n 2, 1) := by decide +kernel
theorem dX6_copy_77 : decode cX6_copy 77 = .ok (.iload_n 3, 1) := by decide +kernel
theorem dX6_copy_78 : decode cX6_copy 78 = .ok (.iload 4, 2) := by decide +kernel
theorem dX6_copy_80 : decode cX6_copy 80 = .ok (.iload 5, 2) := by decide +kernel
theorem dX6_copy_82 : decode cX6_copy 82 = .ok (.invokevirtual 85, 3) := by decide +kernel
theorem dX6_copy_85 : decode cX6_copy 85 = .ok (.iconst 1, 1) := by decide +kernel
theorem dX6_copy_86 : decode cX6_copy 86 = .ok (.ireturn, 1) := by decide +kernel
theorem dX6_element_0 : decode cX6_element 0 = .ok (.aload_n 0, 1) := by decide +kernel
theorem dX6_element_1 : decode cX6_element 1 = .ok (.getfield 29, 3) := by decide +kernel
theorem dX6_element_4 : decode cX6_element 4 = .ok (.iload_n 1, 1) := by decide +kernel
theorem dX6_element_5 : decode cX6_element 5 = .ok (.invokevirtual 71, 3) := by decide +kernel
theorem dX6_element_8 : decode cX6_element 8 = .ok (.ifCond .ne 16, 3) := by decide +kernel
theorem dX6_element_11 : decode cX6_element 11 = .ok (.aload_n 0, 1) := by decide +kernel
theorem dX6_element_12 : decode cX6_element 12 = .ok (.getfield 29, 3) := by decide +kernel
theorem dX6_element_15 : decode cX6_element 15 = .ok (.iload_n 1, 1) := by decide +kernel
theorem dX6_element_16 : decode cX6_element 16 = .ok (.iload_n 2, 1) := by decide +kernel
theorem dX6_element_17 : decode cX6_element 17 = .ok (.iconst 1, 1) := by decide +kernel
theorem dX6_element_18 : decode cX6_element 18 = .ok (.invokevirtual 74, 3) := by decide +kernel
theorem dX6_element_21 : decode cX6_element 21 = .ok (.ifCond .ne 5, 3) := by decide +kernel
theorem dX6_element_24 : decode cX6_element 24 = .ok (.lconst 0, 1) := by decide +kernel
theorem dX6_element_25 : decode cX6_element 25 = .ok (.lreturn, 1) := by decide +kernel
theorem dX6_element_26 : decode cX6_element 26 = .ok (.aload_n 0, 1) := by decide +kernel
theorem dX6_element_27 : decode cX6_element 27 = .ok (.getfield 29, 3) := by decide +kernel
theorem dX6_element_30 : decode cX6_element 30 = .ok (.iload_n 1, 1) := by decide +kernel
theorem dX6_element_31 : decode cX6_element 31 = .ok (.iload_n 2, 1) := by decide +kernel
theorem dX6_element_32 : decode cX6_element 32 = .ok (.invokevirtual 89, 3) := by decide +kernel
theorem dX6_element_35 : decode cX6_element 35 = .ok (.lreturn, 1) := by decide +kernel
theorem dX6_show_0 : decode cX6_show 0 = .ok (.iload_n 1, 1) := by decide +kernel
theorem dX6_show_1 : decode cX6_show 1 = .ok (.invokestatic 55, 3) := by decide +kernel
theorem dX6_show_4 : decode cX6_show 4 = .ok (.ifCond .ne 9, 3) := by decide +kernel
theorem dX6_show_7 : decode cX6_show 7 = .ok (.aload_n 0, 1) := by decide +kernel
theorem dX6_show_8 : decode cX6_show 8 = .ok (.iconst (-1), 1) := by decide +kernel
theorem dX6_show_9 : decode cX6_show 9 = .ok (.invokevirtual 59, 3) := by decide +kernel
theorem dX6_show_12 : decode cX6_show 12 = .ok (.ireturn, 1) := by decide +kernel
theorem dX6_show_13 : decode cX6_show 13 = .ok (.iload_n 2, 1) := by decide +kernel
theorem dX6_show_14 : decode cX6_show 14 = .ok (.iconst (-1), 1) := by decide +kernel
theorem dX6_show_15 : decode cX6_show 15 = .ok (.if_icmp .eq 20, 3) := by decide +kernel
theorem dX6_show_18 : decode cX6_show 18 = .ok (.aload_n 0, 1) := by decide +kernel
theorem dX6_show_19 : decode cX6_show 19 = .ok (.getfield 10, 3) := by decide +kernel
theorem dX6_show_22 : decode cX6_show 22 = .ok (.iload_n 2, 1) := by decide +kernel
theorem dX6_show_23 : decode cX6_show 23 = .ok (.invokevirtual 93, 3) := by decide +kernel
theorem dX6_show_26 : decode cX6_show 26 = .ok (.ifCond .ne 9, 3) := by decide +kernel
theorem dX6_show_29 : decode cX6_show 29 = .ok (.aload_n 0, 1) := by decide +kernel
theorem dX6_show_30 : decode cX6_show 30 = .ok (.iconst (-1), 1) := by decide +kernel
theorem dX6_show_31 : decode cX6_show 31 = .ok (.invokevirtual 59, 3) := by decide +kernel
theorem dX6_show_34 : decode cX6_show 34 = .ok (.ireturn, 1) := by decide +kernel
theorem dX6_show_35 : decode cX6_show 35 = .ok (.aload_n 0, 1) := by decide +kernel
theorem dX6_show_36 : decode cX6_show 36 = .ok (.getfield 29, 3) := by decide +kernel
theorem dX6_show_39 : decode cX6_show 39 = .ok (.iload_n 1, 1) := by decide +kernel
theorem dX6_show_40 : decode cX6_show 40 = .ok (.iload_n 2, 1) := by decide +kernel
theorem dX6_show_41 : decode cX6_show 41 = .ok (.invokevirtual 96, 3) := by decide +kernel
theorem dX6_show_44 : decode cX6_show 44 = .ok (.iload_n 2, 1) := by decide +kernel
theorem dX6_show_45 : decode cX6_show 45 = .ok (.iconst (-1), 1) := by decide +kernel
theorem dX6_show_46 : decode cX6_show 46 = .ok (.if_icmp .ne 7, 3) := by decide +kernel
theorem dX6_show_49 : decode cX6_show 49 = .ok (.iconst 0, 1) := by decide +kernel
theorem dX6_show_50 : decode cX6_show 50 = .ok (.goto 4, 3) := by decide +kernel
theorem dX6_show_53 : decode cX6_show 53 = .ok (.iconst 1, 1) := by decide +kernel
theorem dX6_show_54 : decode cX6_show 54 = .ok (.ireturn, 1) := by decide +kernel
theorem dX6_holds_0 : decode cX6_holds 0 = .ok (.iload_n 1, 1) := by decide +kernel
theorem dX6_holds_1 : decode cX6_holds 1 = .ok (.invokestatic 55, 3) := by decide +kernel
theorem dX6_holds_4 : decode cX6_holds 4 = .ok (.ifCond .eq 14, 3) := by decide +kernel
theorem dX6_holds_7 : decode cX6_holds 7 = .ok (.aload_n 0, 1) := by decide +kernel
theorem dX6_holds_8 : decode cX6_holds 8 = .ok (.getfield 29, 3) := by decide +kernel
theorem dX6_holds_11 : decode cX6_holds 11 = .ok (.iload_n 1, 1) := by decide +kernel
theorem dX6_holds_12 : decode cX6_holds 12 = .ok (.invokevirtual 100, 3) := by decide +kernel
theorem dX6_holds_15 : decode cX6_holds 15 = .ok (.goto 4, 3) := by decide +kernel
theorem dX6_holds_18 : decode cX6_holds 18 = .ok (.iconst (-1), 1) := by decide +kernel
theorem dX6_holds_19 : decode cX6_holds 19 = .ok (.ireturn, 1) := by decide +kernel
theorem dX6_says_0 : decode cX6_says 0 = .ok (.iload_n 1, 1) := by decide +kernel
theorem dX6_says_1 : decode cX6_says 1 = .ok (.invokestatic 55, 3) := by decide +kernel
theorem dX6_says_4 : decode cX6_says 4 = .ok (.ifCond .eq 10, 3) := by decide +kernel
theorem dX6_says_7 : decode cX6_says 7 = .ok (.iload_n 2, 1) := by decide +kernel
theorem dX6_says_8 : decode cX6_says 8 = .ok (.invokestatic 103, 3) := by decide +kernel
theorem dX6_says_11 : decode cX6_says 11 = .ok (.ifCond .ne 9, 3) := by decide +kernel
theorem dX6_says_14 : decode cX6_says 14 = .ok (.aload_n 0, 1) := by decide +kernel
theorem dX6_says_15 : decode cX6_says 15 = .ok (.iconst (-1), 1) := by decide +kernel
theorem dX6_says_16 : decode cX6_says 16 = .ok (.invokevirtual 59, 3) := by decide +kernel
theorem dX6_says_19 : decode cX6_says 19 = .ok (.ireturn, 1) := by decide +kernel
theorem dX6_says_20 : decode cX6_says 20 = .ok (.aload_n 0, 1) := by decide +kernel
theorem dX6_says_21 : decode cX6_says 21 = .ok (.getfield 29, 3) := by decide +kernel
theorem dX6_says_24 : decode cX6_says 24 = .ok (.iload_n 1, 1) := by decide +kernel
theorem dX6_says_25 : decode cX6_says 25 = .ok (.invokevirtual 100, 3) := by decide +kernel
theorem dX6_says_28 : decode cX6_says 28 = .ok (.istore_n 3, 1) := by decide +kernel
theorem dX6_says_29 : decode cX6_says 29 = .ok (.iload_n 3, 1) := by decide +kernel
theorem dX6_says_30 : decode cX6_says 30 = .ok (.iconst (-1), 1) := by decide +kernel
theorem dX6_says_31 : decode cX6_says 31 = .ok (.if_icmp .ne 10, 3) := by decide +kernel
theorem dX6_says_34 : decode cX6_says 34 = .ok (.aload_n 0, 1) := by decide +kernel
theorem dX6_says_35 : decode cX6_says 35 = .ok (.bipush (-3), 2) := by decide +kernel
theorem dX6_says_37 : decode cX6_says 37 = .ok (.invokevirtual 59, 3) := by decide +kernel
theorem dX6_says_40 : decode cX6_says 40 = .ok (.ireturn, 1) := by decide +kernel
theorem dX6_says_41 : decode cX6_says 41 = .ok (.aload_n 0, 1) := by decide +kernel
theorem dX6_says_42 : decode cX6_says 42 = .ok (.getfield 10, 3) := by decide +kernel
theorem dX6_says_45 : decode cX6_says 45 = .ok (.iload_n 3, 1) := by decide +kernel
theorem dX6_says_46 : decode cX6_says 46 = .ok (.invokevirtual 93, 3) := by decide +kernel
theorem dX6_says_49 : decode cX6_says 49 = .ok (.ifCond .eq 18, 3) := by decide +kernel
theorem dX6_says_52 : decode cX6_says 52 = .ok (.aload_n 0, 1) := by decide +kernel
theorem dX6_says_53 : decode cX6_says 53 = .ok (.getfield 10, 3) := by decide +kernel
theorem dX6_says_56 : decode cX6_says 56 = .ok (.iload_n 3, 1) := by decide +kernel
theorem dX6_says_57 : decode cX6_says 57 = .ok (.invokevirtual 106, 3) := by decide +kernel
theorem dX6_says_60 : decode cX6_says 60 = .ok (.iload_n 2, 1) := by decide +kernel
theorem dX6_says_61 : decode cX6_says 61 = .ok (.invokestatic 109, 3) := by decide +kernel
theorem dX6_says_64 : decode cX6_says 64 = .ok (.ifCond .ne 10, 3) := by decide +kernel
theorem dX6_says_67 : decode cX6_says 67 = .ok (.aload_n 0, 1) := by decide +kernel
theorem dX6_says_68 : decode cX6_says 68 = .ok (.bipush (-2), 2) := by decide +kernel
theorem dX6_says_70 : decode cX6_says 70 = .ok (.invokevirtual 59, 3) := by decide +kernel
theorem dX6_says_73 : decode cX6_says 73 = .ok (.ireturn, 1) := by decide +kernel
theorem dX6_says_74 : decode cX6_says 74 = .ok (.iload_n 2, 1) := by decide +kernel
theorem dX6_says_75 : decode cX6_says 75 = .ok (.lookupswitch 58 #[(0, 33), (4, 45), (6, 45)], 33) := by decide +kernel
theorem dX6_says_108 : decode cX6_says 108 = .ok (.aload_n 0, 1) := by decide +kernel
theorem dX6_says_109 : decode cX6_says 109 = .ok (.getfield 10, 3) := by decide +kernel
theorem dX6_says_112 : decode cX6_says 112 = .ok (.iload_n 3, 1) := by decide +kernel
theorem dX6_says_113 : decode cX6_says 113 = .ok (.sipush 1023, 3) := by decide +kernel
theorem dX6_says_116 : decode cX6_says 116 = .ok (.invokevirtual 113, 3) := by decide +kernel
theorem dX6_says_119 : decode cX6_says 119 = .ok (.ireturn, 1) := by decide +kernel
theorem dX6_says_120 : decode cX6_says 120 = .ok (.aload_n 0, 1) := by decide +kernel
theorem dX6_says_121 : decode cX6_says 121 = .ok (.getfield 10, 3) := by decide +kernel
theorem dX6_says_124 : decode cX6_says 124 = .ok (.iload_n 3, 1) := by decide +kernel
theorem dX6_says_125 : decode cX6_says 125 = .ok (.iconst 0, 1) := by decide +kernel
theorem dX6_says_126 : decode cX6_says 126 = .ok (.iconst 0, 1) := by decide +kernel
theorem dX6_says_127 : decode cX6_says 127 = .ok (.bipush 100, 2) := by decide +kernel
theorem dX6_says_129 : decode cX6_says 129 = .ok (.invokevirtual 116, 3) := by decide +kernel
theorem dX6_says_132 : decode cX6_says 132 = .ok (.ireturn, 1) := by decide +kernel
theorem dX6_says_133 : decode cX6_says 133 = .ok (.aload_n 0, 1) := by decide +kernel
theorem dX6_says_134 : decode cX6_says 134 = .ok (.getfield 10, 3) := by decide +kernel
theorem dX6_says_137 : decode cX6_says 137 = .ok (.iload_n 3, 1) := by decide +kernel
theorem dX6_says_138 : decode cX6_says 138 = .ok (.iconst 1, 1) := by decide +kernel
theorem dX6_says_139 : decode cX6_says 139 = .ok (.iconst 5, 1) := by decide +kernel
theorem dX6_says_140 : decode cX6_says 140 = .ok (.bipush 100, 2) := by decide +kernel
theorem dX6_says_142 : decode cX6_says 142 = .ok (.invokevirtual 116, 3) := by decide +kernel
theorem dX6_says_145 : decode cX6_says 145 = .ok (.ireturn, 1) := by decide +kernel
theorem dX6_question_0 : decode cX6_question 0 = .ok (.iload_n 1, 1) := by decide +kernel
theorem dX6_question_1 : decode cX6_question 1 = .ok (.invokestatic 103, 3) := by decide +kernel
theorem dX6_question_4 : decode cX6_question 4 = .ok (.ifCond .ne 9, 3) := by decide +kernel
theorem dX6_question_7 : decode cX6_question 7 = .ok (.aload_n 0, 1) := by decide +kernel
theorem dX6_question_8 : decode cX6_question 8 = .ok (.iconst (-1), 1) := by decide +kernel
theorem dX6_question_9 : decode cX6_question 9 = .ok (.invokevirtual 59, 3) := by decide +kernel
theorem dX6_question_12 : decode cX6_question 12 = .ok (.ireturn, 1) := by decide +kernel
theorem dX6_question_13 : decode cX6_question 13 = .ok (.iload_n 2, 1) := by decide +kernel
theorem dX6_question_14 : decode cX6_question 14 = .ok (.iconst 0, 1) := by decide +kernel
theorem dX6_question_15 : decode cX6_question 15 = .ok (.bipush 9, 2) := by decide +kernel
theorem dX6_question_17 : decode cX6_question 17 = .ok (.invokestatic 63, 3) := by decide +kernel
theorem dX6_question_20 : decode cX6_question 20 = .ok (.ifCond .ne 10, 3) := by decide +kernel
theorem dX6_question_23 : decode cX6_question 23 = .ok (.aload_n 0, 1) := by decide +kernel
theorem dX6_question_24 : decode cX6_question 24 = .ok (.bipush (-6), 2) := by decide +kernel
theorem dX6_question_26 : decode cX6_question 26 = .ok (.invokevirtual 59, 3) := by decide +kernel
theorem dX6_question_29 : decode cX6_question 29 = .ok (.ireturn, 1) := by decide +kernel
theorem dX6_question_30 : decode cX6_question 30 = .ok (.aload_n 0, 1) := by decide +kernel
theorem dX6_question_31 : decode cX6_question 31 = .ok (.getfield 10, 3) := by decide +kernel
theorem dX6_question_34 : decode cX6_question 34 = .ok (.invokevirtual 120, 3) := by decide +kernel
theorem dX6_question_37 : decode cX6_question 37 = .ok (.ifCond .ne 10, 3) := by decide +kernel
theorem dX6_question_40 : decode cX6_question 40 = .ok (.aload_n 0, 1) := by decide +kernel
theorem dX6_question_41 : decode cX6_question 41 = .ok (.bipush (-7), 2) := by decide +kernel
theorem dX6_question_43 : decode cX6_question 43 = .ok (.invokevirtual 59, 3) := by decide +kernel
theorem dX6_question_46 : decode cX6_question 46 = .ok (.ireturn, 1) := by decide +kernel
theorem dX6_question_47 : decode cX6_question 47 = .ok (.aload_n 0, 1) := by decide +kernel
theorem dX6_question_48 : decode cX6_question 48 = .ok (.getfield 10, 3) := by decide +kernel
theorem dX6_question_51 : decode cX6_question 51 = .ok (.iload_n 1, 1) := by decide +kernel
theorem dX6_question_52 : decode cX6_question 52 = .ok (.iload_n 2, 1) := by decide +kernel
theorem dX6_question_53 : decode cX6_question 53 = .ok (.invokevirtual 124, 3) := by decide +kernel
theorem dX6_question_56 : decode cX6_question 56 = .ok (.ireturn, 1) := by decide +kernel
theorem dX6_group_0 : decode cX6_group 0 = .ok (.iload_n 1, 1) := by decide +kernel
theorem dX6_group_1 : decode cX6_group 1 = .ok (.iconst 1, 1) := by decide +kernel
theorem dX6_group_2 : decode cX6_group 2 = .ok (.sipush 999, 3) := by decide +kernel
theorem dX6_group_5 : decode cX6_group 5 = .ok (.invokestatic 63, 3) := by decide +kernel
theorem dX6_group_8 : decode cX6_group 8 = .ok (.ifCond .eq 48, 3) := by decide +kernel
theorem dX6_group_11 : decode cX6_group 11 = .ok (.iload_n 2, 1) := by decide +kernel
theorem dX6_group_12 : decode cX6_group 12 = .ok (.iconst 0, 1) := by decide +kernel
theorem dX6_group_13 : decode cX6_group 13 = .ok (.iconst 2, 1) := by decide +kernel
theorem dX6_group_14 : decode cX6_group 14 = .ok (.invokestatic 63, 3) := by decide +kernel
theorem dX6_group_17 : decode cX6_group 17 = .ok (.ifCond .eq 39, 3) := by decide +kernel
theorem dX6_group_20 : decode cX6_group 20 = .ok (.iload_n 3, 1) := by decide +kernel
theorem dX6_group_21 : decode cX6_group 21 = .ok (.iconst 0, 1) := by decide +kernel
theorem dX6_group_22 : decode cX6_group 22 = .ok (.bipush 10, 2) := by decide +kernel
theorem dX6_group_24 : decode cX6_group 24 = .ok (.invokestatic 63, 3) := by decide +kernel
theorem dX6_group_27 : decode cX6_group 27 = .ok (.ifCond .eq 29, 3) := by decide +kernel
theorem dX6_group_30 : decode cX6_group 30 = .ok (.iload 4, 2) := by decide +kernel
theorem dX6_group_32 : decode cX6_group 32 = .ok (.iconst 0, 1) := by decide +kernel
theorem dX6_group_33 : decode cX6_group 33 = .ok (.bipush 10, 2) := by decide +kernel
theorem dX6_group_35 : decode cX6_group 35 = .ok (.invokestatic 63, 3) := by decide +kernel
theorem dX6_group_38 : decode cX6_group 38 = .ok (.ifCond .eq 18, 3) := by decide +kernel
theorem dX6_group_41 : decode cX6_group 41 = .ok (.iload 5, 2) := by decide +kernel
theorem dX6_group_43 : decode cX6_group 43 = .ok (.iconst 0, 1) := by decide +kernel
theorem dX6_group_44 : decode cX6_group 44 = .ok (.bipush 10, 2) := by decide +kernel
theorem dX6_group_46 : decode cX6_group 46 = .ok (.invokestatic 63, 3) := by decide +kernel
theorem dX6_group_49 : decode cX6_group 49 = .ok (.ifCond .eq 7, 3) := by decide +kernel
theorem dX6_group_52 : decode cX6_group 52 = .ok (.iconst 1, 1) := by decide +kernel
theorem dX6_group_53 : decode cX6_group 53 = .ok (.goto 4, 3) := by decide +kernel
theorem dX6_group_56 : decode cX6_group 56 = .ok (.iconst 0, 1) := by decide +kernel
theorem dX6_group_57 : decode cX6_group 57 = .ok (.istore 6, 2) := by decide +kernel
theorem dX6_group_59 : decode cX6_group 59 = .ok (.iload 6, 2) := by decide +kernel
theorem dX6_group_61 : decode cX6_group 61 = .ok (.ifCond .ne 10, 3) := by decide +kernel
theorem dX6_group_64 : decode cX6_group 64 = .ok (.aload_n 0, 1) := by decide +kernel
theorem dX6_group_65 : decode cX6_group 65 = .ok (.bipush (-6), 2) := by decide +kernel
theorem dX6_group_67 : decode cX6_group 67 = .ok (.invokevirtual 59, 3) := by decide +kernel
theorem dX6_group_70 : decode cX6_group 70 = .ok (.ireturn, 1) := by decide +kernel
theorem dX6_group_71 : decode cX6_group 71 = .ok (.aload_n 0, 1) := by decide +kernel
theorem dX6_group_72 : decode cX6_group 72 = .ok (.getfield 10, 3) := by decide +kernel
theorem dX6_group_75 : decode cX6_group 75 = .ok (.invokevirtual 127, 3) := by decide +kernel
theorem dX6_group_78 : decode cX6_group 78 = .ok (.ifCond .ne 10, 3) := by decide +kernel
theorem dX6_group_81 : decode cX6_group 81 = .ok (.aload_n 0, 1) := by decide +kernel
theorem dX6_group_82 : decode cX6_group 82 = .ok (.bipush (-7), 2) := by decide +kernel
theorem dX6_group_84 : decode cX6_group 84 = .ok (.invokevirtual 59, 3) := by decide +kernel
theorem dX6_group_87 : decode cX6_group 87 = .ok (.ireturn, 1) := by decide +kernel
theorem dX6_group_88 : decode cX6_group 88 = .ok (.aload_n 0, 1) := by decide +kernel
theorem dX6_group_89 : decode cX6_group 89 = .ok (.getfield 10, 3) := by decide +kernel
theorem dX6_group_92 : decode cX6_group 92 = .ok (.iload_n 1, 1) := by decide +kernel
theorem dX6_group_93 : decode cX6_group 93 = .ok (.iload_n 2, 1) := by decide +kernel
theorem dX6_group_94 : decode cX6_group 94 = .ok (.iload_n 3, 1) := by decide +kernel
theorem dX6_group_95 : decode cX6_group 95 = .ok (.iload 4, 2) := by decide +kernel
theorem dX6_group_97 : decode cX6_group 97 = .ok (.iload 5, 2) := by decide +kernel
theorem dX6_group_99 : decode cX6_group 99 = .ok (.invokevirtual 130, 3) := by decide +kernel
theorem dX6_group_102 : decode cX6_group 102 = .ok (.ireturn, 1) := by decide +kernel
theorem dX6_questionOf_0 : decode cX6_questionOf 0 = .ok (.aload_n 0, 1) := by decide +kernel
theorem dX6_questionOf_1 : decode cX6_questionOf 1 = .ok (.getfield 10, 3) := by decide +kernel
theorem dX6_questionOf_4 : decode cX6_questionOf 4 = .ok (.iload_n 1, 1) := by decide +kernel
theorem dX6_questionOf_5 : decode cX6_questionOf 5 = .ok (.invokevirtual 93, 3) := by decide +kernel
theorem dX6_questionOf_8 : decode cX6_questionOf 8 = .ok (.ifCond .ne 10, 3) := by decide +kernel
theorem dX6_questionOf_11 : decode cX6_questionOf 11 = .ok (.aload_n 0, 1) := by decide +kernel
theorem dX6_questionOf_12 : decode cX6_questionOf 12 = .ok (.bipush (-5), 2) := by decide +kernel
theorem dX6_questionOf_14 : decode cX6_questionOf 14 = .ok (.invokevirtual 134, 3) := by decide +kernel
theorem dX6_questionOf_17 : decode cX6_questionOf 17 = .ok (.ireturn, 1) := by decide +kernel
theorem dX6_questionOf_18 : decode cX6_questionOf 18 = .ok (.iload_n 2, 1) := by decide +kernel
theorem dX6_questionOf_19 : decode cX6_questionOf 19 = .ok (.tableswitch 84 0 4 #[33, 42, 51, 63, 75], 33) := by decide +kernel
theorem dX6_questionOf_52 : decode cX6_questionOf 52 = .ok (.aload_n 0, 1) := by decide +kernel
theorem dX6_questionOf_53 : decode cX6_questionOf 53 = .ok (.getfield 10, 3) := by decide +kernel
theorem dX6_questionOf_56 : decode cX6_questionOf 56 = .ok (.iload_n 1, 1) := by decide +kernel
theorem dX6_questionOf_57 : decode cX6_questionOf 57 = .ok (.invokevirtual 106, 3) := by decide +kernel
theorem dX6_questionOf_60 : decode cX6_questionOf 60 = .ok (.ireturn, 1) := by decide +kernel
theorem dX6_questionOf_61 : decode cX6_questionOf 61 = .ok (.aload_n 0, 1) := by decide +kernel
theorem dX6_questionOf_62 : decode cX6_questionOf 62 = .ok (.getfield 10, 3) := by decide +kernel
theorem dX6_questionOf_65 : decode cX6_questionOf 65 = .ok (.iload_n 1, 1) := by decide +kernel
theorem dX6_questionOf_66 : decode cX6_questionOf 66 = .ok (.invokevirtual 137, 3) := by decide +kernel
theorem dX6_questionOf_69 : decode cX6_questionOf 69 = .ok (.ireturn, 1) := by decide +kernel
theorem dX6_questionOf_70 : decode cX6_questionOf 70 = .ok (.aload_n 0, 1) := by decide +kernel
theorem dX6_questionOf_71 : decode cX6_questionOf 71 = .ok (.getfield 10, 3) := by decide +kernel
theorem dX6_questionOf_74 : decode cX6_questionOf 74 = .ok (.iload_n 1, 1) := by decide +kernel
theorem dX6_questionOf_75 : decode cX6_questionOf 75 = .ok (.sipush 1023, 3) := by decide +kernel
theorem dX6_questionOf_78 : decode cX6_questionOf 78 = .ok (.invokevirtual 140, 3) := by decide +kernel
theorem dX6_questionOf_81 : decode cX6_questionOf 81 = .ok (.ireturn, 1) := by decide +kernel
theorem dX6_questionOf_82 : decode cX6_questionOf 82 = .ok (.aload_n 0, 1) := by decide +kernel
theorem dX6_questionOf_83 : decode cX6_questionOf 83 = .ok (.getfield 10, 3) := by decide +kernel
theorem dX6_questionOf_86 : decode cX6_questionOf 86 = .ok (.iload_n 1, 1) := by decide +kernel
theorem dX6_questionOf_87 : decode cX6_questionOf 87 = .ok (.sipush 1023, 3) := by decide +kernel
theorem dX6_questionOf_90 : decode cX6_questionOf 90 = .ok (.invokevirtual 113, 3) := by decide +kernel
theorem dX6_questionOf_93 : decode cX6_questionOf 93 = .ok (.ireturn, 1) := by decide +kernel
theorem dX6_questionOf_94 : decode cX6_questionOf 94 = .ok (.aload_n 0, 1) := by decide +kernel
theorem dX6_questionOf_95 : decode cX6_questionOf 95 = .ok (.getfield 10, 3) := by decide +kernel
theorem dX6_questionOf_98 : decode cX6_questionOf 98 = .ok (.iload_n 1, 1) := by decide +kernel
theorem dX6_questionOf_99 : decode cX6_questionOf 99 = .ok (.invokevirtual 143, 3) := by decide +kernel
theorem dX6_questionOf_102 : decode cX6_questionOf 102 = .ok (.ireturn, 1) := by decide +kernel
theorem dX6_questionOf_103 : decode cX6_questionOf 103 = .ok (.aload_n 0, 1) := by decide +kernel
theorem dX6_questionOf_104 : decode cX6_questionOf 104 = .ok (.bipush (-5), 2) := by decide +kernel
theorem dX6_questionOf_106 : decode cX6_questionOf 106 = .ok (.invokevirtual 134, 3) := by decide +kernel
theorem dX6_questionOf_109 : decode cX6_questionOf 109 = .ok (.ireturn, 1) := by decide +kernel
theorem dX6_groupOf_0 : decode cX6_groupOf 0 = .ok (.aload_n 0, 1) := by decide +kernel
theorem dX6_groupOf_1 : decode cX6_groupOf 1 = .ok (.getfield 10, 3) := by decide +kernel
theorem dX6_groupOf_4 : decode cX6_groupOf 4 = .ok (.iload_n 1, 1) := by decide +kernel
theorem dX6_groupOf_5 : decode cX6_groupOf 5 = .ok (.invokevirtual 146, 3) := by decide +kernel
theorem dX6_groupOf_8 : decode cX6_groupOf 8 = .ok (.ifCond .ne 10, 3) := by decide +kernel
theorem dX6_groupOf_11 : decode cX6_groupOf 11 = .ok (.aload_n 0, 1) := by decide +kernel
theorem dX6_groupOf_12 : decode cX6_groupOf 12 = .ok (.bipush (-5), 2) := by decide +kernel
theorem dX6_groupOf_14 : decode cX6_groupOf 14 = .ok (.invokevirtual 59, 3) := by decide +kernel
theorem dX6_groupOf_17 : decode cX6_groupOf 17 = .ok (.ireturn, 1) := by decide +kernel
theorem dX6_groupOf_18 : decode cX6_groupOf 18 = .ok (.iload_n 2, 1) := by decide +kernel
theorem dX6_groupOf_19 : decode cX6_groupOf 19 = .ok (.tableswitch 78 0 4 #[33, 42, 51, 60, 69], 33) := by decide +kernel
theorem dX6_groupOf_52 : decode cX6_groupOf 52 = .ok (.aload_n 0, 1) := by decide +kernel
theorem dX6_groupOf_53 : decode cX6_groupOf 53 = .ok (.getfield 10, 3) := by decide +kernel
theorem dX6_groupOf_56 : decode cX6_groupOf 56 = .ok (.iload_n 1, 1) := by decide +kernel
theorem dX6_groupOf_57 : decode cX6_groupOf 57 = .ok (.invokevirtual 149, 3) := by decide +kernel
theorem dX6_groupOf_60 : decode cX6_groupOf 60 = .ok (.ireturn, 1) := by decide +kernel
theorem dX6_groupOf_61 : decode cX6_groupOf 61 = .ok (.aload_n 0, 1) := by decide +kernel
theorem dX6_groupOf_62 : decode cX6_groupOf 62 = .ok (.getfield 10, 3) := by decide +kernel
theorem dX6_groupOf_65 : decode cX6_groupOf 65 = .ok (.iload_n 1, 1) := by decide +kernel
theorem dX6_groupOf_66 : decode cX6_groupOf 66 = .ok (.invokevirtual 152, 3) := by decide +kernel
theorem dX6_groupOf_69 : decode cX6_groupOf 69 = .ok (.ireturn, 1) := by decide +kernel
theorem dX6_groupOf_70 : decode cX6_groupOf 70 = .ok (.aload_n 0, 1) := by decide +kernel
theorem dX6_groupOf_71 : decode cX6_groupOf 71 = .ok (.getfield 10, 3) := by decide +kernel
theorem dX6_groupOf_74 : decode cX6_groupOf 74 = .ok (.iload_n 1, 1) := by decide +kernel
theorem dX6_groupOf_75 : decode cX6_groupOf 75 = .ok (.invokevirtual 155, 3) := by decide +kernel
theorem dX6_groupOf_78 : decode cX6_groupOf 78 = .ok (.ireturn, 1) := by decide +kernel
theorem dX6_groupOf_79 : decode cX6_groupOf 79 = .ok (.aload_n 0, 1) := by decide +kernel
theorem dX6_groupOf_80 : decode cX6_groupOf 80 = .ok (.getfield 10, 3) := by decide +kernel
theorem dX6_groupOf_83 : decode cX6_groupOf 83 = .ok (.iload_n 1, 1) := by decide +kernel
theorem dX6_groupOf_84 : decode cX6_groupOf 84 = .ok (.invokevirtual 158, 3) := by decide +kernel
theorem dX6_groupOf_87 : decode cX6_groupOf 87 = .ok (.ireturn, 1) := by decide +kernel
theorem dX6_groupOf_88 : decode cX6_groupOf 88 = .ok (.aload_n 0, 1) := by decide +kernel
theorem dX6_groupOf_89 : decode cX6_groupOf 89 = .ok (.getfield 10, 3) := by decide +kernel
theorem dX6_groupOf_92 : decode cX6_groupOf 92 = .ok (.iload_n 1, 1) := by decide +kernel
theorem dX6_groupOf_93 : decode cX6_groupOf 93 = .ok (.invokevirtual 161, 3) := by decide +kernel
theorem dX6_groupOf_96 : decode cX6_groupOf 96 = .ok (.ireturn, 1) := by decide +kernel
theorem dX6_groupOf_97 : decode cX6_groupOf 97 = .ok (.aload_n 0, 1) := by decide +kernel
theorem dX6_groupOf_98 : decode cX6_groupOf 98 = .ok (.bipush (-5), 2) := by decide +kernel
theorem dX6_groupOf_100 : decode cX6_groupOf 100 = .ok (.invokevirtual 59, 3) := by decide +kernel
theorem dX6_groupOf_103 : decode cX6_groupOf 103 = .ok (.ireturn, 1) := by decide +kernel
theorem dX6_bears_0 : decode cX6_bears 0 = .ok (.aload_n 0, 1) := by decide +kernel
theorem dX6_bears_1 : decode cX6_bears 1 = .ok (.getfield 10, 3) := by decide +kernel
theorem dX6_bears_4 : decode cX6_bears 4 = .ok (.iload_n 1, 1) := by decide +kernel
theorem dX6_bears_5 : decode cX6_bears 5 = .ok (.invokevirtual 93, 3) := by decide +kernel
theorem dX6_bears_8 : decode cX6_bears 8 = .ok (.ifCond .eq 14, 3) := by decide +kernel
theorem dX6_bears_11 : decode cX6_bears 11 = .ok (.aload_n 0, 1) := by decide +kernel
theorem dX6_bears_12 : decode cX6_bears 12 = .ok (.getfield 10, 3) := by decide +kernel
theorem dX6_bears_15 : decode cX6_bears 15 = .ok (.iload_n 2, 1) := by decide +kernel
theorem dX6_bears_16 : decode cX6_bears 16 = .ok (.invokevirtual 93, 3) := by decide +kernel
theorem dX6_bears_19 : decode cX6_bears 19 = .ok (.ifCond .ne 9, 3) := by decide +kernel
theorem dX6_bears_22 : decode cX6_bears 22 = .ok (.aload_n 0, 1) := by decide +kernel
theorem dX6_bears_23 : decode cX6_bears 23 = .ok (.iconst (-1), 1) := by decide +kernel
theorem dX6_bears_24 : decode cX6_bears 24 = .ok (.invokevirtual 134, 3) := by decide +kernel
theorem dX6_bears_27 : decode cX6_bears 27 = .ok (.ireturn, 1) := by decide +kernel
theorem dX6_bears_28 : decode cX6_bears 28 = .ok (.iload_n 1, 1) := by decide +kernel
theorem dX6_bears_29 : decode cX6_bears 29 = .ok (.iload_n 2, 1) := by decide +kernel
theorem dX6_bears_30 : decode cX6_bears 30 = .ok (.if_icmp .eq 14, 3) := by decide +kernel
theorem dX6_bears_33 : decode cX6_bears 33 = .ok (.iload_n 3, 1) := by decide +kernel
theorem dX6_bears_34 : decode cX6_bears 34 = .ok (.bipush (-9), 2) := by decide +kernel
theorem dX6_bears_36 : decode cX6_bears 36 = .ok (.bipush 9, 2) := by decide +kernel
theorem dX6_bears_38 : decode cX6_bears 38 = .ok (.invokestatic 63, 3) := by decide +kernel
theorem dX6_bears_41 : decode cX6_bears 41 = .ok (.ifCond .ne 10, 3) := by decide +kernel
theorem dX6_bears_44 : decode cX6_bears 44 = .ok (.aload_n 0, 1) := by decide +kernel
theorem dX6_bears_45 : decode cX6_bears 45 = .ok (.bipush (-6), 2) := by decide +kernel
theorem dX6_bears_47 : decode cX6_bears 47 = .ok (.invokevirtual 134, 3) := by decide +kernel
theorem dX6_bears_50 : decode cX6_bears 50 = .ok (.ireturn, 1) := by decide +kernel
theorem dX6_bears_51 : decode cX6_bears 51 = .ok (.aload_n 0, 1) := by decide +kernel
theorem dX6_bears_52 : decode cX6_bears 52 = .ok (.getfield 10, 3) := by decide +kernel
theorem dX6_bears_55 : decode cX6_bears 55 = .ok (.iload_n 1, 1) := by decide +kernel
theorem dX6_bears_56 : decode cX6_bears 56 = .ok (.iload_n 2, 1) := by decide +kernel
theorem dX6_bears_57 : decode cX6_bears 57 = .ok (.invokevirtual 164, 3) := by decide +kernel
theorem dX6_bears_60 : decode cX6_bears 60 = .ok (.istore 4, 2) := by decide +kernel
theorem dX6_bears_62 : decode cX6_bears 62 = .ok (.aload_n 0, 1) := by decide +kernel
theorem dX6_bears_63 : decode cX6_bears 63 = .ok (.getfield 10, 3) := by decide +kernel
theorem dX6_bears_66 : decode cX6_bears 66 = .ok (.iload_n 1, 1) := by decide +kernel
theorem dX6_bears_67 : decode cX6_bears 67 = .ok (.iload_n 2, 1) := by decide +kernel
theorem dX6_bears_68 : decode cX6_bears 68 = .ok (.iload_n 3, 1) := by decide +kernel
theorem dX6_bears_69 : decode cX6_bears 69 = .ok (.invokevirtual 167, 3) := by decide +kernel
theorem dX6_bears_72 : decode cX6_bears 72 = .ok (.iload 4, 2) := by decide +kernel
theorem dX6_bears_74 : decode cX6_bears 74 = .ok (.ireturn, 1) := by decide +kernel
theorem dX6_ask_0 : decode cX6_ask 0 = .ok (.iload_n 1, 1) := by decide +kernel
theorem dX6_ask_1 : decode cX6_ask 1 = .ok (.ifCond .ne 32, 3) := by decide +kernel
theorem dX6_ask_4 : decode cX6_ask 4 = .ok (.iload_n 2, 1) := by decide +kernel
theorem dX6_ask_5 : decode cX6_ask 5 = .ok (.iconst 0, 1) := by decide +kernel
theorem dX6_ask_6 : decode cX6_ask 6 = .ok (.bipush 99, 2) := by decide +kernel
theorem dX6_ask_8 : decode cX6_ask 8 = .ok (.invokestatic 63, 3) := by decide +kernel
theorem dX6_ask_11 : decode cX6_ask 11 = .ok (.ifCond .eq 22, 3) := by decide +kernel
theorem dX6_ask_14 : decode cX6_ask 14 = .ok (.aload_n 0, 1) := by decide +kernel
theorem dX6_ask_15 : decode cX6_ask 15 = .ok (.getfield 10, 3) := by decide +kernel
theorem dX6_ask_18 : decode cX6_ask 18 = .ok (.getfield 170, 3) := by decide +kernel
theorem dX6_ask_21 : decode cX6_ask 21 = .ok (.istore_n 3, 1) := by decide +kernel
theorem dX6_ask_22 : decode cX6_ask 22 = .ok (.aload_n 0, 1) := by decide +kernel
theorem dX6_ask_23 : decode cX6_ask 23 = .ok (.getfield 10, 3) := by decide +kernel
theorem dX6_ask_26 : decode cX6_ask 26 = .ok (.iload_n 2, 1) := by decide +kernel
theorem dX6_ask_27 : decode cX6_ask 27 = .ok (.putfield 170, 3) := by decide +kernel
theorem dX6_ask_30 : decode cX6_ask 30 = .ok (.goto 44, 3) := by decide +kernel
theorem dX6_ask_33 : decode cX6_ask 33 = .ok (.iload_n 1, 1) := by decide +kernel
theorem dX6_ask_34 : decode cX6_ask 34 = .ok (.iconst 1, 1) := by decide +kernel
theorem dX6_ask_35 : decode cX6_ask 35 = .ok (.if_icmp .ne 32, 3) := by decide +kernel
theorem dX6_ask_38 : decode cX6_ask 38 = .ok (.iload_n 2, 1) := by decide +kernel
theorem dX6_ask_39 : decode cX6_ask 39 = .ok (.iconst 0, 1) := by decide +kernel
theorem dX6_ask_40 : decode cX6_ask 40 = .ok (.bipush 7, 2) := by decide +kernel
theorem dX6_ask_42 : decode cX6_ask 42 = .ok (.invokestatic 63, 3) := by decide +kernel
theorem dX6_ask_45 : decode cX6_ask 45 = .ok (.ifCond .eq 22, 3) := by decide +kernel
theorem dX6_ask_48 : decode cX6_ask 48 = .ok (.aload_n 0, 1) := by decide +kernel
theorem dX6_ask_49 : decode cX6_ask 49 = .ok (.getfield 10, 3) := by decide +kernel
theorem dX6_ask_52 : decode cX6_ask 52 = .ok (.getfield 173, 3) := by decide +kernel
theorem dX6_ask_55 : decode cX6_ask 55 = .ok (.istore_n 3, 1) := by decide +kernel
theorem dX6_ask_56 : decode cX6_ask 56 = .ok (.aload_n 0, 1) := by decide +kernel
theorem dX6_ask_57 : decode cX6_ask 57 = .ok (.getfield 10, 3) := by decide +kernel
theorem dX6_ask_60 : decode cX6_ask 60 = .ok (.iload_n 2, 1) := by decide +kernel
theorem dX6_ask_61 : decode cX6_ask 61 = .ok (.putfield 173, 3) := by decide +kernel
theorem dX6_ask_64 : decode cX6_ask 64 = .ok (.goto 10, 3) := by decide +kernel
theorem dX6_ask_67 : decode cX6_ask 67 = .ok (.aload_n 0, 1) := by decide +kernel
theorem dX6_ask_68 : decode cX6_ask 68 = .ok (.bipush (-6), 2) := by decide +kernel
theorem dX6_ask_70 : decode cX6_ask 70 = .ok (.invokevirtual 59, 3) := by decide +kernel
theorem dX6_ask_73 : decode cX6_ask 73 = .ok (.istore_n 3, 1) := by decide +kernel
theorem dX6_ask_74 : decode cX6_ask 74 = .ok (.iload_n 3, 1) := by decide +kernel
theorem dX6_ask_75 : decode cX6_ask 75 = .ok (.ireturn, 1) := by decide +kernel
theorem dX6_town_0 : decode cX6_town 0 = .ok (.aload_n 0, 1) := by decide +kernel
theorem dX6_town_1 : decode cX6_town 1 = .ok (.getfield 29, 3) := by decide +kernel
theorem dX6_town_4 : decode cX6_town 4 = .ok (.iload_n 1, 1) := by decide +kernel
theorem dX6_town_5 : decode cX6_town 5 = .ok (.invokevirtual 71, 3) := by decide +kernel
theorem dX6_town_8 : decode cX6_town 8 = .ok (.istore_n 2, 1) := by decide +kernel
theorem dX6_town_9 : decode cX6_town 9 = .ok (.iload_n 2, 1) := by decide +kernel
theorem dX6_town_10 : decode cX6_town 10 = .ok (.ifCond .eq 9, 3) := by decide +kernel
theorem dX6_town_13 : decode cX6_town 13 = .ok (.aload_n 0, 1) := by decide +kernel
theorem dX6_town_14 : decode cX6_town 14 = .ok (.iload_n 2, 1) := by decide +kernel
theorem dX6_town_15 : decode cX6_town 15 = .ok (.invokevirtual 59, 3) := by decide +kernel
theorem dX6_town_18 : decode cX6_town 18 = .ok (.ireturn, 1) := by decide +kernel
theorem dX6_town_19 : decode cX6_town 19 = .ok (.aload_n 0, 1) := by decide +kernel
theorem dX6_town_20 : decode cX6_town 20 = .ok (.getfield 29, 3) := by decide +kernel
theorem dX6_town_23 : decode cX6_town 23 = .ok (.iload_n 1, 1) := by decide +kernel
theorem dX6_town_24 : decode cX6_town 24 = .ok (.aload_n 0, 1) := by decide +kernel
theorem dX6_town_25 : decode cX6_town 25 = .ok (.getfield 36, 3) := by decide +kernel
theorem dX6_town_28 : decode cX6_town 28 = .ok (.getfield 176, 3) := by decide +kernel
theorem dX6_town_31 : decode cX6_town 31 = .ok (.invokevirtual 179, 3) := by decide +kernel
theorem dX6_town_34 : decode cX6_town 34 = .ok (.aload_n 0, 1) := by decide +kernel
theorem dX6_town_35 : decode cX6_town 35 = .ok (.getfield 36, 3) := by decide +kernel
theorem dX6_town_38 : decode cX6_town 38 = .ok (.aload_n 0, 1) := by decide +kernel
theorem dX6_town_39 : decode cX6_town 39 = .ok (.getfield 29, 3) := by decide +kernel
theorem dX6_town_42 : decode cX6_town 42 = .ok (.iload_n 1, 1) := by decide +kernel
theorem dX6_town_43 : decode cX6_town 43 = .ok (.invokevirtual 183, 3) := by decide +kernel
theorem dX6_town_46 : decode cX6_town 46 = .ok (.aload_n 0, 1) := by decide +kernel
theorem dX6_town_47 : decode cX6_town 47 = .ok (.getfield 10, 3) := by decide +kernel
theorem dX6_town_50 : decode cX6_town 50 = .ok (.invokevirtual 186, 3) := by decide +kernel
theorem dX6_town_53 : decode cX6_town 53 = .ok (.istore_n 3, 1) := by decide +kernel
theorem dX6_town_54 : decode cX6_town 54 = .ok (.aload_n 0, 1) := by decide +kernel
theorem dX6_town_55 : decode cX6_town 55 = .ok (.aload_n 0, 1) := by decide +kernel
theorem dX6_town_56 : decode cX6_town 56 = .ok (.getfield 36, 3) := by decide +kernel
theorem dX6_town_59 : decode cX6_town 59 = .ok (.getfield 190, 3) := by decide +kernel
theorem dX6_town_62 : decode cX6_town 62 = .ok (.putfield 51, 3) := by decide +kernel
theorem dX6_town_65 : decode cX6_town 65 = .ok (.aload_n 0, 1) := by decide +kernel
theorem dX6_town_66 : decode cX6_town 66 = .ok (.getfield 51, 3) := by decide +kernel
theorem dX6_town_69 : decode cX6_town 69 = .ok (.iconst (-1), 1) := by decide +kernel
theorem dX6_town_70 : decode cX6_town 70 = .ok (.if_icmp .eq 10, 3) := by decide +kernel
theorem dX6_town_73 : decode cX6_town 73 = .ok (.aload_n 0, 1) := by decide +kernel
theorem dX6_town_74 : decode cX6_town 74 = .ok (.bipush (-6), 2) := by decide +kernel
theorem dX6_town_76 : decode cX6_town 76 = .ok (.invokevirtual 59, 3) := by decide +kernel
theorem dX6_town_79 : decode cX6_town 79 = .ok (.ireturn, 1) := by decide +kernel
theorem dX6_town_80 : decode cX6_town 80 = .ok (.aload_n 0, 1) := by decide +kernel
theorem dX6_town_81 : decode cX6_town 81 = .ok (.getfield 10, 3) := by decide +kernel
theorem dX6_town_84 : decode cX6_town 84 = .ok (.aload_n 0, 1) := by decide +kernel
theorem dX6_town_85 : decode cX6_town 85 = .ok (.getfield 36, 3) := by decide +kernel
theorem dX6_town_88 : decode cX6_town 88 = .ok (.getfield 193, 3) := by decide +kernel
theorem dX6_town_91 : decode cX6_town 91 = .ok (.invokevirtual 196, 3) := by decide +kernel
theorem dX6_town_94 : decode cX6_town 94 = .ok (.iload_n 3, 1) := by decide +kernel
theorem dX6_town_95 : decode cX6_town 95 = .ok (.ireturn, 1) := by decide +kernel
theorem dX6_fault_0 : decode cX6_fault 0 = .ok (.aload_n 0, 1) := by decide +kernel
theorem dX6_fault_1 : decode cX6_fault 1 = .ok (.getfield 51, 3) := by decide +kernel
theorem dX6_fault_4 : decode cX6_fault 4 = .ok (.ireturn, 1) := by decide +kernel
theorem dX6_yes_0 : decode cX6_yes 0 = .ok (.aload_n 0, 1) := by decide +kernel
theorem dX6_yes_1 : decode cX6_yes 1 = .ok (.getfield 10, 3) := by decide +kernel
theorem dX6_yes_4 : decode cX6_yes 4 = .ok (.iload_n 1, 1) := by decide +kernel
theorem dX6_yes_5 : decode cX6_yes 5 = .ok (.invokevirtual 93, 3) := by decide +kernel
theorem dX6_yes_8 : decode cX6_yes 8 = .ok (.ifCond .eq 14, 3) := by decide +kernel
theorem dX6_yes_11 : decode cX6_yes 11 = .ok (.aload_n 0, 1) := by decide +kernel
theorem dX6_yes_12 : decode cX6_yes 12 = .ok (.getfield 10, 3) := by decide +kernel
theorem dX6_yes_15 : decode cX6_yes 15 = .ok (.iload_n 2, 1) := by decide +kernel
theorem dX6_yes_16 : decode cX6_yes 16 = .ok (.invokevirtual 146, 3) := by decide +kernel
theorem dX6_yes_19 : decode cX6_yes 19 = .ok (.ifCond .ne 9, 3) := by decide +kernel
theorem dX6_yes_22 : decode cX6_yes 22 = .ok (.aload_n 0, 1) := by decide +kernel
theorem dX6_yes_23 : decode cX6_yes 23 = .ok (.iconst (-1), 1) := by decide +kernel
theorem dX6_yes_24 : decode cX6_yes 24 = .ok (.invokevirtual 59, 3) := by decide +kernel
theorem dX6_yes_27 : decode cX6_yes 27 = .ok (.ireturn, 1) := by decide +kernel
theorem dX6_yes_28 : decode cX6_yes 28 = .ok (.iload_n 3, 1) := by decide +kernel
theorem dX6_yes_29 : decode cX6_yes 29 = .ok (.iconst 0, 1) := by decide +kernel
theorem dX6_yes_30 : decode cX6_yes 30 = .ok (.sipush 999, 3) := by decide +kernel
theorem dX6_yes_33 : decode cX6_yes 33 = .ok (.invokestatic 63, 3) := by decide +kernel
theorem dX6_yes_36 : decode cX6_yes 36 = .ok (.ifCond .ne 10, 3) := by decide +kernel
theorem dX6_yes_39 : decode cX6_yes 39 = .ok (.aload_n 0, 1) := by decide +kernel
theorem dX6_yes_40 : decode cX6_yes 40 = .ok (.bipush (-6), 2) := by decide +kernel
theorem dX6_yes_42 : decode cX6_yes 42 = .ok (.invokevirtual 59, 3) := by decide +kernel
theorem dX6_yes_45 : decode cX6_yes 45 = .ok (.ireturn, 1) := by decide +kernel
theorem dX6_yes_46 : decode cX6_yes 46 = .ok (.aload_n 0, 1) := by decide +kernel
theorem dX6_yes_47 : decode cX6_yes 47 = .ok (.getfield 10, 3) := by decide +kernel
theorem dX6_yes_50 : decode cX6_yes 50 = .ok (.iload_n 1, 1) := by decide +kernel
theorem dX6_yes_51 : decode cX6_yes 51 = .ok (.iload_n 2, 1) := by decide +kernel
theorem dX6_yes_52 : decode cX6_yes 52 = .ok (.iload_n 3, 1) := by decide +kernel
theorem dX6_yes_53 : decode cX6_yes 53 = .ok (.invokevirtual 200, 3) := by decide +kernel
theorem dX6_yes_56 : decode cX6_yes 56 = .ok (.ireturn, 1) := by decide +kernel
theorem dX6_answers_0 : decode cX6_answers 0 = .ok (.iload_n 2, 1) := by decide +kernel
theorem dX6_answers_1 : decode cX6_answers 1 = .ok (.iconst 0, 1) := by decide +kernel
theorem dX6_answers_2 : decode cX6_answers 2 = .ok (.iconst 1, 1) := by decide +kernel
theorem dX6_answers_3 : decode cX6_answers 3 = .ok (.invokestatic 63, 3) := by decide +kernel
theorem dX6_answers_6 : decode cX6_answers 6 = .ok (.ifCond .ne 10, 3) := by decide +kernel
theorem dX6_answers_9 : decode cX6_answers 9 = .ok (.aload_n 0, 1) := by decide +kernel
theorem dX6_answers_10 : decode cX6_answers 10 = .ok (.bipush (-5), 2) := by decide +kernel
theorem dX6_answers_12 : decode cX6_answers 12 = .ok (.invokevirtual 59, 3) := by decide +kernel
theorem dX6_answers_15 : decode cX6_answers 15 = .ok (.ireturn, 1) := by decide +kernel
theorem dX6_answers_16 : decode cX6_answers 16 = .ok (.iload_n 1, 1) := by decide +kernel
theorem dX6_answers_17 : decode cX6_answers 17 = .ok (.iconst 0, 1) := by decide +kernel
theorem dX6_answers_18 : decode cX6_answers 18 = .ok (.bipush 9, 2) := by decide +kernel
theorem dX6_answers_20 : decode cX6_answers 20 = .ok (.invokestatic 63, 3) := by decide +kernel
theorem dX6_answers_23 : decode cX6_answers 23 = .ok (.ifCond .ne 10, 3) := by decide +kernel
theorem dX6_answers_26 : decode cX6_answers 26 = .ok (.aload_n 0, 1) := by decide +kernel
theorem dX6_answers_27 : decode cX6_answers 27 = .ok (.bipush (-6), 2) := by decide +kernel
theorem dX6_answers_29 : decode cX6_answers 29 = .ok (.invokevirtual 59, 3) := by decide +kernel
theorem dX6_answers_32 : decode cX6_answers 32 = .ok (.ireturn, 1) := by decide +kernel
theorem dX6_answers_33 : decode cX6_answers 33 = .ok (.iload_n 2, 1) := by decide +kernel
theorem dX6_answers_34 : decode cX6_answers 34 = .ok (.ifCond .ne 15, 3) := by decide +kernel
theorem dX6_answers_37 : decode cX6_answers 37 = .ok (.aload_n 0, 1) := by decide +kernel
theorem dX6_answers_38 : decode cX6_answers 38 = .ok (.getfield 10, 3) := by decide +kernel
theorem dX6_answers_41 : decode cX6_answers 41 = .ok (.iconst 0, 1) := by decide +kernel
theorem dX6_answers_42 : decode cX6_answers 42 = .ok (.iload_n 1, 1) := by decide +kernel
theorem dX6_answers_43 : decode cX6_answers 43 = .ok (.invokestatic 204, 3) := by decide +kernel
theorem dX6_answers_46 : decode cX6_answers 46 = .ok (.goto 11, 3) := by decide +kernel
theorem dX6_answers_49 : decode cX6_answers 49 = .ok (.aload_n 0, 1) := by decide +kernel
theorem dX6_answers_50 : decode cX6_answers 50 = .ok (.getfield 10, 3) := by decide +kernel
theorem dX6_answers_53 : decode cX6_answers 53 = .ok (.iload_n 1, 1) := by decide +kernel
theorem dX6_answers_54 : decode cX6_answers 54 = .ok (.invokestatic 210, 3) := by decide +kernel
theorem dX6_answers_57 : decode cX6_answers 57 = .ok (.ireturn, 1) := by decide +kernel
theorem dX6_by_0 : decode cX6_by 0 = .ok (.aload_n 0, 1) := by decide +kernel
theorem dX6_by_1 : decode cX6_by 1 = .ok (.getfield 10, 3) := by decide +kernel
theorem dX6_by_4 : decode cX6_by 4 = .ok (.iload_n 1, 1) := by decide +kernel
theorem dX6_by_5 : decode cX6_by 5 = .ok (.invokevirtual 93, 3) := by decide +kernel
theorem dX6_by_8 : decode cX6_by 8 = .ok (.ifCond .ne 9, 3) := by decide +kernel
theorem dX6_by_11 : decode cX6_by 11 = .ok (.aload_n 0, 1) := by decide +kernel
theorem dX6_by_12 : decode cX6_by 12 = .ok (.iconst (-1), 1) := by decide +kernel
theorem dX6_by_13 : decode cX6_by 13 = .ok (.invokevirtual 134, 3) := by decide +kernel
theorem dX6_by_16 : decode cX6_by 16 = .ok (.ireturn, 1) := by decide +kernel
theorem dX6_by_17 : decode cX6_by 17 = .ok (.iload_n 3, 1) := by decide +kernel
theorem dX6_by_18 : decode cX6_by 18 = .ok (.iconst 0, 1) := by decide +kernel
theorem dX6_by_19 : decode cX6_by 19 = .ok (.iconst 1, 1) := by decide +kernel
theorem dX6_by_20 : decode cX6_by 20 = .ok (.invokestatic 63, 3) := by decide +kernel
theorem dX6_by_23 : decode cX6_by 23 = .ok (.ifCond .ne 10, 3) := by decide +kernel
theorem dX6_by_26 : decode cX6_by 26 = .ok (.aload_n 0, 1) := by decide +kernel
theorem dX6_by_27 : decode cX6_by 27 = .ok (.bipush (-5), 2) := by decide +kernel
theorem dX6_by_29 : decode cX6_by 29 = .ok (.invokevirtual 134, 3) := by decide +kernel
theorem dX6_by_32 : decode cX6_by 32 = .ok (.ireturn, 1) := by decide +kernel
theorem dX6_by_33 : decode cX6_by 33 = .ok (.iload_n 2, 1) := by decide +kernel
theorem dX6_by_34 : decode cX6_by 34 = .ok (.iconst 0, 1) := by decide +kernel
theorem dX6_by_35 : decode cX6_by 35 = .ok (.bipush 9, 2) := by decide +kernel
theorem dX6_by_37 : decode cX6_by 37 = .ok (.invokestatic 63, 3) := by decide +kernel
theorem dX6_by_40 : decode cX6_by 40 = .ok (.ifCond .ne 10, 3) := by decide +kernel
theorem dX6_by_43 : decode cX6_by 43 = .ok (.aload_n 0, 1) := by decide +kernel
theorem dX6_by_44 : decode cX6_by 44 = .ok (.bipush (-6), 2) := by decide +kernel
theorem dX6_by_46 : decode cX6_by 46 = .ok (.invokevirtual 134, 3) := by decide +kernel
theorem dX6_by_49 : decode cX6_by 49 = .ok (.ireturn, 1) := by decide +kernel
theorem dX6_by_50 : decode cX6_by 50 = .ok (.iload_n 3, 1) := by decide +kernel
theorem dX6_by_51 : decode cX6_by 51 = .ok (.ifCond .ne 16, 3) := by decide +kernel
theorem dX6_by_54 : decode cX6_by 54 = .ok (.aload_n 0, 1) := by decide +kernel
theorem dX6_by_55 : decode cX6_by 55 = .ok (.getfield 10, 3) := by decide +kernel
theorem dX6_by_58 : decode cX6_by 58 = .ok (.iload_n 1, 1) := by decide +kernel
theorem dX6_by_59 : decode cX6_by 59 = .ok (.iconst 0, 1) := by decide +kernel
theorem dX6_by_60 : decode cX6_by 60 = .ok (.iload_n 2, 1) := by decide +kernel
theorem dX6_by_61 : decode cX6_by 61 = .ok (.invokestatic 214, 3) := by decide +kernel
theorem dX6_by_64 : decode cX6_by 64 = .ok (.goto 12, 3) := by decide +kernel
theorem dX6_by_67 : decode cX6_by 67 = .ok (.aload_n 0, 1) := by decide +kernel
theorem dX6_by_68 : decode cX6_by 68 = .ok (.getfield 10, 3) := by decide +kernel
theorem dX6_by_71 : decode cX6_by 71 = .ok (.iload_n 1, 1) := by decide +kernel
theorem dX6_by_72 : decode cX6_by 72 = .ok (.iload_n 2, 1) := by decide +kernel
theorem dX6_by_73 : decode cX6_by 73 = .ok (.invokestatic 218, 3) := by decide +kernel
theorem dX6_by_76 : decode cX6_by 76 = .ok (.ireturn, 1) := by decide +kernel
theorem dX6_hold_0 : decode cX6_hold 0 = .ok (.aload_n 0, 1) := by decide +kernel
theorem dX6_hold_1 : decode cX6_hold 1 = .ok (.getfield 10, 3) := by decide +kernel
theorem dX6_hold_4 : decode cX6_hold 4 = .ok (.invokevirtual 221, 3) := by decide +kernel
theorem dX6_hold_7 : decode cX6_hold 7 = .ok (.ireturn, 1) := by decide +kernel
theorem dX6_order_0 : decode cX6_order 0 = .ok (.iload_n 1, 1) := by decide +kernel
theorem dX6_order_1 : decode cX6_order 1 = .ok (.invokestatic 225, 3) := by decide +kernel
theorem dX6_order_4 : decode cX6_order 4 = .ok (.istore_n 3, 1) := by decide +kernel
theorem dX6_order_5 : decode cX6_order 5 = .ok (.iload_n 2, 1) := by decide +kernel
theorem dX6_order_6 : decode cX6_order 6 = .ok (.iconst (-1), 1) := by decide +kernel
theorem dX6_order_7 : decode cX6_order 7 = .ok (.iload_n 3, 1) := by decide +kernel
theorem dX6_order_8 : decode cX6_order 8 = .ok (.iconst 1, 1) := by decide +kernel
theorem dX6_order_9 : decode cX6_order 9 = .ok (.isub, 1) := by decide +kernel
theorem dX6_order_10 : decode cX6_order 10 = .ok (.invokestatic 63, 3) := by decide +kernel
theorem dX6_order_13 : decode cX6_order 13 = .ok (.ifCond .ne 10, 3) := by decide +kernel
theorem dX6_order_16 : decode cX6_order 16 = .ok (.aload_n 0, 1) := by decide +kernel
theorem dX6_order_17 : decode cX6_order 17 = .ok (.bipush (-5), 2) := by decide +kernel
theorem dX6_order_19 : decode cX6_order 19 = .ok (.invokevirtual 59, 3) := by decide +kernel
theorem dX6_order_22 : decode cX6_order 22 = .ok (.ireturn, 1) := by decide +kernel
theorem dX6_order_23 : decode cX6_order 23 = .ok (.iload_n 3, 1) := by decide +kernel
theorem dX6_order_24 : decode cX6_order 24 = .ok (.bipush 6, 2) := by decide +kernel
theorem dX6_order_26 : decode cX6_order 26 = .ok (.if_icmp .gt 14, 3) := by decide +kernel
theorem dX6_order_29 : decode cX6_order 29 = .ok (.aload_n 0, 1) := by decide +kernel
theorem dX6_order_30 : decode cX6_order 30 = .ok (.getfield 10, 3) := by decide +kernel
theorem dX6_order_33 : decode cX6_order 33 = .ok (.iload_n 1, 1) := by decide +kernel
theorem dX6_order_34 : decode cX6_order 34 = .ok (.invokevirtual 230, 3) := by decide +kernel
theorem dX6_order_37 : decode cX6_order 37 = .ok (.ifCond .ne 10, 3) := by decide +kernel
theorem dX6_order_40 : decode cX6_order 40 = .ok (.aload_n 0, 1) := by decide +kernel
theorem dX6_order_41 : decode cX6_order 41 = .ok (.bipush (-6), 2) := by decide +kernel
theorem dX6_order_43 : decode cX6_order 43 = .ok (.invokevirtual 59, 3) := by decide +kernel
theorem dX6_order_46 : decode cX6_order 46 = .ok (.ireturn, 1) := by decide +kernel
theorem dX6_order_47 : decode cX6_order 47 = .ok (.aload_n 0, 1) := by decide +kernel
theorem dX6_order_48 : decode cX6_order 48 = .ok (.getfield 22, 3) := by decide +kernel
theorem dX6_order_51 : decode cX6_order 51 = .ok (.aload_n 0, 1) := by decide +kernel
theorem dX6_order_52 : decode cX6_order 52 = .ok (.getfield 10, 3) := by decide +kernel
theorem dX6_order_55 : decode cX6_order 55 = .ok (.iload_n 1, 1) := by decide +kernel
theorem dX6_order_56 : decode cX6_order 56 = .ok (.invokevirtual 233, 3) := by decide +kernel
theorem dX6_order_59 : decode cX6_order 59 = .ok (.istore 4, 2) := by decide +kernel
theorem dX6_order_61 : decode cX6_order 61 = .ok (.iload_n 2, 1) := by decide +kernel
theorem dX6_order_62 : decode cX6_order 62 = .ok (.iconst (-1), 1) := by decide +kernel
theorem dX6_order_63 : decode cX6_order 63 = .ok (.if_icmp .ne 8, 3) := by decide +kernel
theorem dX6_order_66 : decode cX6_order 66 = .ok (.iload 4, 2) := by decide +kernel
theorem dX6_order_68 : decode cX6_order 68 = .ok (.goto 16, 3) := by decide +kernel
theorem dX6_order_71 : decode cX6_order 71 = .ok (.aload_n 0, 1) := by decide +kernel
theorem dX6_order_72 : decode cX6_order 72 = .ok (.getfield 22, 3) := by decide +kernel
theorem dX6_order_75 : decode cX6_order 75 = .ok (.aload_n 0, 1) := by decide +kernel
theorem dX6_order_76 : decode cX6_order 76 = .ok (.getfield 10, 3) := by decide +kernel
theorem dX6_order_79 : decode cX6_order 79 = .ok (.iload_n 1, 1) := by decide +kernel
theorem dX6_order_80 : decode cX6_order 80 = .ok (.iload_n 2, 1) := by decide +kernel
theorem dX6_order_81 : decode cX6_order 81 = .ok (.invokevirtual 236, 3) := by decide +kernel
theorem dX6_order_84 : decode cX6_order 84 = .ok (.ireturn, 1) := by decide +kernel
theorem dX6_blame_0 : decode cX6_blame 0 = .ok (.iconst 0, 1) := by decide +kernel
theorem dX6_blame_1 : decode cX6_blame 1 = .ok (.istore_n 1, 1) := by decide +kernel
theorem dX6_blame_2 : decode cX6_blame 2 = .ok (.iconst (-1), 1) := by decide +kernel
theorem dX6_blame_3 : decode cX6_blame 3 = .ok (.istore_n 2, 1) := by decide +kernel
theorem dX6_blame_4 : decode cX6_blame 4 = .ok (.iconst 0, 1) := by decide +kernel
theorem dX6_blame_5 : decode cX6_blame 5 = .ok (.istore_n 3, 1) := by decide +kernel
theorem dX6_blame_6 : decode cX6_blame 6 = .ok (.iload_n 3, 1) := by decide +kernel
theorem dX6_blame_7 : decode cX6_blame 7 = .ok (.aload_n 0, 1) := by decide +kernel
theorem dX6_blame_8 : decode cX6_blame 8 = .ok (.getfield 10, 3) := by decide +kernel
theorem dX6_blame_11 : decode cX6_blame 11 = .ok (.getfield 239, 3) := by decide +kernel
theorem dX6_blame_14 : decode cX6_blame 14 = .ok (.if_icmp .ge 62, 3) := by decide +kernel
theorem dX6_blame_17 : decode cX6_blame 17 = .ok (.iconst 0, 1) := by decide +kernel
theorem dX6_blame_18 : decode cX6_blame 18 = .ok (.istore 4, 2) := by decide +kernel
theorem dX6_blame_20 : decode cX6_blame 20 = .ok (.iload 4, 2) := by decide +kernel
theorem dX6_blame_22 : decode cX6_blame 22 = .ok (.aload_n 0, 1) := by decide +kernel
theorem dX6_blame_23 : decode cX6_blame 23 = .ok (.getfield 10, 3) := by decide +kernel
theorem dX6_blame_26 : decode cX6_blame 26 = .ok (.getfield 239, 3) := by decide +kernel
theorem dX6_blame_29 : decode cX6_blame 29 = .ok (.if_icmp .ge 41, 3) := by decide +kernel
theorem dX6_blame_32 : decode cX6_blame 32 = .ok (.aload_n 0, 1) := by decide +kernel
theorem dX6_blame_33 : decode cX6_blame 33 = .ok (.getfield 10, 3) := by decide +kernel
theorem dX6_blame_36 : decode cX6_blame 36 = .ok (.iload_n 3, 1) := by decide +kernel
theorem dX6_blame_37 : decode cX6_blame 37 = .ok (.iload 4, 2) := by decide +kernel
theorem dX6_blame_39 : decode cX6_blame 39 = .ok (.invokevirtual 164, 3) := by decide +kernel
theorem dX6_blame_42 : decode cX6_blame 42 = .ok (.invokestatic 242, 3) := by decide +kernel
theorem dX6_blame_45 : decode cX6_blame 45 = .ok (.istore 5, 2) := by decide +kernel
theorem dX6_blame_47 : decode cX6_blame 47 = .ok (.iload 5, 2) := by decide +kernel
theorem dX6_blame_49 : decode cX6_blame 49 = .ok (.iload_n 1, 1) := by decide +kernel
theorem dX6_blame_50 : decode cX6_blame 50 = .ok (.if_icmp .le 14, 3) := by decide +kernel
theorem dX6_blame_53 : decode cX6_blame 53 = .ok (.iload 5, 2) := by decide +kernel
theorem dX6_blame_55 : decode cX6_blame 55 = .ok (.istore_n 1, 1) := by decide +kernel
theorem dX6_blame_56 : decode cX6_blame 56 = .ok (.bipush 100, 2) := by decide +kernel
theorem dX6_blame_58 : decode cX6_blame 58 = .ok (.iload_n 3, 1) := by decide +kernel
theorem dX6_blame_59 : decode cX6_blame 59 = .ok (.imul, 1) := by decide +kernel
theorem dX6_blame_60 : decode cX6_blame 60 = .ok (.iload 4, 2) := by decide +kernel
theorem dX6_blame_62 : decode cX6_blame 62 = .ok (.iadd, 1) := by decide +kernel
theorem dX6_blame_63 : decode cX6_blame 63 = .ok (.istore_n 2, 1) := by decide +kernel
theorem dX6_blame_64 : decode cX6_blame 64 = .ok (.iinc 4 1, 3) := by decide +kernel
theorem dX6_blame_67 : decode cX6_blame 67 = .ok (.goto (-47), 3) := by decide +kernel
theorem dX6_blame_70 : decode cX6_blame 70 = .ok (.iinc 3 1, 3) := by decide +kernel
theorem dX6_blame_73 : decode cX6_blame 73 = .ok (.goto (-67), 3) := by decide +kernel
theorem dX6_blame_76 : decode cX6_blame 76 = .ok (.iload_n 2, 1) := by decide +kernel
theorem dX6_blame_77 : decode cX6_blame 77 = .ok (.ireturn, 1) := by decide +kernel
theorem dX6_nothing_0 : decode cX6_nothing 0 = .ok (.aload_n 0, 1) := by decide +kernel
theorem dX6_nothing_1 : decode cX6_nothing 1 = .ok (.getfield 10, 3) := by decide +kernel
theorem dX6_nothing_4 : decode cX6_nothing 4 = .ok (.iload_n 1, 1) := by decide +kernel
theorem dX6_nothing_5 : decode cX6_nothing 5 = .ok (.invokevirtual 93, 3) := by decide +kernel
theorem dX6_nothing_8 : decode cX6_nothing 8 = .ok (.ifCond .eq 14, 3) := by decide +kernel
theorem dX6_nothing_11 : decode cX6_nothing 11 = .ok (.aload_n 0, 1) := by decide +kernel
theorem dX6_nothing_12 : decode cX6_nothing 12 = .ok (.getfield 10, 3) := by decide +kernel
theorem dX6_nothing_15 : decode cX6_nothing 15 = .ok (.iload_n 2, 1) := by decide +kernel
theorem dX6_nothing_16 : decode cX6_nothing 16 = .ok (.invokevirtual 93, 3) := by decide +kernel
theorem dX6_nothing_19 : decode cX6_nothing 19 = .ok (.ifCond .ne 9, 3) := by decide +kernel
theorem dX6_nothing_22 : decode cX6_nothing 22 = .ok (.aload_n 0, 1) := by decide +kernel
theorem dX6_nothing_23 : decode cX6_nothing 23 = .ok (.iconst (-1), 1) := by decide +kernel
theorem dX6_nothing_24 : decode cX6_nothing 24 = .ok (.invokevirtual 134, 3) := by decide +kernel
theorem dX6_nothing_27 : decode cX6_nothing 27 = .ok (.ireturn, 1) := by decide +kernel
theorem dX6_nothing_28 : decode cX6_nothing 28 = .ok (.sipush 1000, 3) := by decide +kernel
theorem dX6_nothing_31 : decode cX6_nothing 31 = .ok (.aload_n 0, 1) := by decide +kernel
theorem dX6_nothing_32 : decode cX6_nothing 32 = .ok (.getfield 10, 3) := by decide +kernel
theorem dX6_nothing_35 : decode cX6_nothing 35 = .ok (.iload_n 1, 1) := by decide +kernel
theorem dX6_nothing_36 : decode cX6_nothing 36 = .ok (.sipush 1023, 3) := by decide +kernel
theorem dX6_nothing_39 : decode cX6_nothing 39 = .ok (.invokevirtual 113, 3) := by decide +kernel
theorem dX6_nothing_42 : decode cX6_nothing 42 = .ok (.isub, 1) := by decide +kernel
theorem dX6_nothing_43 : decode cX6_nothing 43 = .ok (.aload_n 0, 1) := by decide +kernel
theorem dX6_nothing_44 : decode cX6_nothing 44 = .ok (.getfield 10, 3) := by decide +kernel
theorem dX6_nothing_47 : decode cX6_nothing 47 = .ok (.iload_n 2, 1) := by decide +kernel
theorem dX6_nothing_48 : decode cX6_nothing 48 = .ok (.sipush 1023, 3) := by decide +kernel
theorem dX6_nothing_51 : decode cX6_nothing 51 = .ok (.invokevirtual 113, 3) := by decide +kernel
theorem dX6_nothing_54 : decode cX6_nothing 54 = .ok (.isub, 1) := by decide +kernel
theorem dX6_nothing_55 : decode cX6_nothing 55 = .ok (.ireturn, 1) := by decide +kernel
theorem dX6_enough_0 : decode cX6_enough 0 = .ok (.aload_n 0, 1) := by decide +kernel
theorem dX6_enough_1 : decode cX6_enough 1 = .ok (.getfield 10, 3) := by decide +kernel
theorem dX6_enough_4 : decode cX6_enough 4 = .ok (.iload_n 1, 1) := by decide +kernel
theorem dX6_enough_5 : decode cX6_enough 5 = .ok (.invokevirtual 93, 3) := by decide +kernel
theorem dX6_enough_8 : decode cX6_enough 8 = .ok (.ifCond .ne 9, 3) := by decide +kernel
theorem dX6_enough_11 : decode cX6_enough 11 = .ok (.aload_n 0, 1) := by decide +kernel
theorem dX6_enough_12 : decode cX6_enough 12 = .ok (.iconst (-1), 1) := by decide +kernel
theorem dX6_enough_13 : decode cX6_enough 13 = .ok (.invokevirtual 247, 3) := by decide +kernel
theorem dX6_enough_16 : decode cX6_enough 16 = .ok (.ireturn, 1) := by decide +kernel
theorem dX6_enough_17 : decode cX6_enough 17 = .ok (.iload_n 2, 1) := by decide +kernel
theorem dX6_enough_18 : decode cX6_enough 18 = .ok (.iconst 0, 1) := by decide +kernel
theorem dX6_enough_19 : decode cX6_enough 19 = .ok (.sipush 1000, 3) := by decide +kernel
theorem dX6_enough_22 : decode cX6_enough 22 = .ok (.invokestatic 63, 3) := by decide +kernel
theorem dX6_enough_25 : decode cX6_enough 25 = .ok (.ifCond .ne 10, 3) := by decide +kernel
theorem dX6_enough_28 : decode cX6_enough 28 = .ok (.aload_n 0, 1) := by decide +kernel
theorem dX6_enough_29 : decode cX6_enough 29 = .ok (.bipush (-6), 2) := by decide +kernel
theorem dX6_enough_31 : decode cX6_enough 31 = .ok (.invokevirtual 247, 3) := by decide +kernel
theorem dX6_enough_34 : decode cX6_enough 34 = .ok (.ireturn, 1) := by decide +kernel
theorem dX6_enough_35 : decode cX6_enough 35 = .ok (.aload_n 0, 1) := by decide +kernel
theorem dX6_enough_36 : decode cX6_enough 36 = .ok (.getfield 10, 3) := by decide +kernel
theorem dX6_enough_39 : decode cX6_enough 39 = .ok (.iload_n 1, 1) := by decide +kernel
theorem dX6_enough_40 : decode cX6_enough 40 = .ok (.iload_n 2, 1) := by decide +kernel
theorem dX6_enough_41 : decode cX6_enough 41 = .ok (.invokestatic 250, 3) := by decide +kernel
theorem dX6_enough_44 : decode cX6_enough 44 = .ok (.ireturn, 1) := by decide +kernel
theorem dX6_cost_0 : decode cX6_cost 0 = .ok (.iload_n 1, 1) := by decide +kernel
theorem dX6_cost_1 : decode cX6_cost 1 = .ok (.iconst 0, 1) := by decide +kernel
theorem dX6_cost_2 : decode cX6_cost 2 = .ok (.bipush 9, 2) := by decide +kernel
theorem dX6_cost_4 : decode cX6_cost 4 = .ok (.invokestatic 63, 3) := by decide +kernel
theorem dX6_cost_7 : decode cX6_cost 7 = .ok (.ifCond .ne 10, 3) := by decide +kernel
theorem dX6_cost_10 : decode cX6_cost 10 = .ok (.aload_n 0, 1) := by decide +kernel
theorem dX6_cost_11 : decode cX6_cost 11 = .ok (.bipush (-6), 2) := by decide +kernel
theorem dX6_cost_13 : decode cX6_cost 13 = .ok (.invokevirtual 59, 3) := by decide +kernel
theorem dX6_cost_16 : decode cX6_cost 16 = .ok (.ireturn, 1) := by decide +kernel
theorem dX6_cost_17 : decode cX6_cost 17 = .ok (.aload_n 0, 1) := by decide +kernel
theorem dX6_cost_18 : decode cX6_cost 18 = .ok (.getfield 10, 3) := by decide +kernel
theorem dX6_cost_21 : decode cX6_cost 21 = .ok (.iload_n 1, 1) := by decide +kernel
theorem dX6_cost_22 : decode cX6_cost 22 = .ok (.invokestatic 253, 3) := by decide +kernel
theorem dX6_cost_25 : decode cX6_cost 25 = .ok (.ireturn, 1) := by decide +kernel
theorem dX6_fine_0 : decode cX6_fine 0 = .ok (.aload_n 0, 1) := by decide +kernel
theorem dX6_fine_1 : decode cX6_fine 1 = .ok (.getfield 10, 3) := by decide +kernel
theorem dX6_fine_4 : decode cX6_fine 4 = .ok (.iload_n 1, 1) := by decide +kernel
theorem dX6_fine_5 : decode cX6_fine 5 = .ok (.invokevirtual 93, 3) := by decide +kernel
theorem dX6_fine_8 : decode cX6_fine 8 = .ok (.ifCond .ne 9, 3) := by decide +kernel
theorem dX6_fine_11 : decode cX6_fine 11 = .ok (.aload_n 0, 1) := by decide +kernel
theorem dX6_fine_12 : decode cX6_fine 12 = .ok (.iconst (-1), 1) := by decide +kernel
theorem dX6_fine_13 : decode cX6_fine 13 = .ok (.invokevirtual 59, 3) := by decide +kernel
theorem dX6_fine_16 : decode cX6_fine 16 = .ok (.ireturn, 1) := by decide +kernel
theorem dX6_fine_17 : decode cX6_fine 17 = .ok (.iload_n 2, 1) := by decide +kernel
theorem dX6_fine_18 : decode cX6_fine 18 = .ok (.ifCond .ge 10, 3) := by decide +kernel
theorem dX6_fine_21 : decode cX6_fine 21 = .ok (.aload_n 0, 1) := by decide +kernel
theorem dX6_fine_22 : decode cX6_fine 22 = .ok (.bipush (-6), 2) := by decide +kernel
theorem dX6_fine_24 : decode cX6_fine 24 = .ok (.invokevirtual 59, 3) := by decide +kernel
theorem dX6_fine_27 : decode cX6_fine 27 = .ok (.ireturn, 1) := by decide +kernel
theorem dX6_fine_28 : decode cX6_fine 28 = .ok (.aload_n 0, 1) := by decide +kernel
theorem dX6_fine_29 : decode cX6_fine 29 = .ok (.getfield 10, 3) := by decide +kernel
theorem dX6_fine_32 : decode cX6_fine 32 = .ok (.iload_n 1, 1) := by decide +kernel
theorem dX6_fine_33 : decode cX6_fine 33 = .ok (.iload_n 2, 1) := by decide +kernel
theorem dX6_fine_34 : decode cX6_fine 34 = .ok (.invokestatic 256, 3) := by decide +kernel
theorem dX6_fine_37 : decode cX6_fine 37 = .ok (.ireturn, 1) := by decide +kernel
theorem dX6_never_0 : decode cX6_never 0 = .ok (.aload_n 0, 1) := by decide +kernel
theorem dX6_never_1 : decode cX6_never 1 = .ok (.getfield 10, 3) := by decide +kernel
theorem dX6_never_4 : decode cX6_never 4 = .ok (.invokestatic 259, 3) := by decide +kernel
theorem dX6_never_7 : decode cX6_never 7 = .ok (.ireturn, 1) := by decide +kernel
theorem dX6_late_0 : decode cX6_late 0 = .ok (.iload_n 1, 1) := by decide +kernel
theorem dX6_late_1 : decode cX6_late 1 = .ok (.iconst (-1), 1) := by decide +kernel
theorem dX6_late_2 : decode cX6_late 2 = .ok (.if_icmp .eq 20, 3) := by decide +kernel
theorem dX6_late_5 : decode cX6_late 5 = .ok (.aload_n 0, 1) := by decide +kernel
theorem dX6_late_6 : decode cX6_late 6 = .ok (.getfield 10, 3) := by decide +kernel
theorem dX6_late_9 : decode cX6_late 9 = .ok (.iload_n 1, 1) := by decide +kernel
theorem dX6_late_10 : decode cX6_late 10 = .ok (.invokevirtual 93, 3) := by decide +kernel
theorem dX6_late_13 : decode cX6_late 13 = .ok (.ifCond .ne 9, 3) := by decide +kernel
theorem dX6_late_16 : decode cX6_late 16 = .ok (.aload_n 0, 1) := by decide +kernel
theorem dX6_late_17 : decode cX6_late 17 = .ok (.iconst (-1), 1) := by decide +kernel
theorem dX6_late_18 : decode cX6_late 18 = .ok (.invokevirtual 59, 3) := by decide +kernel
theorem dX6_late_21 : decode cX6_late 21 = .ok (.ireturn, 1) := by decide +kernel
theorem dX6_late_22 : decode cX6_late 22 = .ok (.iload_n 2, 1) := by decide +kernel
theorem dX6_late_23 : decode cX6_late 23 = .ok (.iconst 1, 1) := by decide +kernel
theorem dX6_late_24 : decode cX6_late 24 = .ok (.bipush 9, 2) := by decide +kernel
theorem dX6_late_26 : decode cX6_late 26 = .ok (.invokestatic 63, 3) := by decide +kernel
theorem dX6_late_29 : decode cX6_late 29 = .ok (.ifCond .ne 10, 3) := by decide +kernel
theorem dX6_late_32 : decode cX6_late 32 = .ok (.aload_n 0, 1) := by decide +kernel
theorem dX6_late_33 : decode cX6_late 33 = .ok (.bipush (-6), 2) := by decide +kernel
theorem dX6_late_35 : decode cX6_late 35 = .ok (.invokevirtual 59, 3) := by decide +kernel
theorem dX6_late_38 : decode cX6_late 38 = .ok (.ireturn, 1) := by decide +kernel
theorem dX6_late_39 : decode cX6_late 39 = .ok (.iload_n 1, 1) := by decide +kernel
theorem dX6_late_40 : decode cX6_late 40 = .ok (.iconst (-1), 1) := by decide +kernel
theorem dX6_late_41 : decode cX6_late 41 = .ok (.if_icmp .ne 15, 3) := by decide +kernel
theorem dX6_late_44 : decode cX6_late 44 = .ok (.aload_n 0, 1) := by decide +kernel
theorem dX6_late_45 : decode cX6_late 45 = .ok (.getfield 10, 3) := by decide +kernel
theorem dX6_late_48 : decode cX6_late 48 = .ok (.iload_n 2, 1) := by decide +kernel
theorem dX6_late_49 : decode cX6_late 49 = .ok (.iconst 1, 1) := by decide +kernel
theorem dX6_late_50 : decode cX6_late 50 = .ok (.isub, 1) := by decide +kernel
theorem dX6_late_51 : decode cX6_late 51 = .ok (.iload_n 2, 1) := by decide +kernel
theorem dX6_late_52 : decode cX6_late 52 = .ok (.invokestatic 204, 3) := by decide +kernel
theorem dX6_late_55 : decode cX6_late 55 = .ok (.ireturn, 1) := by decide +kernel
theorem dX6_late_56 : decode cX6_late 56 = .ok (.aload_n 0, 1) := by decide +kernel
theorem dX6_late_57 : decode cX6_late 57 = .ok (.getfield 10, 3) := by decide +kernel
theorem dX6_late_60 : decode cX6_late 60 = .ok (.iload_n 1, 1) := by decide +kernel
theorem dX6_late_61 : decode cX6_late 61 = .ok (.iload_n 2, 1) := by decide +kernel
theorem dX6_late_62 : decode cX6_late 62 = .ok (.iconst 1, 1) := by decide +kernel
theorem dX6_late_63 : decode cX6_late 63 = .ok (.isub, 1) := by decide +kernel
theorem dX6_late_64 : decode cX6_late 64 = .ok (.iload_n 2, 1) := by decide +kernel
theorem dX6_late_65 : decode cX6_late 65 = .ok (.invokestatic 214, 3) := by decide +kernel
theorem dX6_late_68 : decode cX6_late 68 = .ok (.ireturn, 1) := by decide +kernel
theorem dX6_fits_0 : decode cX6_fits 0 = .ok (.iload_n 1, 1) := by decide +kernel
theorem dX6_fits_1 : decode cX6_fits 1 = .ok (.iconst 0, 1) := by decide +kernel
theorem dX6_fits_2 : decode cX6_fits 2 = .ok (.sipush 1000, 3) := by decide +kernel
theorem dX6_fits_5 : decode cX6_fits 5 = .ok (.invokestatic 63, 3) := by decide +kernel
theorem dX6_fits_8 : decode cX6_fits 8 = .ok (.ifCond .eq 14, 3) := by decide +kernel
theorem dX6_fits_11 : decode cX6_fits 11 = .ok (.iload_n 2, 1) := by decide +kernel
theorem dX6_fits_12 : decode cX6_fits 12 = .ok (.iconst 0, 1) := by decide +kernel
theorem dX6_fits_13 : decode cX6_fits 13 = .ok (.sipush 1000, 3) := by decide +kernel
theorem dX6_fits_16 : decode cX6_fits 16 = .ok (.invokestatic 63, 3) := by decide +kernel
theorem dX6_fits_19 : decode cX6_fits 19 = .ok (.ifCond .ne 10, 3) := by decide +kernel
theorem dX6_fits_22 : decode cX6_fits 22 = .ok (.aload_n 0, 1) := by decide +kernel
theorem dX6_fits_23 : decode cX6_fits 23 = .ok (.bipush (-6), 2) := by decide +kernel
theorem dX6_fits_25 : decode cX6_fits 25 = .ok (.invokevirtual 59, 3) := by decide +kernel
theorem dX6_fits_28 : decode cX6_fits 28 = .ok (.ireturn, 1) := by decide +kernel
theorem dX6_fits_29 : decode cX6_fits 29 = .ok (.iconst 0, 1) := by decide +kernel
theorem dX6_fits_30 : decode cX6_fits 30 = .ok (.istore_n 3, 1) := by decide +kernel
theorem dX6_fits_31 : decode cX6_fits 31 = .ok (.iconst 0, 1) := by decide +kernel
theorem dX6_fits_32 : decode cX6_fits 32 = .ok (.istore 4, 2) := by decide +kernel
theorem dX6_fits_34 : decode cX6_fits 34 = .ok (.iload 4, 2) := by decide +kernel
theorem dX6_fits_36 : decode cX6_fits 36 = .ok (.aload_n 0, 1) := by decide +kernel
theorem dX6_fits_37 : decode cX6_fits 37 = .ok (.getfield 10, 3) := by decide +kernel
theorem dX6_fits_40 : decode cX6_fits 40 = .ok (.getfield 239, 3) := by decide +kernel
theorem dX6_fits_43 : decode cX6_fits 43 = .ok (.if_icmp .ge 37, 3) := by decide +kernel
theorem dX6_fits_46 : decode cX6_fits 46 = .ok (.aload_n 0, 1) := by decide +kernel
theorem dX6_fits_47 : decode cX6_fits 47 = .ok (.getfield 10, 3) := by decide +kernel
theorem dX6_fits_50 : decode cX6_fits 50 = .ok (.iload 4, 2) := by decide +kernel
theorem dX6_fits_52 : decode cX6_fits 52 = .ok (.sipush 1023, 3) := by decide +kernel
theorem dX6_fits_55 : decode cX6_fits 55 = .ok (.invokevirtual 113, 3) := by decide +kernel
theorem dX6_fits_58 : decode cX6_fits 58 = .ok (.iload_n 1, 1) := by decide +kernel
theorem dX6_fits_59 : decode cX6_fits 59 = .ok (.isub, 1) := by decide +kernel
theorem dX6_fits_60 : decode cX6_fits 60 = .ok (.invokestatic 242, 3) := by decide +kernel
theorem dX6_fits_63 : decode cX6_fits 63 = .ok (.iload_n 2, 1) := by decide +kernel
theorem dX6_fits_64 : decode cX6_fits 64 = .ok (.if_icmp .gt 10, 3) := by decide +kernel
theorem dX6_fits_67 : decode cX6_fits 67 = .ok (.iload_n 3, 1) := by decide +kernel
theorem dX6_fits_68 : decode cX6_fits 68 = .ok (.iconst 1, 1) := by decide +kernel
theorem dX6_fits_69 : decode cX6_fits 69 = .ok (.iload 4, 2) := by decide +kernel
theorem dX6_fits_71 : decode cX6_fits 71 = .ok (.ishl, 1) := by decide +kernel
theorem dX6_fits_72 : decode cX6_fits 72 = .ok (.ior, 1) := by decide +kernel
theorem dX6_fits_73 : decode cX6_fits 73 = .ok (.istore_n 3, 1) := by decide +kernel
theorem dX6_fits_74 : decode cX6_fits 74 = .ok (.iinc 4 1, 3) := by decide +kernel
theorem dX6_fits_77 : decode cX6_fits 77 = .ok (.goto (-43), 3) := by decide +kernel
theorem dX6_fits_80 : decode cX6_fits 80 = .ok (.iload_n 3, 1) := by decide +kernel
theorem dX6_fits_81 : decode cX6_fits 81 = .ok (.ireturn, 1) := by decide +kernel
theorem dX6_halves_0 : decode cX6_halves 0 = .ok (.aload_n 0, 1) := by decide +kernel
theorem dX6_halves_1 : decode cX6_halves 1 = .ok (.getfield 10, 3) := by decide +kernel
theorem dX6_halves_4 : decode cX6_halves 4 = .ok (.iload_n 1, 1) := by decide +kernel
theorem dX6_halves_5 : decode cX6_halves 5 = .ok (.invokevirtual 93, 3) := by decide +kernel
theorem dX6_halves_8 : decode cX6_halves 8 = .ok (.ifCond .eq 20, 3) := by decide +kernel
theorem dX6_halves_11 : decode cX6_halves 11 = .ok (.aload_n 0, 1) := by decide +kernel
theorem dX6_halves_12 : decode cX6_halves 12 = .ok (.getfield 10, 3) := by decide +kernel
theorem dX6_halves_15 : decode cX6_halves 15 = .ok (.aload_n 0, 1) := by decide +kernel
theorem dX6_halves_16 : decode cX6_halves 16 = .ok (.getfield 10, 3) := by decide +kernel
theorem dX6_halves_19 : decode cX6_halves 19 = .ok (.getfield 173, 3) := by decide +kernel
theorem dX6_halves_22 : decode cX6_halves 22 = .ok (.invokevirtual 93, 3) := by decide +kernel
theorem dX6_halves_25 : decode cX6_halves 25 = .ok (.ifCond .ne 9, 3) := by decide +kernel
theorem dX6_halves_28 : decode cX6_halves 28 = .ok (.aload_n 0, 1) := by decide +kernel
theorem dX6_halves_29 : decode cX6_halves 29 = .ok (.iconst (-1), 1) := by decide +kernel
theorem dX6_halves_30 : decode cX6_halves 30 = .ok (.invokevirtual 134, 3) := by decide +kernel
theorem dX6_halves_33 : decode cX6_halves 33 = .ok (.ireturn, 1) := by decide +kernel
theorem dX6_halves_34 : decode cX6_halves 34 = .ok (.aload_n 0, 1) := by decide +kernel
theorem dX6_halves_35 : decode cX6_halves 35 = .ok (.getfield 10, 3) := by decide +kernel
theorem dX6_halves_38 : decode cX6_halves 38 = .ok (.iload_n 1, 1) := by decide +kernel
theorem dX6_halves_39 : decode cX6_halves 39 = .ok (.sipush 341, 3) := by decide +kernel
theorem dX6_halves_42 : decode cX6_halves 42 = .ok (.invokevirtual 113, 3) := by decide +kernel
theorem dX6_halves_45 : decode cX6_halves 45 = .ok (.aload_n 0, 1) := by decide +kernel
theorem dX6_halves_46 : decode cX6_halves 46 = .ok (.getfield 10, 3) := by decide +kernel
theorem dX6_halves_49 : decode cX6_halves 49 = .ok (.aload_n 0, 1) := by decide +kernel
theorem dX6_halves_50 : decode cX6_halves 50 = .ok (.getfield 10, 3) := by decide +kernel
theorem dX6_halves_53 : decode cX6_halves 53 = .ok (.getfield 173, 3) := by decide +kernel
theorem dX6_halves_56 : decode cX6_halves 56 = .ok (.sipush 682, 3) := by decide +kernel
theorem dX6_halves_59 : decode cX6_halves 59 = .ok (.invokevirtual 113, 3) := by decide +kernel
theorem dX6_halves_62 : decode cX6_halves 62 = .ok (.isub, 1) := by decide +kernel
theorem dX6_halves_63 : decode cX6_halves 63 = .ok (.ireturn, 1) := by decide +kernel
theorem dX6_twin_0 : decode cX6_twin 0 = .ok (.aload_n 0, 1) := by decide +kernel
theorem dX6_twin_1 : decode cX6_twin 1 = .ok (.getfield 10, 3) := by decide +kernel
theorem dX6_twin_4 : decode cX6_twin 4 = .ok (.iload_n 1, 1) := by decide +kernel
theorem dX6_twin_5 : decode cX6_twin 5 = .ok (.invokevirtual 93, 3) := by decide +kernel
theorem dX6_twin_8 : decode cX6_twin 8 = .ok (.ifCond .ne 9, 3) := by decide +kernel
theorem dX6_twin_11 : decode cX6_twin 11 = .ok (.aload_n 0, 1) := by decide +kernel
theorem dX6_twin_12 : decode cX6_twin 12 = .ok (.iconst (-1), 1) := by decide +kernel
theorem dX6_twin_13 : decode cX6_twin 13 = .ok (.invokevirtual 247, 3) := by decide +kernel
theorem dX6_twin_16 : decode cX6_twin 16 = .ok (.ireturn, 1) := by decide +kernel
theorem dX6_twin_17 : decode cX6_twin 17 = .ok (.aload_n 0, 1) := by decide +kernel
theorem dX6_twin_18 : decode cX6_twin 18 = .ok (.getfield 10, 3) := by decide +kernel
theorem dX6_twin_21 : decode cX6_twin 21 = .ok (.iload_n 1, 1) := by decide +kernel
theorem dX6_twin_22 : decode cX6_twin 22 = .ok (.sipush 1023, 3) := by decide +kernel
theorem dX6_twin_25 : decode cX6_twin 25 = .ok (.invokevirtual 113, 3) := by decide +kernel
theorem dX6_twin_28 : decode cX6_twin 28 = .ok (.istore_n 2, 1) := by decide +kernel
theorem dX6_twin_29 : decode cX6_twin 29 = .ok (.ldc_w 263, 3) := by decide +kernel
theorem dX6_twin_32 : decode cX6_twin 32 = .ok (.istore_n 3, 1) := by decide +kernel
theorem dX6_twin_33 : decode cX6_twin 33 = .ok (.iconst (-1), 1) := by decide +kernel
theorem dX6_twin_34 : decode cX6_twin 34 = .ok (.istore 4, 2) := by decide +kernel
theorem dX6_twin_36 : decode cX6_twin 36 = .ok (.iconst 0, 1) := by decide +kernel
theorem dX6_twin_37 : decode cX6_twin 37 = .ok (.istore 5, 2) := by decide +kernel
theorem dX6_twin_39 : decode cX6_twin 39 = .ok (.iload 5, 2) := by decide +kernel
theorem dX6_twin_41 : decode cX6_twin 41 = .ok (.aload_n 0, 1) := by decide +kernel
theorem dX6_twin_42 : decode cX6_twin 42 = .ok (.getfield 10, 3) := by decide +kernel
theorem dX6_twin_45 : decode cX6_twin 45 = .ok (.getfield 239, 3) := by decide +kernel
theorem dX6_twin_48 : decode cX6_twin 48 = .ok (.if_icmp .ge 51, 3) := by decide +kernel
theorem dX6_twin_51 : decode cX6_twin 51 = .ok (.iload_n 2, 1) := by decide +kernel
theorem dX6_twin_52 : decode cX6_twin 52 = .ok (.aload_n 0, 1) := by decide +kernel
theorem dX6_twin_53 : decode cX6_twin 53 = .ok (.getfield 10, 3) := by decide +kernel
theorem dX6_twin_56 : decode cX6_twin 56 = .ok (.iload 5, 2) := by decide +kernel
theorem dX6_twin_58 : decode cX6_twin 58 = .ok (.sipush 1023, 3) := by decide +kernel
theorem dX6_twin_61 : decode cX6_twin 61 = .ok (.invokevirtual 113, 3) := by decide +kernel
theorem dX6_twin_64 : decode cX6_twin 64 = .ok (.iadd, 1) := by decide +kernel
theorem dX6_twin_65 : decode cX6_twin 65 = .ok (.sipush 1000, 3) := by decide +kernel
theorem dX6_twin_68 : decode cX6_twin 68 = .ok (.isub, 1) := by decide +kernel
theorem dX6_twin_69 : decode cX6_twin 69 = .ok (.invokestatic 242, 3) := by decide +kernel
theorem dX6_twin_72 : decode cX6_twin 72 = .ok (.istore 6, 2) := by decide +kernel
theorem dX6_twin_74 : decode cX6_twin 74 = .ok (.iload 5, 2) := by decide +kernel
theorem dX6_twin_76 : decode cX6_twin 76 = .ok (.iload_n 1, 1) := by decide +kernel
theorem dX6_twin_77 : decode cX6_twin 77 = .ok (.if_icmp .eq 16, 3) := by decide +kernel
theorem dX6_twin_80 : decode cX6_twin 80 = .ok (.iload 6, 2) := by decide +kernel
theorem dX6_twin_82 : decode cX6_twin 82 = .ok (.iload_n 3, 1) := by decide +kernel
theorem dX6_twin_83 : decode cX6_twin 83 = .ok (.if_icmp .ge 10, 3) := by decide +kernel
theorem dX6_twin_86 : decode cX6_twin 86 = .ok (.iload 6, 2) := by decide +kernel
theorem dX6_twin_88 : decode cX6_twin 88 = .ok (.istore_n 3, 1) := by decide +kernel
theorem dX6_twin_89 : decode cX6_twin 89 = .ok (.iload 5, 2) := by decide +kernel
theorem dX6_twin_91 : decode cX6_twin 91 = .ok (.istore 4, 2) := by decide +kernel
theorem dX6_twin_93 : decode cX6_twin 93 = .ok (.iinc 5 1, 3) := by decide +kernel
theorem dX6_twin_96 : decode cX6_twin 96 = .ok (.goto (-57), 3) := by decide +kernel
theorem dX6_twin_99 : decode cX6_twin 99 = .ok (.iload 4, 2) := by decide +kernel
theorem dX6_twin_101 : decode cX6_twin 101 = .ok (.ireturn, 1) := by decide +kernel
theorem dX6_nearest_0 : decode cX6_nearest 0 = .ok (.aload_n 0, 1) := by decide +kernel
theorem dX6_nearest_1 : decode cX6_nearest 1 = .ok (.getfield 10, 3) := by decide +kernel
theorem dX6_nearest_4 : decode cX6_nearest 4 = .ok (.getfield 239, 3) := by decide +kernel
theorem dX6_nearest_7 : decode cX6_nearest 7 = .ok (.ifCond .ne 10, 3) := by decide +kernel
theorem dX6_nearest_10 : decode cX6_nearest 10 = .ok (.aload_n 0, 1) := by decide +kernel
theorem dX6_nearest_11 : decode cX6_nearest 11 = .ok (.bipush (-5), 2) := by decide +kernel
theorem dX6_nearest_13 : decode cX6_nearest 13 = .ok (.invokevirtual 59, 3) := by decide +kernel
theorem dX6_nearest_16 : decode cX6_nearest 16 = .ok (.ireturn, 1) := by decide +kernel
theorem dX6_nearest_17 : decode cX6_nearest 17 = .ok (.ldc_w 263, 3) := by decide +kernel
theorem dX6_nearest_20 : decode cX6_nearest 20 = .ok (.istore_n 1, 1) := by decide +kernel
theorem dX6_nearest_21 : decode cX6_nearest 21 = .ok (.iconst (-1), 1) := by decide +kernel
theorem dX6_nearest_22 : decode cX6_nearest 22 = .ok (.istore_n 2, 1) := by decide +kernel
theorem dX6_nearest_23 : decode cX6_nearest 23 = .ok (.iconst 0, 1) := by decide +kernel
theorem dX6_nearest_24 : decode cX6_nearest 24 = .ok (.istore_n 3, 1) := by decide +kernel
theorem dX6_nearest_25 : decode cX6_nearest 25 = .ok (.iload_n 3, 1) := by decide +kernel
theorem dX6_nearest_26 : decode cX6_nearest 26 = .ok (.aload_n 0, 1) := by decide +kernel
theorem dX6_nearest_27 : decode cX6_nearest 27 = .ok (.getfield 10, 3) := by decide +kernel
theorem dX6_nearest_30 : decode cX6_nearest 30 = .ok (.getfield 239, 3) := by decide +kernel
theorem dX6_nearest_33 : decode cX6_nearest 33 = .ok (.if_icmp .ge 33, 3) := by decide +kernel
theorem dX6_nearest_36 : decode cX6_nearest 36 = .ok (.aload_n 0, 1) := by decide +kernel
theorem dX6_nearest_37 : decode cX6_nearest 37 = .ok (.getfield 10, 3) := by decide +kernel
theorem dX6_nearest_40 : decode cX6_nearest 40 = .ok (.iload_n 3, 1) := by decide +kernel
theorem dX6_nearest_41 : decode cX6_nearest 41 = .ok (.invokevirtual 143, 3) := by decide +kernel
theorem dX6_nearest_44 : decode cX6_nearest 44 = .ok (.invokestatic 242, 3) := by decide +kernel
theorem dX6_nearest_47 : decode cX6_nearest 47 = .ok (.istore 4, 2) := by decide +kernel
theorem dX6_nearest_49 : decode cX6_nearest 49 = .ok (.iload 4, 2) := by decide +kernel
theorem dX6_nearest_51 : decode cX6_nearest 51 = .ok (.iload_n 1, 1) := by decide +kernel
theorem dX6_nearest_52 : decode cX6_nearest 52 = .ok (.if_icmp .ge 8, 3) := by decide +kernel
theorem dX6_nearest_55 : decode cX6_nearest 55 = .ok (.iload 4, 2) := by decide +kernel
theorem dX6_nearest_57 : decode cX6_nearest 57 = .ok (.istore_n 1, 1) := by decide +kernel
theorem dX6_nearest_58 : decode cX6_nearest 58 = .ok (.iload_n 3, 1) := by decide +kernel
theorem dX6_nearest_59 : decode cX6_nearest 59 = .ok (.istore_n 2, 1) := by decide +kernel
theorem dX6_nearest_60 : decode cX6_nearest 60 = .ok (.iinc 3 1, 3) := by decide +kernel
theorem dX6_nearest_63 : decode cX6_nearest 63 = .ok (.goto (-38), 3) := by decide +kernel
theorem dX6_nearest_66 : decode cX6_nearest 66 = .ok (.iload_n 2, 1) := by decide +kernel
theorem dX6_nearest_67 : decode cX6_nearest 67 = .ok (.ireturn, 1) := by decide +kernel
theorem dX6_move_0 : decode cX6_move 0 = .ok (.aload_n 0, 1) := by decide +kernel
theorem dX6_move_1 : decode cX6_move 1 = .ok (.getfield 10, 3) := by decide +kernel
theorem dX6_move_4 : decode cX6_move 4 = .ok (.iload_n 1, 1) := by decide +kernel
theorem dX6_move_5 : decode cX6_move 5 = .ok (.invokevirtual 93, 3) := by decide +kernel
theorem dX6_move_8 : decode cX6_move 8 = .ok (.ifCond .ne 9, 3) := by decide +kernel
theorem dX6_move_11 : decode cX6_move 11 = .ok (.aload_n 0, 1) := by decide +kernel
theorem dX6_move_12 : decode cX6_move 12 = .ok (.iconst (-1), 1) := by decide +kernel
theorem dX6_move_13 : decode cX6_move 13 = .ok (.invokevirtual 247, 3) := by decide +kernel
theorem dX6_move_16 : decode cX6_move 16 = .ok (.ireturn, 1) := by decide +kernel
theorem dX6_move_17 : decode cX6_move 17 = .ok (.iload_n 2, 1) := by decide +kernel
theorem dX6_move_18 : decode cX6_move 18 = .ok (.iconst 0, 1) := by decide +kernel
theorem dX6_move_19 : decode cX6_move 19 = .ok (.sipush 1000, 3) := by decide +kernel
theorem dX6_move_22 : decode cX6_move 22 = .ok (.invokestatic 63, 3) := by decide +kernel
theorem dX6_move_25 : decode cX6_move 25 = .ok (.ifCond .ne 10, 3) := by decide +kernel
theorem dX6_move_28 : decode cX6_move 28 = .ok (.aload_n 0, 1) := by decide +kernel
theorem dX6_move_29 : decode cX6_move 29 = .ok (.bipush (-6), 2) := by decide +kernel
theorem dX6_move_31 : decode cX6_move 31 = .ok (.invokevirtual 247, 3) := by decide +kernel
theorem dX6_move_34 : decode cX6_move 34 = .ok (.ireturn, 1) := by decide +kernel
theorem dX6_move_35 : decode cX6_move 35 = .ok (.aload_n 0, 1) := by decide +kernel
theorem dX6_move_36 : decode cX6_move 36 = .ok (.getfield 10, 3) := by decide +kernel
theorem dX6_move_39 : decode cX6_move 39 = .ok (.iload_n 1, 1) := by decide +kernel
theorem dX6_move_40 : decode cX6_move 40 = .ok (.iload_n 2, 1) := by decide +kernel
theorem dX6_move_41 : decode cX6_move 41 = .ok (.invokevirtual 264, 3) := by decide +kernel
theorem dX6_move_44 : decode cX6_move 44 = .ok (.ireturn, 1) := by decide +kernel
theorem dX6_judge_0 : decode cX6_judge 0 = .ok (.aload_n 0, 1) := by decide +kernel
theorem dX6_judge_1 : decode cX6_judge 1 = .ok (.iload_n 1, 1) := by decide +kernel
theorem dX6_judge_2 : decode cX6_judge 2 = .ok (.iload_n 2, 1) := by decide +kernel
theorem dX6_judge_3 : decode cX6_judge 3 = .ok (.iconst (-1), 1) := by decide +kernel
theorem dX6_judge_4 : decode cX6_judge 4 = .ok (.invokevirtual 267, 3) := by decide +kernel
theorem dX6_judge_7 : decode cX6_judge 7 = .ok (.istore_n 3, 1) := by decide +kernel
theorem dX6_judge_8 : decode cX6_judge 8 = .ok (.iload_n 3, 1) := by decide +kernel
theorem dX6_judge_9 : decode cX6_judge 9 = .ok (.ifCond .eq 9, 3) := by decide +kernel
theorem dX6_judge_12 : decode cX6_judge 12 = .ok (.aload_n 0, 1) := by decide +kernel
theorem dX6_judge_13 : decode cX6_judge 13 = .ok (.iload_n 3, 1) := by decide +kernel
theorem dX6_judge_14 : decode cX6_judge 14 = .ok (.invokevirtual 247, 3) := by decide +kernel
theorem dX6_judge_17 : decode cX6_judge 17 = .ok (.ireturn, 1) := by decide +kernel
theorem dX6_judge_18 : decode cX6_judge 18 = .ok (.aload_n 0, 1) := by decide +kernel
theorem dX6_judge_19 : decode cX6_judge 19 = .ok (.iload_n 1, 1) := by decide +kernel
theorem dX6_judge_20 : decode cX6_judge 20 = .ok (.iload_n 2, 1) := by decide +kernel
theorem dX6_judge_21 : decode cX6_judge 21 = .ok (.invokevirtual 270, 3) := by decide +kernel
theorem dX6_judge_24 : decode cX6_judge 24 = .ok (.ireturn, 1) := by decide +kernel
theorem dX6_round_0 : decode cX6_round 0 = .ok (.aload_n 0, 1) := by decide +kernel
theorem dX6_round_1 : decode cX6_round 1 = .ok (.iload_n 1, 1) := by decide +kernel
theorem dX6_round_2 : decode cX6_round 2 = .ok (.iload_n 2, 1) := by decide +kernel
theorem dX6_round_3 : decode cX6_round 3 = .ok (.iload_n 3, 1) := by decide +kernel
theorem dX6_round_4 : decode cX6_round 4 = .ok (.invokevirtual 267, 3) := by decide +kernel
theorem dX6_round_7 : decode cX6_round 7 = .ok (.istore 4, 2) := by decide +kernel
theorem dX6_round_9 : decode cX6_round 9 = .ok (.iload 4, 2) := by decide +kernel
theorem dX6_round_11 : decode cX6_round 11 = .ok (.ifCond .eq 10, 3) := by decide +kernel
theorem dX6_round_14 : decode cX6_round 14 = .ok (.aload_n 0, 1) := by decide +kernel
theorem dX6_round_15 : decode cX6_round 15 = .ok (.iload 4, 2) := by decide +kernel
theorem dX6_round_17 : decode cX6_round 17 = .ok (.invokevirtual 59, 3) := by decide +kernel
theorem dX6_round_20 : decode cX6_round 20 = .ok (.ireturn, 1) := by decide +kernel
theorem dX6_round_21 : decode cX6_round 21 = .ok (.aload_n 0, 1) := by decide +kernel
theorem dX6_round_22 : decode cX6_round 22 = .ok (.iload_n 1, 1) := by decide +kernel
theorem dX6_round_23 : decode cX6_round 23 = .ok (.iload_n 2, 1) := by decide +kernel
theorem dX6_round_24 : decode cX6_round 24 = .ok (.invokevirtual 270, 3) := by decide +kernel
theorem dX6_round_27 : decode cX6_round 27 = .ok (.iconst (-1), 1) := by decide +kernel
theorem dX6_round_28 : decode cX6_round 28 = .ok (.if_icmp .eq 10, 3) := by decide +kernel
theorem dX6_round_31 : decode cX6_round 31 = .ok (.aload_n 0, 1) := by decide +kernel
theorem dX6_round_32 : decode cX6_round 32 = .ok (.bipush (-6), 2) := by decide +kernel
theorem dX6_round_34 : decode cX6_round 34 = .ok (.invokevirtual 59, 3) := by decide +kernel
theorem dX6_round_37 : decode cX6_round 37 = .ok (.ireturn, 1) := by decide +kernel
theorem dX6_round_38 : decode cX6_round 38 = .ok (.iload_n 3, 1) := by decide +kernel
theorem dX6_round_39 : decode cX6_round 39 = .ok (.iconst (-1), 1) := by decide +kernel
theorem dX6_round_40 : decode cX6_round 40 = .ok (.if_icmp .ne 12, 3) := by decide +kernel
theorem dX6_round_43 : decode cX6_round 43 = .ok (.aload_n 0, 1) := by decide +kernel
theorem dX6_round_44 : decode cX6_round 44 = .ok (.iload_n 1, 1) := by decide +kernel
theorem dX6_round_45 : decode cX6_round 45 = .ok (.iload_n 2, 1) := by decide +kernel
theorem dX6_round_46 : decode cX6_round 46 = .ok (.invokevirtual 273, 3) := by decide +kernel
theorem dX6_round_49 : decode cX6_round 49 = .ok (.goto 9, 3) := by decide +kernel
theorem dX6_round_52 : decode cX6_round 52 = .ok (.aload_n 0, 1) := by decide +kernel
theorem dX6_round_53 : decode cX6_round 53 = .ok (.iload_n 1, 1) := by decide +kernel
theorem dX6_round_54 : decode cX6_round 54 = .ok (.iload_n 3, 1) := by decide +kernel
theorem dX6_round_55 : decode cX6_round 55 = .ok (.invokevirtual 276, 3) := by decide +kernel
theorem dX6_round_58 : decode cX6_round 58 = .ok (.ireturn, 1) := by decide +kernel
theorem dX6_change_0 : decode cX6_change 0 = .ok (.aload_n 0, 1) := by decide +kernel
theorem dX6_change_1 : decode cX6_change 1 = .ok (.getfield 10, 3) := by decide +kernel
theorem dX6_change_4 : decode cX6_change 4 = .ok (.iload_n 1, 1) := by decide +kernel
theorem dX6_change_5 : decode cX6_change 5 = .ok (.invokevirtual 146, 3) := by decide +kernel
theorem dX6_change_8 : decode cX6_change 8 = .ok (.ifCond .ne 9, 3) := by decide +kernel
theorem dX6_change_11 : decode cX6_change 11 = .ok (.aload_n 0, 1) := by decide +kernel
theorem dX6_change_12 : decode cX6_change 12 = .ok (.iconst (-1), 1) := by decide +kernel
theorem dX6_change_13 : decode cX6_change 13 = .ok (.invokevirtual 59, 3) := by decide +kernel
theorem dX6_change_16 : decode cX6_change 16 = .ok (.ireturn, 1) := by decide +kernel
end
section
theorem dX6_change_17 : decode cX6_change 17 = .ok (.iload_n 2, 1) := by decide +kernel
theorem dX6_change_18 : decode cX6_change 18 = .ok (.iconst 0, 1) := by decide +kernel
theorem dX6_change_19 : decode cX6_change 19 = .ok (.iconst 2, 1) := by decide +kernel
theorem dX6_change_20 : decode cX6_change 20 = .ok (.invokestatic 63, 3) := by decide +kernel
theorem dX6_change_23 : decode cX6_change 23 = .ok (.ifCond .eq 35, 3) := by decide +kernel
theorem dX6_change_26 : decode cX6_change 26 = .ok (.iload_n 2, 1) := by decide +kernel
theorem dX6_change_27 : decode cX6_change 27 = .ok (.aload_n 0, 1) := by decide +kernel
theorem dX6_change_28 : decode cX6_change 28 = .ok (.getfield 10, 3) := by decide +kernel
theorem dX6_change_31 : decode cX6_change 31 = .ok (.iload_n 1, 1) := by decide +kernel
theorem dX6_change_32 : decode cX6_change 32 = .ok (.invokevirtual 152, 3) := by decide +kernel
theorem dX6_change_35 : decode cX6_change 35 = .ok (.if_icmp .eq 23, 3) := by decide +kernel
theorem dX6_change_38 : decode cX6_change 38 = .ok (.iload_n 3, 1) := by decide +kernel
theorem dX6_change_39 : decode cX6_change 39 = .ok (.iconst 1, 1) := by decide +kernel
theorem dX6_change_40 : decode cX6_change 40 = .ok (.aload_n 0, 1) := by decide +kernel
theorem dX6_change_41 : decode cX6_change 41 = .ok (.getfield 10, 3) := by decide +kernel
theorem dX6_change_44 : decode cX6_change 44 = .ok (.iload_n 1, 1) := by decide +kernel
theorem dX6_change_45 : decode cX6_change 45 = .ok (.invokevirtual 149, 3) := by decide +kernel
theorem dX6_change_48 : decode cX6_change 48 = .ok (.invokestatic 63, 3) := by decide +kernel
theorem dX6_change_51 : decode cX6_change 51 = .ok (.ifCond .eq 7, 3) := by decide +kernel
theorem dX6_change_54 : decode cX6_change 54 = .ok (.iconst 1, 1) := by decide +kernel
theorem dX6_change_55 : decode cX6_change 55 = .ok (.goto 4, 3) := by decide +kernel
theorem dX6_change_58 : decode cX6_change 58 = .ok (.iconst 0, 1) := by decide +kernel
theorem dX6_change_59 : decode cX6_change 59 = .ok (.istore 4, 2) := by decide +kernel
theorem dX6_change_61 : decode cX6_change 61 = .ok (.iload 4, 2) := by decide +kernel
theorem dX6_change_63 : decode cX6_change 63 = .ok (.ifCond .ne 10, 3) := by decide +kernel
theorem dX6_change_66 : decode cX6_change 66 = .ok (.aload_n 0, 1) := by decide +kernel
theorem dX6_change_67 : decode cX6_change 67 = .ok (.bipush (-6), 2) := by decide +kernel
theorem dX6_change_69 : decode cX6_change 69 = .ok (.invokevirtual 59, 3) := by decide +kernel
theorem dX6_change_72 : decode cX6_change 72 = .ok (.ireturn, 1) := by decide +kernel
theorem dX6_change_73 : decode cX6_change 73 = .ok (.iload_n 3, 1) := by decide +kernel
theorem dX6_change_74 : decode cX6_change 74 = .ok (.aload_n 0, 1) := by decide +kernel
theorem dX6_change_75 : decode cX6_change 75 = .ok (.getfield 10, 3) := by decide +kernel
theorem dX6_change_78 : decode cX6_change 78 = .ok (.iload_n 1, 1) := by decide +kernel
theorem dX6_change_79 : decode cX6_change 79 = .ok (.invokevirtual 149, 3) := by decide +kernel
theorem dX6_change_82 : decode cX6_change 82 = .ok (.if_icmp .ne 14, 3) := by decide +kernel
theorem dX6_change_85 : decode cX6_change 85 = .ok (.aload_n 0, 1) := by decide +kernel
theorem dX6_change_86 : decode cX6_change 86 = .ok (.getfield 10, 3) := by decide +kernel
theorem dX6_change_89 : decode cX6_change 89 = .ok (.iload_n 1, 1) := by decide +kernel
theorem dX6_change_90 : decode cX6_change 90 = .ok (.iload_n 2, 1) := by decide +kernel
theorem dX6_change_91 : decode cX6_change 91 = .ok (.invokevirtual 279, 3) := by decide +kernel
theorem dX6_change_94 : decode cX6_change 94 = .ok (.iload_n 1, 1) := by decide +kernel
theorem dX6_change_95 : decode cX6_change 95 = .ok (.ireturn, 1) := by decide +kernel
theorem dX6_change_96 : decode cX6_change 96 = .ok (.aload_n 0, 1) := by decide +kernel
theorem dX6_change_97 : decode cX6_change 97 = .ok (.getfield 10, 3) := by decide +kernel
theorem dX6_change_100 : decode cX6_change 100 = .ok (.invokevirtual 127, 3) := by decide +kernel
theorem dX6_change_103 : decode cX6_change 103 = .ok (.ifCond .ne 10, 3) := by decide +kernel
theorem dX6_change_106 : decode cX6_change 106 = .ok (.aload_n 0, 1) := by decide +kernel
theorem dX6_change_107 : decode cX6_change 107 = .ok (.bipush (-7), 2) := by decide +kernel
theorem dX6_change_109 : decode cX6_change 109 = .ok (.invokevirtual 59, 3) := by decide +kernel
theorem dX6_change_112 : decode cX6_change 112 = .ok (.ireturn, 1) := by decide +kernel
theorem dX6_change_113 : decode cX6_change 113 = .ok (.aload_n 0, 1) := by decide +kernel
theorem dX6_change_114 : decode cX6_change 114 = .ok (.getfield 10, 3) := by decide +kernel
theorem dX6_change_117 : decode cX6_change 117 = .ok (.iload_n 1, 1) := by decide +kernel
theorem dX6_change_118 : decode cX6_change 118 = .ok (.iload_n 2, 1) := by decide +kernel
theorem dX6_change_119 : decode cX6_change 119 = .ok (.iload_n 3, 1) := by decide +kernel
theorem dX6_change_120 : decode cX6_change 120 = .ok (.invokevirtual 282, 3) := by decide +kernel
theorem dX6_change_123 : decode cX6_change 123 = .ok (.ireturn, 1) := by decide +kernel
theorem dX6_doors_0 : decode cX6_doors 0 = .ok (.aload_n 0, 1) := by decide +kernel
theorem dX6_doors_1 : decode cX6_doors 1 = .ok (.getfield 10, 3) := by decide +kernel
theorem dX6_doors_4 : decode cX6_doors 4 = .ok (.getfield 285, 3) := by decide +kernel
theorem dX6_doors_7 : decode cX6_doors 7 = .ok (.ifCond .eq 13, 3) := by decide +kernel
theorem dX6_doors_10 : decode cX6_doors 10 = .ok (.aload_n 0, 1) := by decide +kernel
theorem dX6_doors_11 : decode cX6_doors 11 = .ok (.getfield 10, 3) := by decide +kernel
theorem dX6_doors_14 : decode cX6_doors 14 = .ok (.getfield 239, 3) := by decide +kernel
theorem dX6_doors_17 : decode cX6_doors 17 = .ok (.ifCond .ne 10, 3) := by decide +kernel
theorem dX6_doors_20 : decode cX6_doors 20 = .ok (.aload_n 0, 1) := by decide +kernel
theorem dX6_doors_21 : decode cX6_doors 21 = .ok (.bipush (-5), 2) := by decide +kernel
theorem dX6_doors_23 : decode cX6_doors 23 = .ok (.invokevirtual 59, 3) := by decide +kernel
theorem dX6_doors_26 : decode cX6_doors 26 = .ok (.ireturn, 1) := by decide +kernel
theorem dX6_doors_27 : decode cX6_doors 27 = .ok (.iload_n 1, 1) := by decide +kernel
theorem dX6_doors_28 : decode cX6_doors 28 = .ok (.iconst 1, 1) := by decide +kernel
theorem dX6_doors_29 : decode cX6_doors 29 = .ok (.sipush 200, 3) := by decide +kernel
theorem dX6_doors_32 : decode cX6_doors 32 = .ok (.invokestatic 63, 3) := by decide +kernel
theorem dX6_doors_35 : decode cX6_doors 35 = .ok (.ifCond .ne 10, 3) := by decide +kernel
theorem dX6_doors_38 : decode cX6_doors 38 = .ok (.aload_n 0, 1) := by decide +kernel
theorem dX6_doors_39 : decode cX6_doors 39 = .ok (.bipush (-6), 2) := by decide +kernel
theorem dX6_doors_41 : decode cX6_doors 41 = .ok (.invokevirtual 59, 3) := by decide +kernel
theorem dX6_doors_44 : decode cX6_doors 44 = .ok (.ireturn, 1) := by decide +kernel
theorem dX6_doors_45 : decode cX6_doors 45 = .ok (.aload_n 0, 1) := by decide +kernel
theorem dX6_doors_46 : decode cX6_doors 46 = .ok (.getfield 10, 3) := by decide +kernel
theorem dX6_doors_49 : decode cX6_doors 49 = .ok (.getfield 288, 3) := by decide +kernel
theorem dX6_doors_52 : decode cX6_doors 52 = .ok (.istore_n 2, 1) := by decide +kernel
theorem dX6_doors_53 : decode cX6_doors 53 = .ok (.iconst 0, 1) := by decide +kernel
theorem dX6_doors_54 : decode cX6_doors 54 = .ok (.istore_n 3, 1) := by decide +kernel
theorem dX6_doors_55 : decode cX6_doors 55 = .ok (.iload_n 3, 1) := by decide +kernel
theorem dX6_doors_56 : decode cX6_doors 56 = .ok (.iload_n 1, 1) := by decide +kernel
theorem dX6_doors_57 : decode cX6_doors 57 = .ok (.if_icmp .ge 16, 3) := by decide +kernel
theorem dX6_doors_60 : decode cX6_doors 60 = .ok (.aload_n 0, 1) := by decide +kernel
theorem dX6_doors_61 : decode cX6_doors 61 = .ok (.getfield 10, 3) := by decide +kernel
theorem dX6_doors_64 : decode cX6_doors 64 = .ok (.invokevirtual 291, 3) := by decide +kernel
theorem dX6_doors_67 : decode cX6_doors 67 = .ok (.iinc 3 1, 3) := by decide +kernel
theorem dX6_doors_70 : decode cX6_doors 70 = .ok (.goto (-15), 3) := by decide +kernel
theorem dX6_doors_73 : decode cX6_doors 73 = .ok (.aload_n 0, 1) := by decide +kernel
theorem dX6_doors_74 : decode cX6_doors 74 = .ok (.getfield 10, 3) := by decide +kernel
theorem dX6_doors_77 : decode cX6_doors 77 = .ok (.getfield 288, 3) := by decide +kernel
theorem dX6_doors_80 : decode cX6_doors 80 = .ok (.iload_n 2, 1) := by decide +kernel
theorem dX6_doors_81 : decode cX6_doors 81 = .ok (.isub, 1) := by decide +kernel
theorem dX6_doors_82 : decode cX6_doors 82 = .ok (.ireturn, 1) := by decide +kernel
theorem dX6_seed_0 : decode cX6_seed 0 = .ok (.aload_n 0, 1) := by decide +kernel
theorem dX6_seed_1 : decode cX6_seed 1 = .ok (.getfield 10, 3) := by decide +kernel
theorem dX6_seed_4 : decode cX6_seed 4 = .ok (.getfield 294, 3) := by decide +kernel
theorem dX6_seed_7 : decode cX6_seed 7 = .ok (.istore_n 2, 1) := by decide +kernel
theorem dX6_seed_8 : decode cX6_seed 8 = .ok (.aload_n 0, 1) := by decide +kernel
theorem dX6_seed_9 : decode cX6_seed 9 = .ok (.getfield 10, 3) := by decide +kernel
theorem dX6_seed_12 : decode cX6_seed 12 = .ok (.iload_n 1, 1) := by decide +kernel
theorem dX6_seed_13 : decode cX6_seed 13 = .ok (.putfield 294, 3) := by decide +kernel
theorem dX6_seed_16 : decode cX6_seed 16 = .ok (.iload_n 2, 1) := by decide +kernel
theorem dX6_seed_17 : decode cX6_seed 17 = .ok (.ireturn, 1) := by decide +kernel
theorem dX6_act_0 : decode cX6_act 0 = .ok (.aload_n 0, 1) := by decide +kernel
theorem dX6_act_1 : decode cX6_act 1 = .ok (.getfield 43, 3) := by decide +kernel
theorem dX6_act_4 : decode cX6_act 4 = .ok (.invokevirtual 297, 3) := by decide +kernel
theorem dX6_act_7 : decode cX6_act 7 = .ok (.aload_n 0, 1) := by decide +kernel
theorem dX6_act_8 : decode cX6_act 8 = .ok (.getfield 10, 3) := by decide +kernel
theorem dX6_act_11 : decode cX6_act 11 = .ok (.iload_n 1, 1) := by decide +kernel
theorem dX6_act_12 : decode cX6_act 12 = .ok (.invokevirtual 93, 3) := by decide +kernel
theorem dX6_act_15 : decode cX6_act 15 = .ok (.ifCond .ne 5, 3) := by decide +kernel
theorem dX6_act_18 : decode cX6_act 18 = .ok (.iconst 0, 1) := by decide +kernel
theorem dX6_act_19 : decode cX6_act 19 = .ok (.ireturn, 1) := by decide +kernel
theorem dX6_act_20 : decode cX6_act 20 = .ok (.aload_n 0, 1) := by decide +kernel
theorem dX6_act_21 : decode cX6_act 21 = .ok (.getfield 43, 3) := by decide +kernel
theorem dX6_act_24 : decode cX6_act 24 = .ok (.iload_n 1, 1) := by decide +kernel
theorem dX6_act_25 : decode cX6_act 25 = .ok (.aload_n 0, 1) := by decide +kernel
theorem dX6_act_26 : decode cX6_act 26 = .ok (.getfield 10, 3) := by decide +kernel
theorem dX6_act_29 : decode cX6_act 29 = .ok (.iload_n 1, 1) := by decide +kernel
theorem dX6_act_30 : decode cX6_act 30 = .ok (.invokevirtual 106, 3) := by decide +kernel
theorem dX6_act_33 : decode cX6_act 33 = .ok (.aload_n 0, 1) := by decide +kernel
theorem dX6_act_34 : decode cX6_act 34 = .ok (.getfield 10, 3) := by decide +kernel
theorem dX6_act_37 : decode cX6_act 37 = .ok (.iload_n 1, 1) := by decide +kernel
theorem dX6_act_38 : decode cX6_act 38 = .ok (.invokevirtual 137, 3) := by decide +kernel
theorem dX6_act_41 : decode cX6_act 41 = .ok (.iload_n 2, 1) := by decide +kernel
theorem dX6_act_42 : decode cX6_act 42 = .ok (.iload_n 3, 1) := by decide +kernel
theorem dX6_act_43 : decode cX6_act 43 = .ok (.invokevirtual 300, 3) := by decide +kernel
theorem dX6_act_46 : decode cX6_act 46 = .ok (.ireturn, 1) := by decide +kernel
theorem dX6_trace_0 : decode cX6_trace 0 = .ok (.aload_n 0, 1) := by decide +kernel
theorem dX6_trace_1 : decode cX6_trace 1 = .ok (.getfield 43, 3) := by decide +kernel
theorem dX6_trace_4 : decode cX6_trace 4 = .ok (.iload_n 1, 1) := by decide +kernel
theorem dX6_trace_5 : decode cX6_trace 5 = .ok (.invokevirtual 303, 3) := by decide +kernel
theorem dX6_trace_8 : decode cX6_trace 8 = .ok (.ireturn, 1) := by decide +kernel
theorem dX6_image_0 : decode cX6_image 0 = .ok (.aload_n 0, 1) := by decide +kernel
theorem dX6_image_1 : decode cX6_image 1 = .ok (.getfield 16, 3) := by decide +kernel
theorem dX6_image_4 : decode cX6_image 4 = .ok (.aload_n 0, 1) := by decide +kernel
theorem dX6_image_5 : decode cX6_image 5 = .ok (.getfield 10, 3) := by decide +kernel
theorem dX6_image_8 : decode cX6_image 8 = .ok (.invokevirtual 196, 3) := by decide +kernel
theorem dX6_image_11 : decode cX6_image 11 = .ok (.aload_n 0, 1) := by decide +kernel
theorem dX6_image_12 : decode cX6_image 12 = .ok (.iconst 1, 1) := by decide +kernel
theorem dX6_image_13 : decode cX6_image 13 = .ok (.putfield 306, 3) := by decide +kernel
theorem dX6_image_16 : decode cX6_image 16 = .ok (.aload_n 0, 1) := by decide +kernel
theorem dX6_image_17 : decode cX6_image 17 = .ok (.getfield 10, 3) := by decide +kernel
theorem dX6_image_20 : decode cX6_image 20 = .ok (.getfield 239, 3) := by decide +kernel
theorem dX6_image_23 : decode cX6_image 23 = .ok (.ireturn, 1) := by decide +kernel
theorem dX6_restore_0 : decode cX6_restore 0 = .ok (.aload_n 0, 1) := by decide +kernel
theorem dX6_restore_1 : decode cX6_restore 1 = .ok (.getfield 306, 3) := by decide +kernel
theorem dX6_restore_4 : decode cX6_restore 4 = .ok (.ifCond .ne 10, 3) := by decide +kernel
theorem dX6_restore_7 : decode cX6_restore 7 = .ok (.aload_n 0, 1) := by decide +kernel
theorem dX6_restore_8 : decode cX6_restore 8 = .ok (.bipush (-6), 2) := by decide +kernel
theorem dX6_restore_10 : decode cX6_restore 10 = .ok (.invokevirtual 59, 3) := by decide +kernel
theorem dX6_restore_13 : decode cX6_restore 13 = .ok (.ireturn, 1) := by decide +kernel
theorem dX6_restore_14 : decode cX6_restore 14 = .ok (.aload_n 0, 1) := by decide +kernel
theorem dX6_restore_15 : decode cX6_restore 15 = .ok (.getfield 10, 3) := by decide +kernel
theorem dX6_restore_18 : decode cX6_restore 18 = .ok (.aload_n 0, 1) := by decide +kernel
theorem dX6_restore_19 : decode cX6_restore 19 = .ok (.getfield 16, 3) := by decide +kernel
theorem dX6_restore_22 : decode cX6_restore 22 = .ok (.invokevirtual 196, 3) := by decide +kernel
theorem dX6_restore_25 : decode cX6_restore 25 = .ok (.aload_n 0, 1) := by decide +kernel
theorem dX6_restore_26 : decode cX6_restore 26 = .ok (.getfield 29, 3) := by decide +kernel
theorem dX6_restore_29 : decode cX6_restore 29 = .ok (.aload_n 0, 1) := by decide +kernel
theorem dX6_restore_30 : decode cX6_restore 30 = .ok (.getfield 10, 3) := by decide +kernel
theorem dX6_restore_33 : decode cX6_restore 33 = .ok (.getfield 239, 3) := by decide +kernel
theorem dX6_restore_36 : decode cX6_restore 36 = .ok (.invokevirtual 310, 3) := by decide +kernel
theorem dX6_restore_39 : decode cX6_restore 39 = .ok (.aload_n 0, 1) := by decide +kernel
theorem dX6_restore_40 : decode cX6_restore 40 = .ok (.getfield 10, 3) := by decide +kernel
theorem dX6_restore_43 : decode cX6_restore 43 = .ok (.getfield 239, 3) := by decide +kernel
theorem dX6_restore_46 : decode cX6_restore 46 = .ok (.ireturn, 1) := by decide +kernel
theorem dX6_status_0 : decode cX6_status 0 = .ok (.iload_n 1, 1) := by decide +kernel
theorem dX6_status_1 : decode cX6_status 1 = .ok (.tableswitch 126 0 8 #[51, 59, 67, 78, 86, 94, 102, 110, 118], 51) := by decide +kernel
theorem dX6_status_52 : decode cX6_status 52 = .ok (.aload_n 0, 1) := by decide +kernel
theorem dX6_status_53 : decode cX6_status 53 = .ok (.getfield 10, 3) := by decide +kernel
theorem dX6_status_56 : decode cX6_status 56 = .ok (.getfield 239, 3) := by decide +kernel
theorem dX6_status_59 : decode cX6_status 59 = .ok (.ireturn, 1) := by decide +kernel
theorem dX6_status_60 : decode cX6_status 60 = .ok (.aload_n 0, 1) := by decide +kernel
theorem dX6_status_61 : decode cX6_status 61 = .ok (.getfield 10, 3) := by decide +kernel
theorem dX6_status_64 : decode cX6_status 64 = .ok (.getfield 285, 3) := by decide +kernel
theorem dX6_status_67 : decode cX6_status 67 = .ok (.ireturn, 1) := by decide +kernel
theorem dX6_status_68 : decode cX6_status 68 = .ok (.aload_n 0, 1) := by decide +kernel
theorem dX6_status_69 : decode cX6_status 69 = .ok (.getfield 10, 3) := by decide +kernel
theorem dX6_status_72 : decode cX6_status 72 = .ok (.sipush 1023, 3) := by decide +kernel
theorem dX6_status_75 : decode cX6_status 75 = .ok (.invokevirtual 314, 3) := by decide +kernel
theorem dX6_status_78 : decode cX6_status 78 = .ok (.ireturn, 1) := by decide +kernel
theorem dX6_status_79 : decode cX6_status 79 = .ok (.aload_n 0, 1) := by decide +kernel
theorem dX6_status_80 : decode cX6_status 80 = .ok (.getfield 10, 3) := by decide +kernel
theorem dX6_status_83 : decode cX6_status 83 = .ok (.getfield 170, 3) := by decide +kernel
theorem dX6_status_86 : decode cX6_status 86 = .ok (.ireturn, 1) := by decide +kernel
theorem dX6_status_87 : decode cX6_status 87 = .ok (.aload_n 0, 1) := by decide +kernel
theorem dX6_status_88 : decode cX6_status 88 = .ok (.getfield 10, 3) := by decide +kernel
theorem dX6_status_91 : decode cX6_status 91 = .ok (.getfield 173, 3) := by decide +kernel
theorem dX6_status_94 : decode cX6_status 94 = .ok (.ireturn, 1) := by decide +kernel
theorem dX6_status_95 : decode cX6_status 95 = .ok (.aload_n 0, 1) := by decide +kernel
theorem dX6_status_96 : decode cX6_status 96 = .ok (.getfield 10, 3) := by decide +kernel
theorem dX6_status_99 : decode cX6_status 99 = .ok (.getfield 317, 3) := by decide +kernel
theorem dX6_status_102 : decode cX6_status 102 = .ok (.ireturn, 1) := by decide +kernel
theorem dX6_status_103 : decode cX6_status 103 = .ok (.aload_n 0, 1) := by decide +kernel
theorem dX6_status_104 : decode cX6_status 104 = .ok (.getfield 10, 3) := by decide +kernel
theorem dX6_status_107 : decode cX6_status 107 = .ok (.getfield 288, 3) := by decide +kernel
theorem dX6_status_110 : decode cX6_status 110 = .ok (.ireturn, 1) := by decide +kernel
theorem dX6_status_111 : decode cX6_status 111 = .ok (.aload_n 0, 1) := by decide +kernel
theorem dX6_status_112 : decode cX6_status 112 = .ok (.getfield 10, 3) := by decide +kernel
theorem dX6_status_115 : decode cX6_status 115 = .ok (.getfield 294, 3) := by decide +kernel
theorem dX6_status_118 : decode cX6_status 118 = .ok (.ireturn, 1) := by decide +kernel
theorem dX6_status_119 : decode cX6_status 119 = .ok (.aload_n 0, 1) := by decide +kernel
theorem dX6_status_120 : decode cX6_status 120 = .ok (.getfield 43, 3) := by decide +kernel
theorem dX6_status_123 : decode cX6_status 123 = .ok (.getfield 320, 3) := by decide +kernel
theorem dX6_status_126 : decode cX6_status 126 = .ok (.ireturn, 1) := by decide +kernel
theorem dX6_status_127 : decode cX6_status 127 = .ok (.iload_n 1, 1) := by decide +kernel
theorem dX6_status_128 : decode cX6_status 128 = .ok (.bipush 11, 2) := by decide +kernel
theorem dX6_status_130 : decode cX6_status 130 = .ok (.bipush 17, 2) := by decide +kernel
theorem dX6_status_132 : decode cX6_status 132 = .ok (.invokestatic 63, 3) := by decide +kernel
theorem dX6_status_135 : decode cX6_status 135 = .ok (.ifCond .eq 15, 3) := by decide +kernel
theorem dX6_status_138 : decode cX6_status 138 = .ok (.aload_n 0, 1) := by decide +kernel
theorem dX6_status_139 : decode cX6_status 139 = .ok (.getfield 47, 3) := by decide +kernel
theorem dX6_status_142 : decode cX6_status 142 = .ok (.iload_n 1, 1) := by decide +kernel
theorem dX6_status_143 : decode cX6_status 143 = .ok (.bipush 10, 2) := by decide +kernel
theorem dX6_status_145 : decode cX6_status 145 = .ok (.isub, 1) := by decide +kernel
theorem dX6_status_146 : decode cX6_status 146 = .ok (.iaload, 1) := by decide +kernel
theorem dX6_status_147 : decode cX6_status 147 = .ok (.goto 4, 3) := by decide +kernel
theorem dX6_status_150 : decode cX6_status 150 = .ok (.iconst (-1), 1) := by decide +kernel
theorem dX6_status_151 : decode cX6_status 151 = .ok (.ireturn, 1) := by decide +kernel
theorem dX6_refuse_0 : decode cX6_refuse 0 = .ok (.iload_n 1, 1) := by decide +kernel
theorem dX6_refuse_1 : decode cX6_refuse 1 = .ok (.bipush (-7), 2) := by decide +kernel
theorem dX6_refuse_3 : decode cX6_refuse 3 = .ok (.iconst (-1), 1) := by decide +kernel
theorem dX6_refuse_4 : decode cX6_refuse 4 = .ok (.invokestatic 63, 3) := by decide +kernel
theorem dX6_refuse_7 : decode cX6_refuse 7 = .ok (.ifCond .eq 14, 3) := by decide +kernel
theorem dX6_refuse_10 : decode cX6_refuse 10 = .ok (.aload_n 0, 1) := by decide +kernel
theorem dX6_refuse_11 : decode cX6_refuse 11 = .ok (.getfield 47, 3) := by decide +kernel
theorem dX6_refuse_14 : decode cX6_refuse 14 = .ok (.iload_n 1, 1) := by decide +kernel
theorem dX6_refuse_15 : decode cX6_refuse 15 = .ok (.ineg, 1) := by decide +kernel
theorem dX6_refuse_16 : decode cX6_refuse 16 = .ok (.dup2, 1) := by decide +kernel
theorem dX6_refuse_17 : decode cX6_refuse 17 = .ok (.iaload, 1) := by decide +kernel
theorem dX6_refuse_18 : decode cX6_refuse 18 = .ok (.iconst 1, 1) := by decide +kernel
theorem dX6_refuse_19 : decode cX6_refuse 19 = .ok (.iadd, 1) := by decide +kernel
theorem dX6_refuse_20 : decode cX6_refuse 20 = .ok (.iastore, 1) := by decide +kernel
theorem dX6_refuse_21 : decode cX6_refuse 21 = .ok (.iload_n 1, 1) := by decide +kernel
theorem dX6_refuse_22 : decode cX6_refuse 22 = .ok (.ireturn, 1) := by decide +kernel
theorem dX6_refuseFarBelow_0 : decode cX6_refuseFarBelow 0 = .ok (.sipush (-10000), 3) := by decide +kernel
theorem dX6_refuseFarBelow_3 : decode cX6_refuseFarBelow 3 = .ok (.aload_n 0, 1) := by decide +kernel
theorem dX6_refuseFarBelow_4 : decode cX6_refuseFarBelow 4 = .ok (.iload_n 1, 1) := by decide +kernel
theorem dX6_refuseFarBelow_5 : decode cX6_refuseFarBelow 5 = .ok (.invokevirtual 59, 3) := by decide +kernel
theorem dX6_refuseFarBelow_8 : decode cX6_refuseFarBelow 8 = .ok (.iadd, 1) := by decide +kernel
theorem dX6_refuseFarBelow_9 : decode cX6_refuseFarBelow 9 = .ok (.ireturn, 1) := by decide +kernel
theorem dX6_refuseBelowNone_0 : decode cX6_refuseBelowNone 0 = .ok (.bipush (-10), 2) := by decide +kernel
theorem dX6_refuseBelowNone_2 : decode cX6_refuseBelowNone 2 = .ok (.aload_n 0, 1) := by decide +kernel
theorem dX6_refuseBelowNone_3 : decode cX6_refuseBelowNone 3 = .ok (.iload_n 1, 1) := by decide +kernel
theorem dX6_refuseBelowNone_4 : decode cX6_refuseBelowNone 4 = .ok (.invokevirtual 59, 3) := by decide +kernel
theorem dX6_refuseBelowNone_7 : decode cX6_refuseBelowNone 7 = .ok (.iadd, 1) := by decide +kernel
theorem dX6_refuseBelowNone_8 : decode cX6_refuseBelowNone 8 = .ok (.ireturn, 1) := by decide +kernel
theorem dX6_refusalOfRound_0 : decode cX6_refusalOfRound 0 = .ok (.aload_n 0, 1) := by decide +kernel
theorem dX6_refusalOfRound_1 : decode cX6_refusalOfRound 1 = .ok (.getfield 29, 3) := by decide +kernel
theorem dX6_refusalOfRound_4 : decode cX6_refusalOfRound 4 = .ok (.iload_n 1, 1) := by decide +kernel
theorem dX6_refusalOfRound_5 : decode cX6_refusalOfRound 5 = .ok (.invokevirtual 71, 3) := by decide +kernel
theorem dX6_refusalOfRound_8 : decode cX6_refusalOfRound 8 = .ok (.istore 4, 2) := by decide +kernel
theorem dX6_refusalOfRound_10 : decode cX6_refusalOfRound 10 = .ok (.iload 4, 2) := by decide +kernel
theorem dX6_refusalOfRound_12 : decode cX6_refusalOfRound 12 = .ok (.ifCond .eq 6, 3) := by decide +kernel
theorem dX6_refusalOfRound_15 : decode cX6_refusalOfRound 15 = .ok (.iload 4, 2) := by decide +kernel
theorem dX6_refusalOfRound_17 : decode cX6_refusalOfRound 17 = .ok (.ireturn, 1) := by decide +kernel
theorem dX6_refusalOfRound_18 : decode cX6_refusalOfRound 18 = .ok (.iload_n 2, 1) := by decide +kernel
theorem dX6_refusalOfRound_19 : decode cX6_refusalOfRound 19 = .ok (.ifCond .ge 6, 3) := by decide +kernel
theorem dX6_refusalOfRound_22 : decode cX6_refusalOfRound 22 = .ok (.bipush (-4), 2) := by decide +kernel
theorem dX6_refusalOfRound_24 : decode cX6_refusalOfRound 24 = .ok (.ireturn, 1) := by decide +kernel
theorem dX6_refusalOfRound_25 : decode cX6_refusalOfRound 25 = .ok (.iload_n 2, 1) := by decide +kernel
theorem dX6_refusalOfRound_26 : decode cX6_refusalOfRound 26 = .ok (.aload_n 0, 1) := by decide +kernel
theorem dX6_refusalOfRound_27 : decode cX6_refusalOfRound 27 = .ok (.getfield 29, 3) := by decide +kernel
theorem dX6_refusalOfRound_30 : decode cX6_refusalOfRound 30 = .ok (.iload_n 1, 1) := by decide +kernel
theorem dX6_refusalOfRound_31 : decode cX6_refusalOfRound 31 = .ok (.invokevirtual 183, 3) := by decide +kernel
theorem dX6_refusalOfRound_34 : decode cX6_refusalOfRound 34 = .ok (.if_icmp .gt 14, 3) := by decide +kernel
theorem dX6_refusalOfRound_37 : decode cX6_refusalOfRound 37 = .ok (.iload_n 3, 1) := by decide +kernel
theorem dX6_refusalOfRound_38 : decode cX6_refusalOfRound 38 = .ok (.iconst (-1), 1) := by decide +kernel
theorem dX6_refusalOfRound_39 : decode cX6_refusalOfRound 39 = .ok (.iload_n 2, 1) := by decide +kernel
theorem dX6_refusalOfRound_40 : decode cX6_refusalOfRound 40 = .ok (.iconst 1, 1) := by decide +kernel
theorem dX6_refusalOfRound_41 : decode cX6_refusalOfRound 41 = .ok (.isub, 1) := by decide +kernel
theorem dX6_refusalOfRound_42 : decode cX6_refusalOfRound 42 = .ok (.invokestatic 63, 3) := by decide +kernel
theorem dX6_refusalOfRound_45 : decode cX6_refusalOfRound 45 = .ok (.ifCond .ne 6, 3) := by decide +kernel
theorem dX6_refusalOfRound_48 : decode cX6_refusalOfRound 48 = .ok (.bipush (-5), 2) := by decide +kernel
theorem dX6_refusalOfRound_50 : decode cX6_refusalOfRound 50 = .ok (.ireturn, 1) := by decide +kernel
theorem dX6_refusalOfRound_51 : decode cX6_refusalOfRound 51 = .ok (.iload_n 2, 1) := by decide +kernel
theorem dX6_refusalOfRound_52 : decode cX6_refusalOfRound 52 = .ok (.bipush 20, 2) := by decide +kernel
theorem dX6_refusalOfRound_54 : decode cX6_refusalOfRound 54 = .ok (.if_icmp .le 8, 3) := by decide +kernel
theorem dX6_refusalOfRound_57 : decode cX6_refusalOfRound 57 = .ok (.bipush (-6), 2) := by decide +kernel
theorem dX6_refusalOfRound_59 : decode cX6_refusalOfRound 59 = .ok (.goto 4, 3) := by decide +kernel
theorem dX6_refusalOfRound_62 : decode cX6_refusalOfRound 62 = .ok (.iconst 0, 1) := by decide +kernel
theorem dX6_refusalOfRound_63 : decode cX6_refusalOfRound 63 = .ok (.ireturn, 1) := by decide +kernel
theorem dX6_wrongOfRound_0 : decode cX6_wrongOfRound 0 = .ok (.iconst 0, 1) := by decide +kernel
theorem dX6_wrongOfRound_1 : decode cX6_wrongOfRound 1 = .ok (.istore_n 3, 1) := by decide +kernel
theorem dX6_wrongOfRound_2 : decode cX6_wrongOfRound 2 = .ok (.iconst 0, 1) := by decide +kernel
theorem dX6_wrongOfRound_3 : decode cX6_wrongOfRound 3 = .ok (.istore 4, 2) := by decide +kernel
theorem dX6_wrongOfRound_5 : decode cX6_wrongOfRound 5 = .ok (.iload 4, 2) := by decide +kernel
theorem dX6_wrongOfRound_7 : decode cX6_wrongOfRound 7 = .ok (.iload_n 2, 1) := by decide +kernel
theorem dX6_wrongOfRound_8 : decode cX6_wrongOfRound 8 = .ok (.if_icmp .ge 52, 3) := by decide +kernel
theorem dX6_wrongOfRound_11 : decode cX6_wrongOfRound 11 = .ok (.aload_n 0, 1) := by decide +kernel
theorem dX6_wrongOfRound_12 : decode cX6_wrongOfRound 12 = .ok (.getfield 29, 3) := by decide +kernel
theorem dX6_wrongOfRound_15 : decode cX6_wrongOfRound 15 = .ok (.iload_n 1, 1) := by decide +kernel
theorem dX6_wrongOfRound_16 : decode cX6_wrongOfRound 16 = .ok (.iload 4, 2) := by decide +kernel
theorem dX6_wrongOfRound_18 : decode cX6_wrongOfRound 18 = .ok (.invokevirtual 323, 3) := by decide +kernel
theorem dX6_wrongOfRound_21 : decode cX6_wrongOfRound 21 = .ok (.istore 5, 2) := by decide +kernel
theorem dX6_wrongOfRound_23 : decode cX6_wrongOfRound 23 = .ok (.aload_n 0, 1) := by decide +kernel
theorem dX6_wrongOfRound_24 : decode cX6_wrongOfRound 24 = .ok (.getfield 10, 3) := by decide +kernel
theorem dX6_wrongOfRound_27 : decode cX6_wrongOfRound 27 = .ok (.iload 5, 2) := by decide +kernel
theorem dX6_wrongOfRound_29 : decode cX6_wrongOfRound 29 = .ok (.invokevirtual 93, 3) := by decide +kernel
theorem dX6_wrongOfRound_32 : decode cX6_wrongOfRound 32 = .ok (.ifCond .eq 12, 3) := by decide +kernel
theorem dX6_wrongOfRound_35 : decode cX6_wrongOfRound 35 = .ok (.iload_n 3, 1) := by decide +kernel
theorem dX6_wrongOfRound_36 : decode cX6_wrongOfRound 36 = .ok (.iload 5, 2) := by decide +kernel
theorem dX6_wrongOfRound_38 : decode cX6_wrongOfRound 38 = .ok (.invokestatic 326, 3) := by decide +kernel
theorem dX6_wrongOfRound_41 : decode cX6_wrongOfRound 41 = .ok (.ifCond .eq 6, 3) := by decide +kernel
theorem dX6_wrongOfRound_44 : decode cX6_wrongOfRound 44 = .ok (.iload 4, 2) := by decide +kernel
theorem dX6_wrongOfRound_46 : decode cX6_wrongOfRound 46 = .ok (.ireturn, 1) := by decide +kernel
theorem dX6_wrongOfRound_47 : decode cX6_wrongOfRound 47 = .ok (.iload_n 3, 1) := by decide +kernel
theorem dX6_wrongOfRound_48 : decode cX6_wrongOfRound 48 = .ok (.iconst 1, 1) := by decide +kernel
theorem dX6_wrongOfRound_49 : decode cX6_wrongOfRound 49 = .ok (.iload 5, 2) := by decide +kernel
theorem dX6_wrongOfRound_51 : decode cX6_wrongOfRound 51 = .ok (.ishl, 1) := by decide +kernel
theorem dX6_wrongOfRound_52 : decode cX6_wrongOfRound 52 = .ok (.ior, 1) := by decide +kernel
theorem dX6_wrongOfRound_53 : decode cX6_wrongOfRound 53 = .ok (.istore_n 3, 1) := by decide +kernel
theorem dX6_wrongOfRound_54 : decode cX6_wrongOfRound 54 = .ok (.iinc 4 1, 3) := by decide +kernel
theorem dX6_wrongOfRound_57 : decode cX6_wrongOfRound 57 = .ok (.goto (-52), 3) := by decide +kernel
theorem dX6_wrongOfRound_60 : decode cX6_wrongOfRound 60 = .ok (.iconst (-1), 1) := by decide +kernel
theorem dX6_wrongOfRound_61 : decode cX6_wrongOfRound 61 = .ok (.ireturn, 1) := by decide +kernel
theorem dX6_leansOfRound_0 : decode cX6_leansOfRound 0 = .ok (.iconst 0, 1) := by decide +kernel
theorem dX6_leansOfRound_1 : decode cX6_leansOfRound 1 = .ok (.istore_n 3, 1) := by decide +kernel
theorem dX6_leansOfRound_2 : decode cX6_leansOfRound 2 = .ok (.iconst 0, 1) := by decide +kernel
theorem dX6_leansOfRound_3 : decode cX6_leansOfRound 3 = .ok (.istore 4, 2) := by decide +kernel
theorem dX6_leansOfRound_5 : decode cX6_leansOfRound 5 = .ok (.iconst 0, 1) := by decide +kernel
theorem dX6_leansOfRound_6 : decode cX6_leansOfRound 6 = .ok (.istore 5, 2) := by decide +kernel
theorem dX6_leansOfRound_8 : decode cX6_leansOfRound 8 = .ok (.iload 5, 2) := by decide +kernel
theorem dX6_leansOfRound_10 : decode cX6_leansOfRound 10 = .ok (.iload_n 2, 1) := by decide +kernel
theorem dX6_leansOfRound_11 : decode cX6_leansOfRound 11 = .ok (.if_icmp .ge 66, 3) := by decide +kernel
theorem dX6_leansOfRound_14 : decode cX6_leansOfRound 14 = .ok (.aload_n 0, 1) := by decide +kernel
theorem dX6_leansOfRound_15 : decode cX6_leansOfRound 15 = .ok (.getfield 29, 3) := by decide +kernel
theorem dX6_leansOfRound_18 : decode cX6_leansOfRound 18 = .ok (.iload_n 1, 1) := by decide +kernel
theorem dX6_leansOfRound_19 : decode cX6_leansOfRound 19 = .ok (.iload 5, 2) := by decide +kernel
theorem dX6_leansOfRound_21 : decode cX6_leansOfRound 21 = .ok (.invokevirtual 323, 3) := by decide +kernel
theorem dX6_leansOfRound_24 : decode cX6_leansOfRound 24 = .ok (.istore 6, 2) := by decide +kernel
theorem dX6_leansOfRound_26 : decode cX6_leansOfRound 26 = .ok (.aload_n 0, 1) := by decide +kernel
theorem dX6_leansOfRound_27 : decode cX6_leansOfRound 27 = .ok (.getfield 10, 3) := by decide +kernel
theorem dX6_leansOfRound_30 : decode cX6_leansOfRound 30 = .ok (.iload 6, 2) := by decide +kernel
theorem dX6_leansOfRound_32 : decode cX6_leansOfRound 32 = .ok (.sipush 1023, 3) := by decide +kernel
theorem dX6_leansOfRound_35 : decode cX6_leansOfRound 35 = .ok (.invokevirtual 113, 3) := by decide +kernel
theorem dX6_leansOfRound_38 : decode cX6_leansOfRound 38 = .ok (.istore 7, 2) := by decide +kernel
theorem dX6_leansOfRound_40 : decode cX6_leansOfRound 40 = .ok (.iload_n 3, 1) := by decide +kernel
theorem dX6_leansOfRound_41 : decode cX6_leansOfRound 41 = .ok (.aload_n 0, 1) := by decide +kernel
theorem dX6_leansOfRound_42 : decode cX6_leansOfRound 42 = .ok (.getfield 10, 3) := by decide +kernel
theorem dX6_leansOfRound_45 : decode cX6_leansOfRound 45 = .ok (.iload 6, 2) := by decide +kernel
theorem dX6_leansOfRound_47 : decode cX6_leansOfRound 47 = .ok (.iload 7, 2) := by decide +kernel
theorem dX6_leansOfRound_49 : decode cX6_leansOfRound 49 = .ok (.iload 4, 2) := by decide +kernel
theorem dX6_leansOfRound_51 : decode cX6_leansOfRound 51 = .ok (.invokevirtual 329, 3) := by decide +kernel
theorem dX6_leansOfRound_54 : decode cX6_leansOfRound 54 = .ok (.iload 7, 2) := by decide +kernel
theorem dX6_leansOfRound_56 : decode cX6_leansOfRound 56 = .ok (.isub, 1) := by decide +kernel
theorem dX6_leansOfRound_57 : decode cX6_leansOfRound 57 = .ok (.invokestatic 242, 3) := by decide +kernel
theorem dX6_leansOfRound_60 : decode cX6_leansOfRound 60 = .ok (.iadd, 1) := by decide +kernel
theorem dX6_leansOfRound_61 : decode cX6_leansOfRound 61 = .ok (.istore_n 3, 1) := by decide +kernel
theorem dX6_leansOfRound_62 : decode cX6_leansOfRound 62 = .ok (.iload 4, 2) := by decide +kernel
theorem dX6_leansOfRound_64 : decode cX6_leansOfRound 64 = .ok (.iconst 1, 1) := by decide +kernel
theorem dX6_leansOfRound_65 : decode cX6_leansOfRound 65 = .ok (.iload 6, 2) := by decide +kernel
theorem dX6_leansOfRound_67 : decode cX6_leansOfRound 67 = .ok (.ishl, 1) := by decide +kernel
theorem dX6_leansOfRound_68 : decode cX6_leansOfRound 68 = .ok (.ior, 1) := by decide +kernel
theorem dX6_leansOfRound_69 : decode cX6_leansOfRound 69 = .ok (.istore 4, 2) := by decide +kernel
theorem dX6_leansOfRound_71 : decode cX6_leansOfRound 71 = .ok (.iinc 5 1, 3) := by decide +kernel
theorem dX6_leansOfRound_74 : decode cX6_leansOfRound 74 = .ok (.goto (-66), 3) := by decide +kernel
theorem dX6_leansOfRound_77 : decode cX6_leansOfRound 77 = .ok (.iload_n 3, 1) := by decide +kernel
theorem dX6_leansOfRound_78 : decode cX6_leansOfRound 78 = .ok (.ireturn, 1) := by decide +kernel
theorem dX6_shareInRound_0 : decode cX6_shareInRound 0 = .ok (.iconst 0, 1) := by decide +kernel
theorem dX6_shareInRound_1 : decode cX6_shareInRound 1 = .ok (.istore_n 3, 1) := by decide +kernel
theorem dX6_shareInRound_2 : decode cX6_shareInRound 2 = .ok (.iconst 0, 1) := by decide +kernel
theorem dX6_shareInRound_3 : decode cX6_shareInRound 3 = .ok (.istore 4, 2) := by decide +kernel
theorem dX6_shareInRound_5 : decode cX6_shareInRound 5 = .ok (.iload 4, 2) := by decide +kernel
theorem dX6_shareInRound_7 : decode cX6_shareInRound 7 = .ok (.iload_n 2, 1) := by decide +kernel
theorem dX6_shareInRound_8 : decode cX6_shareInRound 8 = .ok (.if_icmp .ge 24, 3) := by decide +kernel
theorem dX6_shareInRound_11 : decode cX6_shareInRound 11 = .ok (.iload_n 3, 1) := by decide +kernel
theorem dX6_shareInRound_12 : decode cX6_shareInRound 12 = .ok (.iconst 1, 1) := by decide +kernel
theorem dX6_shareInRound_13 : decode cX6_shareInRound 13 = .ok (.aload_n 0, 1) := by decide +kernel
theorem dX6_shareInRound_14 : decode cX6_shareInRound 14 = .ok (.getfield 29, 3) := by decide +kernel
theorem dX6_shareInRound_17 : decode cX6_shareInRound 17 = .ok (.iload_n 1, 1) := by decide +kernel
theorem dX6_shareInRound_18 : decode cX6_shareInRound 18 = .ok (.iload 4, 2) := by decide +kernel
theorem dX6_shareInRound_20 : decode cX6_shareInRound 20 = .ok (.invokevirtual 323, 3) := by decide +kernel
theorem dX6_shareInRound_23 : decode cX6_shareInRound 23 = .ok (.ishl, 1) := by decide +kernel
theorem dX6_shareInRound_24 : decode cX6_shareInRound 24 = .ok (.ior, 1) := by decide +kernel
theorem dX6_shareInRound_25 : decode cX6_shareInRound 25 = .ok (.istore_n 3, 1) := by decide +kernel
theorem dX6_shareInRound_26 : decode cX6_shareInRound 26 = .ok (.iinc 4 1, 3) := by decide +kernel
theorem dX6_shareInRound_29 : decode cX6_shareInRound 29 = .ok (.goto (-24), 3) := by decide +kernel
theorem dX6_shareInRound_32 : decode cX6_shareInRound 32 = .ok (.aload_n 0, 1) := by decide +kernel
theorem dX6_shareInRound_33 : decode cX6_shareInRound 33 = .ok (.getfield 29, 3) := by decide +kernel
theorem dX6_shareInRound_36 : decode cX6_shareInRound 36 = .ok (.iload_n 1, 1) := by decide +kernel
theorem dX6_shareInRound_37 : decode cX6_shareInRound 37 = .ok (.iload_n 2, 1) := by decide +kernel
theorem dX6_shareInRound_38 : decode cX6_shareInRound 38 = .ok (.invokevirtual 323, 3) := by decide +kernel
theorem dX6_shareInRound_41 : decode cX6_shareInRound 41 = .ok (.istore 4, 2) := by decide +kernel
theorem dX6_shareInRound_43 : decode cX6_shareInRound 43 = .ok (.aload_n 0, 1) := by decide +kernel
theorem dX6_shareInRound_44 : decode cX6_shareInRound 44 = .ok (.getfield 10, 3) := by decide +kernel
theorem dX6_shareInRound_47 : decode cX6_shareInRound 47 = .ok (.iload 4, 2) := by decide +kernel
theorem dX6_shareInRound_49 : decode cX6_shareInRound 49 = .ok (.aload_n 0, 1) := by decide +kernel
theorem dX6_shareInRound_50 : decode cX6_shareInRound 50 = .ok (.getfield 10, 3) := by decide +kernel
theorem dX6_shareInRound_53 : decode cX6_shareInRound 53 = .ok (.iload 4, 2) := by decide +kernel
theorem dX6_shareInRound_55 : decode cX6_shareInRound 55 = .ok (.sipush 1023, 3) := by decide +kernel
theorem dX6_shareInRound_58 : decode cX6_shareInRound 58 = .ok (.invokevirtual 113, 3) := by decide +kernel
theorem dX6_shareInRound_61 : decode cX6_shareInRound 61 = .ok (.iload_n 3, 1) := by decide +kernel
theorem dX6_shareInRound_62 : decode cX6_shareInRound 62 = .ok (.invokevirtual 329, 3) := by decide +kernel
theorem dX6_shareInRound_65 : decode cX6_shareInRound 65 = .ok (.ireturn, 1) := by decide +kernel
theorem dX6_isWithin_0 : decode cX6_isWithin 0 = .ok (.iload_n 0, 1) := by decide +kernel
theorem dX6_isWithin_1 : decode cX6_isWithin 1 = .ok (.iload_n 1, 1) := by decide +kernel
theorem dX6_isWithin_2 : decode cX6_isWithin 2 = .ok (.if_icmp .lt 12, 3) := by decide +kernel
theorem dX6_isWithin_5 : decode cX6_isWithin 5 = .ok (.iload_n 0, 1) := by decide +kernel
theorem dX6_isWithin_6 : decode cX6_isWithin 6 = .ok (.iload_n 2, 1) := by decide +kernel
theorem dX6_isWithin_7 : decode cX6_isWithin 7 = .ok (.if_icmp .gt 7, 3) := by decide +kernel
theorem dX6_isWithin_10 : decode cX6_isWithin 10 = .ok (.iconst 1, 1) := by decide +kernel
theorem dX6_isWithin_11 : decode cX6_isWithin 11 = .ok (.goto 4, 3) := by decide +kernel
theorem dX6_isWithin_14 : decode cX6_isWithin 14 = .ok (.iconst 0, 1) := by decide +kernel
theorem dX6_isWithin_15 : decode cX6_isWithin 15 = .ok (.ireturn, 1) := by decide +kernel
theorem dX6_isShelf_0 : decode cX6_isShelf 0 = .ok (.iload_n 0, 1) := by decide +kernel
theorem dX6_isShelf_1 : decode cX6_isShelf 1 = .ok (.iconst 0, 1) := by decide +kernel
theorem dX6_isShelf_2 : decode cX6_isShelf 2 = .ok (.bipush 7, 2) := by decide +kernel
theorem dX6_isShelf_4 : decode cX6_isShelf 4 = .ok (.invokestatic 63, 3) := by decide +kernel
theorem dX6_isShelf_7 : decode cX6_isShelf 7 = .ok (.ireturn, 1) := by decide +kernel
theorem dX6_isKind_0 : decode cX6_isKind 0 = .ok (.iload_n 0, 1) := by decide +kernel
theorem dX6_isKind_1 : decode cX6_isKind 1 = .ok (.iconst 0, 1) := by decide +kernel
theorem dX6_isKind_2 : decode cX6_isKind 2 = .ok (.bipush 6, 2) := by decide +kernel
theorem dX6_isKind_4 : decode cX6_isKind 4 = .ok (.invokestatic 63, 3) := by decide +kernel
theorem dX6_isKind_7 : decode cX6_isKind 7 = .ok (.ireturn, 1) := by decide +kernel
theorem dX6_contains_0 : decode cX6_contains 0 = .ok (.iload_n 0, 1) := by decide +kernel
theorem dX6_contains_1 : decode cX6_contains 1 = .ok (.iconst 1, 1) := by decide +kernel
theorem dX6_contains_2 : decode cX6_contains 2 = .ok (.iload_n 1, 1) := by decide +kernel
theorem dX6_contains_3 : decode cX6_contains 3 = .ok (.ishl, 1) := by decide +kernel
theorem dX6_contains_4 : decode cX6_contains 4 = .ok (.iand, 1) := by decide +kernel
theorem dX6_contains_5 : decode cX6_contains 5 = .ok (.ifCond .eq 7, 3) := by decide +kernel
theorem dX6_contains_8 : decode cX6_contains 8 = .ok (.iconst 1, 1) := by decide +kernel
theorem dX6_contains_9 : decode cX6_contains 9 = .ok (.goto 4, 3) := by decide +kernel
theorem dX6_contains_12 : decode cX6_contains 12 = .ok (.iconst 0, 1) := by decide +kernel
theorem dX6_contains_13 : decode cX6_contains 13 = .ok (.ireturn, 1) := by decide +kernel
theorem dX6_isOrUnder_0 : decode cX6_isOrUnder 0 = .ok (.iload_n 0, 1) := by decide +kernel
theorem dX6_isOrUnder_1 : decode cX6_isOrUnder 1 = .ok (.istore_n 2, 1) := by decide +kernel
theorem dX6_isOrUnder_2 : decode cX6_isOrUnder 2 = .ok (.iconst 0, 1) := by decide +kernel
theorem dX6_isOrUnder_3 : decode cX6_isOrUnder 3 = .ok (.istore_n 3, 1) := by decide +kernel
theorem dX6_isOrUnder_4 : decode cX6_isOrUnder 4 = .ok (.iload_n 3, 1) := by decide +kernel
theorem dX6_isOrUnder_5 : decode cX6_isOrUnder 5 = .ok (.getstatic 332, 3) := by decide +kernel
theorem dX6_isOrUnder_8 : decode cX6_isOrUnder 8 = .ok (.arraylength, 1) := by decide +kernel
theorem dX6_isOrUnder_9 : decode cX6_isOrUnder 9 = .ok (.if_icmp .ge 29, 3) := by decide +kernel
theorem dX6_isOrUnder_12 : decode cX6_isOrUnder 12 = .ok (.iload_n 2, 1) := by decide +kernel
theorem dX6_isOrUnder_13 : decode cX6_isOrUnder 13 = .ok (.invokestatic 103, 3) := by decide +kernel
theorem dX6_isOrUnder_16 : decode cX6_isOrUnder 16 = .ok (.ifCond .eq 22, 3) := by decide +kernel
theorem dX6_isOrUnder_19 : decode cX6_isOrUnder 19 = .ok (.iload_n 2, 1) := by decide +kernel
theorem dX6_isOrUnder_20 : decode cX6_isOrUnder 20 = .ok (.iload_n 1, 1) := by decide +kernel
theorem dX6_isOrUnder_21 : decode cX6_isOrUnder 21 = .ok (.if_icmp .ne 5, 3) := by decide +kernel
theorem dX6_isOrUnder_24 : decode cX6_isOrUnder 24 = .ok (.iconst 1, 1) := by decide +kernel
theorem dX6_isOrUnder_25 : decode cX6_isOrUnder 25 = .ok (.ireturn, 1) := by decide +kernel
theorem dX6_isOrUnder_26 : decode cX6_isOrUnder 26 = .ok (.getstatic 332, 3) := by decide +kernel
theorem dX6_isOrUnder_29 : decode cX6_isOrUnder 29 = .ok (.iload_n 2, 1) := by decide +kernel
theorem dX6_isOrUnder_30 : decode cX6_isOrUnder 30 = .ok (.iaload, 1) := by decide +kernel
theorem dX6_isOrUnder_31 : decode cX6_isOrUnder 31 = .ok (.istore_n 2, 1) := by decide +kernel
theorem dX6_isOrUnder_32 : decode cX6_isOrUnder 32 = .ok (.iinc 3 1, 3) := by decide +kernel
theorem dX6_isOrUnder_35 : decode cX6_isOrUnder 35 = .ok (.goto (-31), 3) := by decide +kernel
theorem dX6_isOrUnder_38 : decode cX6_isOrUnder 38 = .ok (.iconst 0, 1) := by decide +kernel
theorem dX6_isOrUnder_39 : decode cX6_isOrUnder 39 = .ok (.ireturn, 1) := by decide +kernel
theorem dX6_thousandths_0 : decode cX6_thousandths 0 = .ok (.iload_n 1, 1) := by decide +kernel
theorem dX6_thousandths_1 : decode cX6_thousandths 1 = .ok (.ifCond .ne 7, 3) := by decide +kernel
theorem dX6_thousandths_4 : decode cX6_thousandths 4 = .ok (.iconst 0, 1) := by decide +kernel
theorem dX6_thousandths_5 : decode cX6_thousandths 5 = .ok (.goto 10, 3) := by decide +kernel
theorem dX6_thousandths_8 : decode cX6_thousandths 8 = .ok (.sipush 1000, 3) := by decide +kernel
theorem dX6_thousandths_11 : decode cX6_thousandths 11 = .ok (.iload_n 0, 1) := by decide +kernel
theorem dX6_thousandths_12 : decode cX6_thousandths 12 = .ok (.imul, 1) := by decide +kernel
theorem dX6_thousandths_13 : decode cX6_thousandths 13 = .ok (.iload_n 1, 1) := by decide +kernel
theorem dX6_thousandths_14 : decode cX6_thousandths 14 = .ok (.idiv, 1) := by decide +kernel
theorem dX6_thousandths_15 : decode cX6_thousandths 15 = .ok (.ireturn, 1) := by decide +kernel
theorem dX6_yesBy_0 : decode cX6_yesBy 0 = .ok (.iload 4, 2) := by decide +kernel
theorem dX6_yesBy_2 : decode cX6_yesBy 2 = .ok (.iconst 2, 1) := by decide +kernel
theorem dX6_yesBy_3 : decode cX6_yesBy 3 = .ok (.idiv, 1) := by decide +kernel
theorem dX6_yesBy_4 : decode cX6_yesBy 4 = .ok (.istore 5, 2) := by decide +kernel
theorem dX6_yesBy_6 : decode cX6_yesBy 6 = .ok (.iload_n 2, 1) := by decide +kernel
theorem dX6_yesBy_7 : decode cX6_yesBy 7 = .ok (.ifCond .ne 8, 3) := by decide +kernel
theorem dX6_yesBy_10 : decode cX6_yesBy 10 = .ok (.iload 4, 2) := by decide +kernel
theorem dX6_yesBy_12 : decode cX6_yesBy 12 = .ok (.goto 14, 3) := by decide +kernel
theorem dX6_yesBy_15 : decode cX6_yesBy 15 = .ok (.iload_n 2, 1) := by decide +kernel
theorem dX6_yesBy_16 : decode cX6_yesBy 16 = .ok (.iconst 1, 1) := by decide +kernel
theorem dX6_yesBy_17 : decode cX6_yesBy 17 = .ok (.if_icmp .ne 7, 3) := by decide +kernel
theorem dX6_yesBy_20 : decode cX6_yesBy 20 = .ok (.iconst 0, 1) := by decide +kernel
theorem dX6_yesBy_21 : decode cX6_yesBy 21 = .ok (.goto 5, 3) := by decide +kernel
theorem dX6_yesBy_24 : decode cX6_yesBy 24 = .ok (.iload 5, 2) := by decide +kernel
theorem dX6_yesBy_26 : decode cX6_yesBy 26 = .ok (.istore 6, 2) := by decide +kernel
theorem dX6_yesBy_28 : decode cX6_yesBy 28 = .ok (.iload_n 2, 1) := by decide +kernel
theorem dX6_yesBy_29 : decode cX6_yesBy 29 = .ok (.iconst 1, 1) := by decide +kernel
theorem dX6_yesBy_30 : decode cX6_yesBy 30 = .ok (.if_icmp .ne 8, 3) := by decide +kernel
theorem dX6_yesBy_33 : decode cX6_yesBy 33 = .ok (.iload 4, 2) := by decide +kernel
theorem dX6_yesBy_35 : decode cX6_yesBy 35 = .ok (.goto 13, 3) := by decide +kernel
theorem dX6_yesBy_38 : decode cX6_yesBy 38 = .ok (.iload_n 2, 1) := by decide +kernel
theorem dX6_yesBy_39 : decode cX6_yesBy 39 = .ok (.ifCond .ne 7, 3) := by decide +kernel
theorem dX6_yesBy_42 : decode cX6_yesBy 42 = .ok (.iconst 0, 1) := by decide +kernel
theorem dX6_yesBy_43 : decode cX6_yesBy 43 = .ok (.goto 5, 3) := by decide +kernel
theorem dX6_yesBy_46 : decode cX6_yesBy 46 = .ok (.iload 5, 2) := by decide +kernel
theorem dX6_yesBy_48 : decode cX6_yesBy 48 = .ok (.istore 7, 2) := by decide +kernel
theorem dX6_yesBy_50 : decode cX6_yesBy 50 = .ok (.iload_n 3, 1) := by decide +kernel
theorem dX6_yesBy_51 : decode cX6_yesBy 51 = .ok (.iload_n 1, 1) := by decide +kernel
theorem dX6_yesBy_52 : decode cX6_yesBy 52 = .ok (.iadd, 1) := by decide +kernel
theorem dX6_yesBy_53 : decode cX6_yesBy 53 = .ok (.bipush 10, 2) := by decide +kernel
theorem dX6_yesBy_55 : decode cX6_yesBy 55 = .ok (.if_icmp .le 8, 3) := by decide +kernel
theorem dX6_yesBy_58 : decode cX6_yesBy 58 = .ok (.bipush 10, 2) := by decide +kernel
theorem dX6_yesBy_60 : decode cX6_yesBy 60 = .ok (.goto 6, 3) := by decide +kernel
theorem dX6_yesBy_63 : decode cX6_yesBy 63 = .ok (.iload_n 3, 1) := by decide +kernel
theorem dX6_yesBy_64 : decode cX6_yesBy 64 = .ok (.iload_n 1, 1) := by decide +kernel
theorem dX6_yesBy_65 : decode cX6_yesBy 65 = .ok (.iadd, 1) := by decide +kernel
theorem dX6_yesBy_66 : decode cX6_yesBy 66 = .ok (.istore 8, 2) := by decide +kernel
theorem dX6_yesBy_68 : decode cX6_yesBy 68 = .ok (.iload_n 0, 1) := by decide +kernel
theorem dX6_yesBy_69 : decode cX6_yesBy 69 = .ok (.tableswitch 104 1 6 #[39, 53, 56, 71, 82, 93], 39) := by decide +kernel
theorem dX6_yesBy_108 : decode cX6_yesBy 108 = .ok (.iload 6, 2) := by decide +kernel
theorem dX6_yesBy_110 : decode cX6_yesBy 110 = .ok (.iload 4, 2) := by decide +kernel
theorem dX6_yesBy_112 : decode cX6_yesBy 112 = .ok (.iload 6, 2) := by decide +kernel
theorem dX6_yesBy_114 : decode cX6_yesBy 114 = .ok (.isub, 1) := by decide +kernel
theorem dX6_yesBy_115 : decode cX6_yesBy 115 = .ok (.iload_n 3, 1) := by decide +kernel
theorem dX6_yesBy_116 : decode cX6_yesBy 116 = .ok (.imul, 1) := by decide +kernel
theorem dX6_yesBy_117 : decode cX6_yesBy 117 = .ok (.bipush 10, 2) := by decide +kernel
theorem dX6_yesBy_119 : decode cX6_yesBy 119 = .ok (.idiv, 1) := by decide +kernel
theorem dX6_yesBy_120 : decode cX6_yesBy 120 = .ok (.iadd, 1) := by decide +kernel
theorem dX6_yesBy_121 : decode cX6_yesBy 121 = .ok (.ireturn, 1) := by decide +kernel
theorem dX6_yesBy_122 : decode cX6_yesBy 122 = .ok (.iload 7, 2) := by decide +kernel
theorem dX6_yesBy_124 : decode cX6_yesBy 124 = .ok (.ireturn, 1) := by decide +kernel
theorem dX6_yesBy_125 : decode cX6_yesBy 125 = .ok (.iload 6, 2) := by decide +kernel
theorem dX6_yesBy_127 : decode cX6_yesBy 127 = .ok (.iload 4, 2) := by decide +kernel
theorem dX6_yesBy_129 : decode cX6_yesBy 129 = .ok (.iload 6, 2) := by decide +kernel
theorem dX6_yesBy_131 : decode cX6_yesBy 131 = .ok (.isub, 1) := by decide +kernel
theorem dX6_yesBy_132 : decode cX6_yesBy 132 = .ok (.iload 8, 2) := by decide +kernel
theorem dX6_yesBy_134 : decode cX6_yesBy 134 = .ok (.imul, 1) := by decide +kernel
theorem dX6_yesBy_135 : decode cX6_yesBy 135 = .ok (.bipush 10, 2) := by decide +kernel
theorem dX6_yesBy_137 : decode cX6_yesBy 137 = .ok (.idiv, 1) := by decide +kernel
theorem dX6_yesBy_138 : decode cX6_yesBy 138 = .ok (.iadd, 1) := by decide +kernel
theorem dX6_yesBy_139 : decode cX6_yesBy 139 = .ok (.ireturn, 1) := by decide +kernel
theorem dX6_yesBy_140 : decode cX6_yesBy 140 = .ok (.iload 6, 2) := by decide +kernel
theorem dX6_yesBy_142 : decode cX6_yesBy 142 = .ok (.bipush 10, 2) := by decide +kernel
theorem dX6_yesBy_144 : decode cX6_yesBy 144 = .ok (.iload_n 1, 1) := by decide +kernel
theorem dX6_yesBy_145 : decode cX6_yesBy 145 = .ok (.isub, 1) := by decide +kernel
theorem dX6_yesBy_146 : decode cX6_yesBy 146 = .ok (.imul, 1) := by decide +kernel
theorem dX6_yesBy_147 : decode cX6_yesBy 147 = .ok (.bipush 10, 2) := by decide +kernel
theorem dX6_yesBy_149 : decode cX6_yesBy 149 = .ok (.idiv, 1) := by decide +kernel
theorem dX6_yesBy_150 : decode cX6_yesBy 150 = .ok (.ireturn, 1) := by decide +kernel
theorem dX6_yesBy_151 : decode cX6_yesBy 151 = .ok (.iload 7, 2) := by decide +kernel
theorem dX6_yesBy_153 : decode cX6_yesBy 153 = .ok (.bipush 10, 2) := by decide +kernel
theorem dX6_yesBy_155 : decode cX6_yesBy 155 = .ok (.iload_n 1, 1) := by decide +kernel
theorem dX6_yesBy_156 : decode cX6_yesBy 156 = .ok (.isub, 1) := by decide +kernel
theorem dX6_yesBy_157 : decode cX6_yesBy 157 = .ok (.imul, 1) := by decide +kernel
theorem dX6_yesBy_158 : decode cX6_yesBy 158 = .ok (.bipush 10, 2) := by decide +kernel
theorem dX6_yesBy_160 : decode cX6_yesBy 160 = .ok (.idiv, 1) := by decide +kernel
theorem dX6_yesBy_161 : decode cX6_yesBy 161 = .ok (.ireturn, 1) := by decide +kernel
theorem dX6_yesBy_162 : decode cX6_yesBy 162 = .ok (.iload 5, 2) := by decide +kernel
theorem dX6_yesBy_164 : decode cX6_yesBy 164 = .ok (.bipush 10, 2) := by decide +kernel
theorem dX6_yesBy_166 : decode cX6_yesBy 166 = .ok (.iload_n 1, 1) := by decide +kernel
theorem dX6_yesBy_167 : decode cX6_yesBy 167 = .ok (.isub, 1) := by decide +kernel
theorem dX6_yesBy_168 : decode cX6_yesBy 168 = .ok (.imul, 1) := by decide +kernel
theorem dX6_yesBy_169 : decode cX6_yesBy 169 = .ok (.bipush 10, 2) := by decide +kernel
theorem dX6_yesBy_171 : decode cX6_yesBy 171 = .ok (.idiv, 1) := by decide +kernel
theorem dX6_yesBy_172 : decode cX6_yesBy 172 = .ok (.ireturn, 1) := by decide +kernel
theorem dX6_yesBy_173 : decode cX6_yesBy 173 = .ok (.iload 6, 2) := by decide +kernel
theorem dX6_yesBy_175 : decode cX6_yesBy 175 = .ok (.ireturn, 1) := by decide +kernel
theorem dX7_init_0 : decode cX7_init 0 = .ok (.aload_n 0, 1) := by decide +kernel
theorem dX7_init_1 : decode cX7_init 1 = .ok (.invokespecial 1, 3) := by decide +kernel
theorem dX7_init_4 : decode cX7_init 4 = .ok (.aload_n 0, 1) := by decide +kernel
theorem dX7_init_5 : decode cX7_init 5 = .ok (.bipush 8, 2) := by decide +kernel
theorem dX7_init_7 : decode cX7_init 7 = .ok (.newarray .int, 2) := by decide +kernel
theorem dX7_init_9 : decode cX7_init 9 = .ok (.putfield 7, 3) := by decide +kernel
theorem dX7_init_12 : decode cX7_init 12 = .ok (.aload_n 0, 1) := by decide +kernel
theorem dX7_init_13 : decode cX7_init 13 = .ok (.bipush 8, 2) := by decide +kernel
theorem dX7_init_15 : decode cX7_init 15 = .ok (.newarray .int, 2) := by decide +kernel
theorem dX7_init_17 : decode cX7_init 17 = .ok (.putfield 13, 3) := by decide +kernel
theorem dX7_init_20 : decode cX7_init 20 = .ok (.aload_n 0, 1) := by decide +kernel
theorem dX7_init_21 : decode cX7_init 21 = .ok (.sipush 1280, 3) := by decide +kernel
theorem dX7_init_24 : decode cX7_init 24 = .ok (.newarray .long, 2) := by decide +kernel
theorem dX7_init_26 : decode cX7_init 26 = .ok (.putfield 16, 3) := by decide +kernel
theorem dX7_init_29 : decode cX7_init 29 = .ok (.aload_n 0, 1) := by decide +kernel
theorem dX7_init_30 : decode cX7_init 30 = .ok (.bipush 8, 2) := by decide +kernel
theorem dX7_init_32 : decode cX7_init 32 = .ok (.newarray .int, 2) := by decide +kernel
theorem dX7_init_34 : decode cX7_init 34 = .ok (.putfield 20, 3) := by decide +kernel
theorem dX7_init_37 : decode cX7_init 37 = .ok (.aload_n 0, 1) := by decide +kernel
theorem dX7_init_38 : decode cX7_init 38 = .ok (.bipush 8, 2) := by decide +kernel
theorem dX7_init_40 : decode cX7_init 40 = .ok (.newarray .int, 2) := by decide +kernel
theorem dX7_init_42 : decode cX7_init 42 = .ok (.putfield 23, 3) := by decide +kernel
theorem dX7_init_45 : decode cX7_init 45 = .ok (.aload_n 0, 1) := by decide +kernel
theorem dX7_init_46 : decode cX7_init 46 = .ok (.bipush 64, 2) := by decide +kernel
theorem dX7_init_48 : decode cX7_init 48 = .ok (.newarray .int, 2) := by decide +kernel
theorem dX7_init_50 : decode cX7_init 50 = .ok (.putfield 26, 3) := by decide +kernel
theorem dX7_init_53 : decode cX7_init 53 = .ok (.aload_n 0, 1) := by decide +kernel
theorem dX7_init_54 : decode cX7_init 54 = .ok (.bipush 10, 2) := by decide +kernel
theorem dX7_init_56 : decode cX7_init 56 = .ok (.newarray .int, 2) := by decide +kernel
theorem dX7_init_58 : decode cX7_init 58 = .ok (.putfield 29, 3) := by decide +kernel
theorem dX7_init_61 : decode cX7_init 61 = .ok (.aload_n 0, 1) := by decide +kernel
theorem dX7_init_62 : decode cX7_init 62 = .ok (.bipush 10, 2) := by decide +kernel
theorem dX7_init_64 : decode cX7_init 64 = .ok (.newarray .int, 2) := by decide +kernel
theorem dX7_init_66 : decode cX7_init 66 = .ok (.putfield 32, 3) := by decide +kernel
theorem dX7_init_69 : decode cX7_init 69 = .ok (.aload_n 0, 1) := by decide +kernel
theorem dX7_init_70 : decode cX7_init 70 = .ok (.bipush 10, 2) := by decide +kernel
theorem dX7_init_72 : decode cX7_init 72 = .ok (.newarray .int, 2) := by decide +kernel
theorem dX7_init_74 : decode cX7_init 74 = .ok (.putfield 35, 3) := by decide +kernel
theorem dX7_init_77 : decode cX7_init 77 = .ok (.aload_n 0, 1) := by decide +kernel
theorem dX7_init_78 : decode cX7_init 78 = .ok (.bipush 10, 2) := by decide +kernel
theorem dX7_init_80 : decode cX7_init 80 = .ok (.newarray .int, 2) := by decide +kernel
theorem dX7_init_82 : decode cX7_init 82 = .ok (.putfield 38, 3) := by decide +kernel
theorem dX7_init_85 : decode cX7_init 85 = .ok (.aload_n 0, 1) := by decide +kernel
theorem dX7_init_86 : decode cX7_init 86 = .ok (.bipush 10, 2) := by decide +kernel
theorem dX7_init_88 : decode cX7_init 88 = .ok (.newarray .int, 2) := by decide +kernel
theorem dX7_init_90 : decode cX7_init 90 = .ok (.putfield 41, 3) := by decide +kernel
theorem dX7_init_93 : decode cX7_init 93 = .ok (.aload_n 0, 1) := by decide +kernel
theorem dX7_init_94 : decode cX7_init 94 = .ok (.bipush 8, 2) := by decide +kernel
theorem dX7_init_96 : decode cX7_init 96 = .ok (.newarray .int, 2) := by decide +kernel
theorem dX7_init_98 : decode cX7_init 98 = .ok (.putfield 44, 3) := by decide +kernel
theorem dX7_init_101 : decode cX7_init 101 = .ok (.aload_n 0, 1) := by decide +kernel
theorem dX7_init_102 : decode cX7_init 102 = .ok (.bipush 20, 2) := by decide +kernel
theorem dX7_init_104 : decode cX7_init 104 = .ok (.newarray .int, 2) := by decide +kernel
theorem dX7_init_106 : decode cX7_init 106 = .ok (.putfield 47, 3) := by decide +kernel
theorem dX7_init_109 : decode cX7_init 109 = .ok (.aload_n 0, 1) := by decide +kernel
theorem dX7_init_110 : decode cX7_init 110 = .ok (.sipush 137, 3) := by decide +kernel
theorem dX7_init_113 : decode cX7_init 113 = .ok (.newarray .int, 2) := by decide +kernel
theorem dX7_init_115 : decode cX7_init 115 = .ok (.putfield 50, 3) := by decide +kernel
theorem dX7_init_118 : decode cX7_init 118 = .ok (.aload_n 0, 1) := by decide +kernel
theorem dX7_init_119 : decode cX7_init 119 = .ok (.sipush 137, 3) := by decide +kernel
theorem dX7_init_122 : decode cX7_init 122 = .ok (.newarray .int, 2) := by decide +kernel
theorem dX7_init_124 : decode cX7_init 124 = .ok (.putfield 53, 3) := by decide +kernel
theorem dX7_init_127 : decode cX7_init 127 = .ok (.aload_n 0, 1) := by decide +kernel
theorem dX7_init_128 : decode cX7_init 128 = .ok (.iconst 5, 1) := by decide +kernel
theorem dX7_init_129 : decode cX7_init 129 = .ok (.newarray .int, 2) := by decide +kernel
theorem dX7_init_131 : decode cX7_init 131 = .ok (.putfield 56, 3) := by decide +kernel
theorem dX7_init_134 : decode cX7_init 134 = .ok (.aload_n 0, 1) := by decide +kernel
theorem dX7_init_135 : decode cX7_init 135 = .ok (.bipush 10, 2) := by decide +kernel
theorem dX7_init_137 : decode cX7_init 137 = .ok (.newarray .int, 2) := by decide +kernel
theorem dX7_init_139 : decode cX7_init 139 = .ok (.putfield 59, 3) := by decide +kernel
theorem dX7_init_142 : decode cX7_init 142 = .ok (.aload_n 0, 1) := by decide +kernel
theorem dX7_init_143 : decode cX7_init 143 = .ok (.bipush 10, 2) := by decide +kernel
theorem dX7_init_145 : decode cX7_init 145 = .ok (.newarray .int, 2) := by decide +kernel
theorem dX7_init_147 : decode cX7_init 147 = .ok (.putfield 62, 3) := by decide +kernel
theorem dX7_init_150 : decode cX7_init 150 = .ok (.aload_n 0, 1) := by decide +kernel
theorem dX7_init_151 : decode cX7_init 151 = .ok (.bipush 6, 2) := by decide +kernel
theorem dX7_init_153 : decode cX7_init 153 = .ok (.newarray .int, 2) := by decide +kernel
theorem dX7_init_155 : decode cX7_init 155 = .ok (.putfield 65, 3) := by decide +kernel
theorem dX7_init_158 : decode cX7_init 158 = .ok (.aload_n 0, 1) := by decide +kernel
theorem dX7_init_159 : decode cX7_init 159 = .ok (.bipush 6, 2) := by decide +kernel
theorem dX7_init_161 : decode cX7_init 161 = .ok (.newarray .int, 2) := by decide +kernel
theorem dX7_init_163 : decode cX7_init 163 = .ok (.putfield 68, 3) := by decide +kernel
theorem dX7_init_166 : decode cX7_init 166 = .ok (.iconst 0, 1) := by decide +kernel
theorem dX7_init_167 : decode cX7_init 167 = .ok (.istore_n 1, 1) := by decide +kernel
theorem dX7_init_168 : decode cX7_init 168 = .ok (.iload_n 1, 1) := by decide +kernel
theorem dX7_init_169 : decode cX7_init 169 = .ok (.bipush 8, 2) := by decide +kernel
theorem dX7_init_171 : decode cX7_init 171 = .ok (.if_icmp .ge 16, 3) := by decide +kernel
theorem dX7_init_174 : decode cX7_init 174 = .ok (.aload_n 0, 1) := by decide +kernel
theorem dX7_init_175 : decode cX7_init 175 = .ok (.getfield 7, 3) := by decide +kernel
theorem dX7_init_178 : decode cX7_init 178 = .ok (.iload_n 1, 1) := by decide +kernel
theorem dX7_init_179 : decode cX7_init 179 = .ok (.iconst (-1), 1) := by decide +kernel
theorem dX7_init_180 : decode cX7_init 180 = .ok (.iastore, 1) := by decide +kernel
theorem dX7_init_181 : decode cX7_init 181 = .ok (.iinc 1 1, 3) := by decide +kernel
theorem dX7_init_184 : decode cX7_init 184 = .ok (.goto (-16), 3) := by decide +kernel
theorem dX7_init_187 : decode cX7_init 187 = .ok (.aload_n 0, 1) := by decide +kernel
theorem dX7_init_188 : decode cX7_init 188 = .ok (.iconst 5, 1) := by decide +kernel
theorem dX7_init_189 : decode cX7_init 189 = .ok (.putfield 71, 3) := by decide +kernel
theorem dX7_init_192 : decode cX7_init 192 = .ok (.aload_n 0, 1) := by decide +kernel
theorem dX7_init_193 : decode cX7_init 193 = .ok (.iconst 1, 1) := by decide +kernel
theorem dX7_init_194 : decode cX7_init 194 = .ok (.putfield 75, 3) := by decide +kernel
theorem dX7_init_197 : decode cX7_init 197 = .ok (.aload_n 0, 1) := by decide +kernel
theorem dX7_init_198 : decode cX7_init 198 = .ok (.iconst (-1), 1) := by decide +kernel
theorem dX7_init_199 : decode cX7_init 199 = .ok (.putfield 78, 3) := by decide +kernel
theorem dX7_init_202 : decode cX7_init 202 = .ok (.return_, 1) := by decide +kernel
theorem dX7_no_0 : decode cX7_no 0 = .ok (.aload_n 0, 1) := by decide +kernel
theorem dX7_no_1 : decode cX7_no 1 = .ok (.getfield 44, 3) := by decide +kernel
theorem dX7_no_4 : decode cX7_no 4 = .ok (.iload_n 1, 1) := by decide +kernel
theorem dX7_no_5 : decode cX7_no 5 = .ok (.ineg, 1) := by decide +kernel
theorem dX7_no_6 : decode cX7_no 6 = .ok (.dup2, 1) := by decide +kernel
theorem dX7_no_7 : decode cX7_no 7 = .ok (.iaload, 1) := by decide +kernel
theorem dX7_no_8 : decode cX7_no 8 = .ok (.iconst 1, 1) := by decide +kernel
theorem dX7_no_9 : decode cX7_no 9 = .ok (.iadd, 1) := by decide +kernel
theorem dX7_no_10 : decode cX7_no 10 = .ok (.iastore, 1) := by decide +kernel
theorem dX7_no_11 : decode cX7_no 11 = .ok (.iload_n 1, 1) := by decide +kernel
theorem dX7_no_12 : decode cX7_no 12 = .ok (.ireturn, 1) := by decide +kernel
theorem dX7_no10_0 : decode cX7_no10 0 = .ok (.aload_n 0, 1) := by decide +kernel
theorem dX7_no10_1 : decode cX7_no10 1 = .ok (.iload_n 1, 1) := by decide +kernel
theorem dX7_no10_2 : decode cX7_no10 2 = .ok (.invokevirtual 81, 3) := by decide +kernel
theorem dX7_no10_5 : decode cX7_no10 5 = .ok (.bipush 10, 2) := by decide +kernel
theorem dX7_no10_7 : decode cX7_no10 7 = .ok (.isub, 1) := by decide +kernel
theorem dX7_no10_8 : decode cX7_no10 8 = .ok (.ireturn, 1) := by decide +kernel
theorem dX7_noMuch_0 : decode cX7_noMuch 0 = .ok (.aload_n 0, 1) := by decide +kernel
theorem dX7_noMuch_1 : decode cX7_noMuch 1 = .ok (.iload_n 1, 1) := by decide +kernel
theorem dX7_noMuch_2 : decode cX7_noMuch 2 = .ok (.invokevirtual 81, 3) := by decide +kernel
theorem dX7_noMuch_5 : decode cX7_noMuch 5 = .ok (.sipush 10000, 3) := by decide +kernel
theorem dX7_noMuch_8 : decode cX7_noMuch 8 = .ok (.isub, 1) := by decide +kernel
theorem dX7_noMuch_9 : decode cX7_noMuch 9 = .ok (.ireturn, 1) := by decide +kernel
theorem dX7_within_0 : decode cX7_within 0 = .ok (.iload_n 0, 1) := by decide +kernel
theorem dX7_within_1 : decode cX7_within 1 = .ok (.iload_n 1, 1) := by decide +kernel
theorem dX7_within_2 : decode cX7_within 2 = .ok (.if_icmp .lt 12, 3) := by decide +kernel
theorem dX7_within_5 : decode cX7_within 5 = .ok (.iload_n 0, 1) := by decide +kernel
theorem dX7_within_6 : decode cX7_within 6 = .ok (.iload_n 2, 1) := by decide +kernel
theorem dX7_within_7 : decode cX7_within 7 = .ok (.if_icmp .gt 7, 3) := by decide +kernel
theorem dX7_within_10 : decode cX7_within 10 = .ok (.iconst 1, 1) := by decide +kernel
theorem dX7_within_11 : decode cX7_within 11 = .ok (.goto 4, 3) := by decide +kernel
theorem dX7_within_14 : decode cX7_within 14 = .ok (.iconst 0, 1) := by decide +kernel
theorem dX7_within_15 : decode cX7_within 15 = .ok (.ireturn, 1) := by decide +kernel
theorem dX7_has_0 : decode cX7_has 0 = .ok (.iload_n 0, 1) := by decide +kernel
theorem dX7_has_1 : decode cX7_has 1 = .ok (.iload_n 1, 1) := by decide +kernel
theorem dX7_has_2 : decode cX7_has 2 = .ok (.ishr, 1) := by decide +kernel
theorem dX7_has_3 : decode cX7_has 3 = .ok (.iconst 1, 1) := by decide +kernel
theorem dX7_has_4 : decode cX7_has 4 = .ok (.iand, 1) := by decide +kernel
theorem dX7_has_5 : decode cX7_has 5 = .ok (.iconst 1, 1) := by decide +kernel
theorem dX7_has_6 : decode cX7_has 6 = .ok (.if_icmp .ne 7, 3) := by decide +kernel
theorem dX7_has_9 : decode cX7_has 9 = .ok (.iconst 1, 1) := by decide +kernel
theorem dX7_has_10 : decode cX7_has 10 = .ok (.goto 4, 3) := by decide +kernel
theorem dX7_has_13 : decode cX7_has 13 = .ok (.iconst 0, 1) := by decide +kernel
theorem dX7_has_14 : decode cX7_has 14 = .ok (.ireturn, 1) := by decide +kernel
theorem dX7_isQuestion_0 : decode cX7_isQuestion 0 = .ok (.iload_n 1, 1) := by decide +kernel
theorem dX7_isQuestion_1 : decode cX7_isQuestion 1 = .ok (.iconst 0, 1) := by decide +kernel
theorem dX7_isQuestion_2 : decode cX7_isQuestion 2 = .ok (.aload_n 0, 1) := by decide +kernel
theorem dX7_isQuestion_3 : decode cX7_isQuestion 3 = .ok (.getfield 85, 3) := by decide +kernel
theorem dX7_isQuestion_6 : decode cX7_isQuestion 6 = .ok (.iconst 1, 1) := by decide +kernel
theorem dX7_isQuestion_7 : decode cX7_isQuestion 7 = .ok (.isub, 1) := by decide +kernel
theorem dX7_isQuestion_8 : decode cX7_isQuestion 8 = .ok (.invokestatic 88, 3) := by decide +kernel
theorem dX7_isQuestion_11 : decode cX7_isQuestion 11 = .ok (.ireturn, 1) := by decide +kernel
theorem dX7_isGroup_0 : decode cX7_isGroup 0 = .ok (.iload_n 1, 1) := by decide +kernel
theorem dX7_isGroup_1 : decode cX7_isGroup 1 = .ok (.iconst 0, 1) := by decide +kernel
theorem dX7_isGroup_2 : decode cX7_isGroup 2 = .ok (.aload_n 0, 1) := by decide +kernel
theorem dX7_isGroup_3 : decode cX7_isGroup 3 = .ok (.getfield 92, 3) := by decide +kernel
theorem dX7_isGroup_6 : decode cX7_isGroup 6 = .ok (.iconst 1, 1) := by decide +kernel
theorem dX7_isGroup_7 : decode cX7_isGroup 7 = .ok (.isub, 1) := by decide +kernel
theorem dX7_isGroup_8 : decode cX7_isGroup 8 = .ok (.invokestatic 88, 3) := by decide +kernel
theorem dX7_isGroup_11 : decode cX7_isGroup 11 = .ok (.ireturn, 1) := by decide +kernel
theorem dX7_isRow_0 : decode cX7_isRow 0 = .ok (.aload_n 0, 1) := by decide +kernel
theorem dX7_isRow_1 : decode cX7_isRow 1 = .ok (.getfield 7, 3) := by decide +kernel
theorem dX7_isRow_4 : decode cX7_isRow 4 = .ok (.iload_n 1, 1) := by decide +kernel
theorem dX7_isRow_5 : decode cX7_isRow 5 = .ok (.iaload, 1) := by decide +kernel
theorem dX7_isRow_6 : decode cX7_isRow 6 = .ok (.bipush 100, 2) := by decide +kernel
theorem dX7_isRow_8 : decode cX7_isRow 8 = .ok (.if_icmp .lt 7, 3) := by decide +kernel
theorem dX7_isRow_11 : decode cX7_isRow 11 = .ok (.iconst 1, 1) := by decide +kernel
theorem dX7_isRow_12 : decode cX7_isRow 12 = .ok (.goto 4, 3) := by decide +kernel
theorem dX7_isRow_15 : decode cX7_isRow 15 = .ok (.iconst 0, 1) := by decide +kernel
theorem dX7_isRow_16 : decode cX7_isRow 16 = .ok (.ireturn, 1) := by decide +kernel
theorem dX7_row_0 : decode cX7_row 0 = .ok (.iload_n 1, 1) := by decide +kernel
theorem dX7_row_1 : decode cX7_row 1 = .ok (.iconst 0, 1) := by decide +kernel
theorem dX7_row_2 : decode cX7_row 2 = .ok (.bipush 7, 2) := by decide +kernel
theorem dX7_row_4 : decode cX7_row 4 = .ok (.invokestatic 88, 3) := by decide +kernel
theorem dX7_row_7 : decode cX7_row 7 = .ok (.ifCond .ne 9, 3) := by decide +kernel
theorem dX7_row_10 : decode cX7_row 10 = .ok (.aload_n 0, 1) := by decide +kernel
theorem dX7_row_11 : decode cX7_row 11 = .ok (.iconst (-1), 1) := by decide +kernel
theorem dX7_row_12 : decode cX7_row 12 = .ok (.invokevirtual 81, 3) := by decide +kernel
theorem dX7_row_15 : decode cX7_row 15 = .ok (.ireturn, 1) := by decide +kernel
theorem dX7_row_16 : decode cX7_row 16 = .ok (.iload_n 3, 1) := by decide +kernel
theorem dX7_row_17 : decode cX7_row 17 = .ok (.ifCond .ge 10, 3) := by decide +kernel
theorem dX7_row_20 : decode cX7_row 20 = .ok (.aload_n 0, 1) := by decide +kernel
theorem dX7_row_21 : decode cX7_row 21 = .ok (.bipush (-4), 2) := by decide +kernel
theorem dX7_row_23 : decode cX7_row 23 = .ok (.invokevirtual 81, 3) := by decide +kernel
theorem dX7_row_26 : decode cX7_row 26 = .ok (.ireturn, 1) := by decide +kernel
theorem dX7_row_27 : decode cX7_row 27 = .ok (.iload_n 2, 1) := by decide +kernel
theorem dX7_row_28 : decode cX7_row 28 = .ok (.iconst 0, 1) := by decide +kernel
theorem dX7_row_29 : decode cX7_row 29 = .ok (.iconst 3, 1) := by decide +kernel
theorem dX7_row_30 : decode cX7_row 30 = .ok (.invokestatic 88, 3) := by decide +kernel
theorem dX7_row_33 : decode cX7_row 33 = .ok (.ifCond .ne 10, 3) := by decide +kernel
theorem dX7_row_36 : decode cX7_row 36 = .ok (.aload_n 0, 1) := by decide +kernel
theorem dX7_row_37 : decode cX7_row 37 = .ok (.bipush (-6), 2) := by decide +kernel
theorem dX7_row_39 : decode cX7_row 39 = .ok (.invokevirtual 81, 3) := by decide +kernel
theorem dX7_row_42 : decode cX7_row 42 = .ok (.ireturn, 1) := by decide +kernel
theorem dX7_row_43 : decode cX7_row 43 = .ok (.iload_n 3, 1) := by decide +kernel
theorem dX7_row_44 : decode cX7_row 44 = .ok (.sipush 160, 3) := by decide +kernel
theorem dX7_row_47 : decode cX7_row 47 = .ok (.if_icmp .le 10, 3) := by decide +kernel
theorem dX7_row_50 : decode cX7_row 50 = .ok (.aload_n 0, 1) := by decide +kernel
theorem dX7_row_51 : decode cX7_row 51 = .ok (.bipush (-7), 2) := by decide +kernel
theorem dX7_row_53 : decode cX7_row 53 = .ok (.invokevirtual 81, 3) := by decide +kernel
theorem dX7_row_56 : decode cX7_row 56 = .ok (.ireturn, 1) := by decide +kernel
theorem dX7_row_57 : decode cX7_row 57 = .ok (.aload_n 0, 1) := by decide +kernel
theorem dX7_row_58 : decode cX7_row 58 = .ok (.getfield 7, 3) := by decide +kernel
theorem dX7_row_61 : decode cX7_row 61 = .ok (.iload_n 1, 1) := by decide +kernel
theorem dX7_row_62 : decode cX7_row 62 = .ok (.bipush 100, 2) := by decide +kernel
theorem dX7_row_64 : decode cX7_row 64 = .ok (.iload_n 2, 1) := by decide +kernel
theorem dX7_row_65 : decode cX7_row 65 = .ok (.iadd, 1) := by decide +kernel
theorem dX7_row_66 : decode cX7_row 66 = .ok (.iastore, 1) := by decide +kernel
theorem dX7_row_67 : decode cX7_row 67 = .ok (.aload_n 0, 1) := by decide +kernel
theorem dX7_row_68 : decode cX7_row 68 = .ok (.getfield 13, 3) := by decide +kernel
theorem dX7_row_71 : decode cX7_row 71 = .ok (.iload_n 1, 1) := by decide +kernel
theorem dX7_row_72 : decode cX7_row 72 = .ok (.iload_n 3, 1) := by decide +kernel
theorem dX7_row_73 : decode cX7_row 73 = .ok (.iastore, 1) := by decide +kernel
theorem dX7_row_74 : decode cX7_row 74 = .ok (.iconst 0, 1) := by decide +kernel
theorem dX7_row_75 : decode cX7_row 75 = .ok (.istore 4, 2) := by decide +kernel
theorem dX7_row_77 : decode cX7_row 77 = .ok (.iload 4, 2) := by decide +kernel
theorem dX7_row_79 : decode cX7_row 79 = .ok (.sipush 160, 3) := by decide +kernel
theorem dX7_row_82 : decode cX7_row 82 = .ok (.if_icmp .ge 23, 3) := by decide +kernel
theorem dX7_row_85 : decode cX7_row 85 = .ok (.aload_n 0, 1) := by decide +kernel
theorem dX7_row_86 : decode cX7_row 86 = .ok (.getfield 16, 3) := by decide +kernel
theorem dX7_row_89 : decode cX7_row 89 = .ok (.sipush 160, 3) := by decide +kernel
theorem dX7_row_92 : decode cX7_row 92 = .ok (.iload_n 1, 1) := by decide +kernel
theorem dX7_row_93 : decode cX7_row 93 = .ok (.imul, 1) := by decide +kernel
theorem dX7_row_94 : decode cX7_row 94 = .ok (.iload 4, 2) := by decide +kernel
theorem dX7_row_96 : decode cX7_row 96 = .ok (.iadd, 1) := by decide +kernel
theorem dX7_row_97 : decode cX7_row 97 = .ok (.lconst 0, 1) := by decide +kernel
theorem dX7_row_98 : decode cX7_row 98 = .ok (.lastore, 1) := by decide +kernel
theorem dX7_row_99 : decode cX7_row 99 = .ok (.iinc 4 1, 3) := by decide +kernel
theorem dX7_row_102 : decode cX7_row 102 = .ok (.goto (-25), 3) := by decide +kernel
theorem dX7_row_105 : decode cX7_row 105 = .ok (.iconst 1, 1) := by decide +kernel
theorem dX7_row_106 : decode cX7_row 106 = .ok (.ireturn, 1) := by decide +kernel
theorem dX7_noRow_0 : decode cX7_noRow 0 = .ok (.iload_n 1, 1) := by decide +kernel
theorem dX7_noRow_1 : decode cX7_noRow 1 = .ok (.iconst 0, 1) := by decide +kernel
theorem dX7_noRow_2 : decode cX7_noRow 2 = .ok (.bipush 7, 2) := by decide +kernel
theorem dX7_noRow_4 : decode cX7_noRow 4 = .ok (.invokestatic 88, 3) := by decide +kernel
theorem dX7_noRow_7 : decode cX7_noRow 7 = .ok (.ifCond .ne 5, 3) := by decide +kernel
theorem dX7_noRow_10 : decode cX7_noRow 10 = .ok (.iconst (-1), 1) := by decide +kernel
theorem dX7_noRow_11 : decode cX7_noRow 11 = .ok (.ireturn, 1) := by decide +kernel
theorem dX7_noRow_12 : decode cX7_noRow 12 = .ok (.aload_n 0, 1) := by decide +kernel
theorem dX7_noRow_13 : decode cX7_noRow 13 = .ok (.getfield 7, 3) := by decide +kernel
theorem dX7_noRow_16 : decode cX7_noRow 16 = .ok (.iload_n 1, 1) := by decide +kernel
theorem dX7_noRow_17 : decode cX7_noRow 17 = .ok (.iaload, 1) := by decide +kernel
theorem dX7_noRow_18 : decode cX7_noRow 18 = .ok (.ifCond .lt 14, 3) := by decide +kernel
theorem dX7_noRow_21 : decode cX7_noRow 21 = .ok (.aload_n 0, 1) := by decide +kernel
theorem dX7_noRow_22 : decode cX7_noRow 22 = .ok (.iload_n 1, 1) := by decide +kernel
theorem dX7_noRow_23 : decode cX7_noRow 23 = .ok (.invokevirtual 95, 3) := by decide +kernel
theorem dX7_noRow_26 : decode cX7_noRow 26 = .ok (.ifCond .ne 6, 3) := by decide +kernel
theorem dX7_noRow_29 : decode cX7_noRow 29 = .ok (.bipush (-2), 2) := by decide +kernel
theorem dX7_noRow_31 : decode cX7_noRow 31 = .ok (.ireturn, 1) := by decide +kernel
theorem dX7_noRow_32 : decode cX7_noRow 32 = .ok (.aload_n 0, 1) := by decide +kernel
theorem dX7_noRow_33 : decode cX7_noRow 33 = .ok (.getfield 7, 3) := by decide +kernel
theorem dX7_noRow_36 : decode cX7_noRow 36 = .ok (.iload_n 1, 1) := by decide +kernel
theorem dX7_noRow_37 : decode cX7_noRow 37 = .ok (.iaload, 1) := by decide +kernel
theorem dX7_noRow_38 : decode cX7_noRow 38 = .ok (.ifCond .ge 8, 3) := by decide +kernel
theorem dX7_noRow_41 : decode cX7_noRow 41 = .ok (.bipush (-3), 2) := by decide +kernel
theorem dX7_noRow_43 : decode cX7_noRow 43 = .ok (.goto 4, 3) := by decide +kernel
theorem dX7_noRow_46 : decode cX7_noRow 46 = .ok (.iconst 0, 1) := by decide +kernel
theorem dX7_noRow_47 : decode cX7_noRow 47 = .ok (.ireturn, 1) := by decide +kernel
theorem dX7_set_0 : decode cX7_set 0 = .ok (.aload_n 0, 1) := by decide +kernel
theorem dX7_set_1 : decode cX7_set 1 = .ok (.iload_n 1, 1) := by decide +kernel
theorem dX7_set_2 : decode cX7_set 2 = .ok (.invokevirtual 99, 3) := by decide +kernel
theorem dX7_set_5 : decode cX7_set 5 = .ok (.istore 5, 2) := by decide +kernel
theorem dX7_set_7 : decode cX7_set 7 = .ok (.iload 5, 2) := by decide +kernel
theorem dX7_set_9 : decode cX7_set 9 = .ok (.ifCond .ge 10, 3) := by decide +kernel
theorem dX7_set_12 : decode cX7_set 12 = .ok (.aload_n 0, 1) := by decide +kernel
theorem dX7_set_13 : decode cX7_set 13 = .ok (.iload 5, 2) := by decide +kernel
theorem dX7_set_15 : decode cX7_set 15 = .ok (.invokevirtual 81, 3) := by decide +kernel
theorem dX7_set_18 : decode cX7_set 18 = .ok (.ireturn, 1) := by decide +kernel
theorem dX7_set_19 : decode cX7_set 19 = .ok (.iload_n 2, 1) := by decide +kernel
theorem dX7_set_20 : decode cX7_set 20 = .ok (.iconst 0, 1) := by decide +kernel
theorem dX7_set_21 : decode cX7_set 21 = .ok (.aload_n 0, 1) := by decide +kernel
theorem dX7_set_22 : decode cX7_set 22 = .ok (.getfield 13, 3) := by decide +kernel
theorem dX7_set_25 : decode cX7_set 25 = .ok (.iload_n 1, 1) := by decide +kernel
theorem dX7_set_26 : decode cX7_set 26 = .ok (.iaload, 1) := by decide +kernel
theorem dX7_set_27 : decode cX7_set 27 = .ok (.iconst 1, 1) := by decide +kernel
theorem dX7_set_28 : decode cX7_set 28 = .ok (.isub, 1) := by decide +kernel
theorem dX7_set_29 : decode cX7_set 29 = .ok (.invokestatic 88, 3) := by decide +kernel
theorem dX7_set_32 : decode cX7_set 32 = .ok (.ifCond .ne 10, 3) := by decide +kernel
theorem dX7_set_35 : decode cX7_set 35 = .ok (.aload_n 0, 1) := by decide +kernel
theorem dX7_set_36 : decode cX7_set 36 = .ok (.bipush (-5), 2) := by decide +kernel
theorem dX7_set_38 : decode cX7_set 38 = .ok (.invokevirtual 81, 3) := by decide +kernel
theorem dX7_set_41 : decode cX7_set 41 = .ok (.ireturn, 1) := by decide +kernel
theorem dX7_set_42 : decode cX7_set 42 = .ok (.aload_n 0, 1) := by decide +kernel
theorem dX7_set_43 : decode cX7_set 43 = .ok (.getfield 7, 3) := by decide +kernel
theorem dX7_set_46 : decode cX7_set 46 = .ok (.iload_n 1, 1) := by decide +kernel
theorem dX7_set_47 : decode cX7_set 47 = .ok (.iaload, 1) := by decide +kernel
theorem dX7_set_48 : decode cX7_set 48 = .ok (.bipush 100, 2) := by decide +kernel
theorem dX7_set_50 : decode cX7_set 50 = .ok (.isub, 1) := by decide +kernel
theorem dX7_set_51 : decode cX7_set 51 = .ok (.istore 6, 2) := by decide +kernel
theorem dX7_set_53 : decode cX7_set 53 = .ok (.aload_n 0, 1) := by decide +kernel
theorem dX7_set_54 : decode cX7_set 54 = .ok (.getfield 16, 3) := by decide +kernel
theorem dX7_set_57 : decode cX7_set 57 = .ok (.sipush 160, 3) := by decide +kernel
theorem dX7_set_60 : decode cX7_set 60 = .ok (.iload_n 1, 1) := by decide +kernel
theorem dX7_set_61 : decode cX7_set 61 = .ok (.imul, 1) := by decide +kernel
theorem dX7_set_62 : decode cX7_set 62 = .ok (.iload_n 2, 1) := by decide +kernel
theorem dX7_set_63 : decode cX7_set 63 = .ok (.iadd, 1) := by decide +kernel
theorem dX7_set_64 : decode cX7_set 64 = .ok (.iload 6, 2) := by decide +kernel
theorem dX7_set_66 : decode cX7_set 66 = .ok (.ifCond .ne 10, 3) := by decide +kernel
theorem dX7_set_69 : decode cX7_set 69 = .ok (.lload_n 3, 1) := by decide +kernel
theorem dX7_set_70 : decode cX7_set 70 = .ok (.l2i, 1) := by decide +kernel
theorem dX7_set_71 : decode cX7_set 71 = .ok (.i2b, 1) := by decide +kernel
theorem dX7_set_72 : decode cX7_set 72 = .ok (.i2l, 1) := by decide +kernel
theorem dX7_set_73 : decode cX7_set 73 = .ok (.goto 29, 3) := by decide +kernel
theorem dX7_set_76 : decode cX7_set 76 = .ok (.iload 6, 2) := by decide +kernel
theorem dX7_set_78 : decode cX7_set 78 = .ok (.iconst 1, 1) := by decide +kernel
theorem dX7_set_79 : decode cX7_set 79 = .ok (.if_icmp .ne 10, 3) := by decide +kernel
theorem dX7_set_82 : decode cX7_set 82 = .ok (.lload_n 3, 1) := by decide +kernel
theorem dX7_set_83 : decode cX7_set 83 = .ok (.l2i, 1) := by decide +kernel
theorem dX7_set_84 : decode cX7_set 84 = .ok (.i2s, 1) := by decide +kernel
theorem dX7_set_85 : decode cX7_set 85 = .ok (.i2l, 1) := by decide +kernel
theorem dX7_set_86 : decode cX7_set 86 = .ok (.goto 16, 3) := by decide +kernel
theorem dX7_set_89 : decode cX7_set 89 = .ok (.iload 6, 2) := by decide +kernel
theorem dX7_set_91 : decode cX7_set 91 = .ok (.iconst 2, 1) := by decide +kernel
theorem dX7_set_92 : decode cX7_set 92 = .ok (.if_icmp .ne 9, 3) := by decide +kernel
theorem dX7_set_95 : decode cX7_set 95 = .ok (.lload_n 3, 1) := by decide +kernel
theorem dX7_set_96 : decode cX7_set 96 = .ok (.l2i, 1) := by decide +kernel
theorem dX7_set_97 : decode cX7_set 97 = .ok (.i2l, 1) := by decide +kernel
theorem dX7_set_98 : decode cX7_set 98 = .ok (.goto 4, 3) := by decide +kernel
theorem dX7_set_101 : decode cX7_set 101 = .ok (.lload_n 3, 1) := by decide +kernel
theorem dX7_set_102 : decode cX7_set 102 = .ok (.lastore, 1) := by decide +kernel
theorem dX7_set_103 : decode cX7_set 103 = .ok (.iconst 1, 1) := by decide +kernel
theorem dX7_set_104 : decode cX7_set 104 = .ok (.ireturn, 1) := by decide +kernel
theorem dX7_copy_0 : decode cX7_copy 0 = .ok (.iload_n 1, 1) := by decide +kernel
theorem dX7_copy_1 : decode cX7_copy 1 = .ok (.iconst 0, 1) := by decide +kernel
theorem dX7_copy_2 : decode cX7_copy 2 = .ok (.bipush 7, 2) := by decide +kernel
theorem dX7_copy_4 : decode cX7_copy 4 = .ok (.invokestatic 88, 3) := by decide +kernel
theorem dX7_copy_7 : decode cX7_copy 7 = .ok (.ifCond .eq 13, 3) := by decide +kernel
theorem dX7_copy_10 : decode cX7_copy 10 = .ok (.iload_n 2, 1) := by decide +kernel
theorem dX7_copy_11 : decode cX7_copy 11 = .ok (.iconst 0, 1) := by decide +kernel
theorem dX7_copy_12 : decode cX7_copy 12 = .ok (.bipush 7, 2) := by decide +kernel
theorem dX7_copy_14 : decode cX7_copy 14 = .ok (.invokestatic 88, 3) := by decide +kernel
theorem dX7_copy_17 : decode cX7_copy 17 = .ok (.ifCond .ne 9, 3) := by decide +kernel
theorem dX7_copy_20 : decode cX7_copy 20 = .ok (.aload_n 0, 1) := by decide +kernel
theorem dX7_copy_21 : decode cX7_copy 21 = .ok (.iconst (-1), 1) := by decide +kernel
theorem dX7_copy_22 : decode cX7_copy 22 = .ok (.invokevirtual 81, 3) := by decide +kernel
theorem dX7_copy_25 : decode cX7_copy 25 = .ok (.ireturn, 1) := by decide +kernel
theorem dX7_copy_26 : decode cX7_copy 26 = .ok (.aload_n 0, 1) := by decide +kernel
theorem dX7_copy_27 : decode cX7_copy 27 = .ok (.getfield 7, 3) := by decide +kernel
theorem dX7_copy_30 : decode cX7_copy 30 = .ok (.iload_n 1, 1) := by decide +kernel
theorem dX7_copy_31 : decode cX7_copy 31 = .ok (.iaload, 1) := by decide +kernel
theorem dX7_copy_32 : decode cX7_copy 32 = .ok (.ifCond .lt 11, 3) := by decide +kernel
theorem dX7_copy_35 : decode cX7_copy 35 = .ok (.aload_n 0, 1) := by decide +kernel
theorem dX7_copy_36 : decode cX7_copy 36 = .ok (.iload_n 1, 1) := by decide +kernel
theorem dX7_copy_37 : decode cX7_copy 37 = .ok (.invokevirtual 95, 3) := by decide +kernel
theorem dX7_copy_40 : decode cX7_copy 40 = .ok (.ifCond .eq 51, 3) := by decide +kernel
theorem dX7_copy_43 : decode cX7_copy 43 = .ok (.aload_n 0, 1) := by decide +kernel
theorem dX7_copy_44 : decode cX7_copy 44 = .ok (.getfield 7, 3) := by decide +kernel
theorem dX7_copy_47 : decode cX7_copy 47 = .ok (.iload_n 2, 1) := by decide +kernel
theorem dX7_copy_48 : decode cX7_copy 48 = .ok (.iaload, 1) := by decide +kernel
theorem dX7_copy_49 : decode cX7_copy 49 = .ok (.ifCond .lt 11, 3) := by decide +kernel
theorem dX7_copy_52 : decode cX7_copy 52 = .ok (.aload_n 0, 1) := by decide +kernel
theorem dX7_copy_53 : decode cX7_copy 53 = .ok (.iload_n 2, 1) := by decide +kernel
theorem dX7_copy_54 : decode cX7_copy 54 = .ok (.invokevirtual 95, 3) := by decide +kernel
theorem dX7_copy_57 : decode cX7_copy 57 = .ok (.ifCond .eq 34, 3) := by decide +kernel
theorem dX7_copy_60 : decode cX7_copy 60 = .ok (.aload_n 0, 1) := by decide +kernel
theorem dX7_copy_61 : decode cX7_copy 61 = .ok (.iload_n 1, 1) := by decide +kernel
theorem dX7_copy_62 : decode cX7_copy 62 = .ok (.invokevirtual 95, 3) := by decide +kernel
theorem dX7_copy_65 : decode cX7_copy 65 = .ok (.ifCond .eq 33, 3) := by decide +kernel
theorem dX7_copy_68 : decode cX7_copy 68 = .ok (.aload_n 0, 1) := by decide +kernel
theorem dX7_copy_69 : decode cX7_copy 69 = .ok (.iload_n 2, 1) := by decide +kernel
theorem dX7_copy_70 : decode cX7_copy 70 = .ok (.invokevirtual 95, 3) := by decide +kernel
theorem dX7_copy_73 : decode cX7_copy 73 = .ok (.ifCond .eq 25, 3) := by decide +kernel
theorem dX7_copy_76 : decode cX7_copy 76 = .ok (.aload_n 0, 1) := by decide +kernel
theorem dX7_copy_77 : decode cX7_copy 77 = .ok (.getfield 7, 3) := by decide +kernel
theorem dX7_copy_80 : decode cX7_copy 80 = .ok (.iload_n 1, 1) := by decide +kernel
theorem dX7_copy_81 : decode cX7_copy 81 = .ok (.iaload, 1) := by decide +kernel
theorem dX7_copy_82 : decode cX7_copy 82 = .ok (.aload_n 0, 1) := by decide +kernel
theorem dX7_copy_83 : decode cX7_copy 83 = .ok (.getfield 7, 3) := by decide +kernel
theorem dX7_copy_86 : decode cX7_copy 86 = .ok (.iload_n 2, 1) := by decide +kernel
theorem dX7_copy_87 : decode cX7_copy 87 = .ok (.iaload, 1) := by decide +kernel
theorem dX7_copy_88 : decode cX7_copy 88 = .ok (.if_icmp .eq 10, 3) := by decide +kernel
theorem dX7_copy_91 : decode cX7_copy 91 = .ok (.aload_n 0, 1) := by decide +kernel
theorem dX7_copy_92 : decode cX7_copy 92 = .ok (.bipush (-2), 2) := by decide +kernel
theorem dX7_copy_94 : decode cX7_copy 94 = .ok (.invokevirtual 81, 3) := by decide +kernel
theorem dX7_copy_97 : decode cX7_copy 97 = .ok (.ireturn, 1) := by decide +kernel
theorem dX7_copy_98 : decode cX7_copy 98 = .ok (.aload_n 0, 1) := by decide +kernel
theorem dX7_copy_99 : decode cX7_copy 99 = .ok (.getfield 7, 3) := by decide +kernel
theorem dX7_copy_102 : decode cX7_copy 102 = .ok (.iload_n 1, 1) := by decide +kernel
theorem dX7_copy_103 : decode cX7_copy 103 = .ok (.iaload, 1) := by decide +kernel
theorem dX7_copy_104 : decode cX7_copy 104 = .ok (.ifCond .lt 12, 3) := by decide +kernel
theorem dX7_copy_107 : decode cX7_copy 107 = .ok (.aload_n 0, 1) := by decide +kernel
theorem dX7_copy_108 : decode cX7_copy 108 = .ok (.getfield 7, 3) := by decide +kernel
theorem dX7_copy_111 : decode cX7_copy 111 = .ok (.iload_n 2, 1) := by decide +kernel
theorem dX7_copy_112 : decode cX7_copy 112 = .ok (.iaload, 1) := by decide +kernel
theorem dX7_copy_113 : decode cX7_copy 113 = .ok (.ifCond .ge 10, 3) := by decide +kernel
theorem dX7_copy_116 : decode cX7_copy 116 = .ok (.aload_n 0, 1) := by decide +kernel
theorem dX7_copy_117 : decode cX7_copy 117 = .ok (.bipush (-3), 2) := by decide +kernel
theorem dX7_copy_119 : decode cX7_copy 119 = .ok (.invokevirtual 81, 3) := by decide +kernel
theorem dX7_copy_122 : decode cX7_copy 122 = .ok (.ireturn, 1) := by decide +kernel
theorem dX7_copy_123 : decode cX7_copy 123 = .ok (.iload 5, 2) := by decide +kernel
theorem dX7_copy_125 : decode cX7_copy 125 = .ok (.ifCond .ge 10, 3) := by decide +kernel
theorem dX7_copy_128 : decode cX7_copy 128 = .ok (.aload_n 0, 1) := by decide +kernel
theorem dX7_copy_129 : decode cX7_copy 129 = .ok (.bipush (-4), 2) := by decide +kernel
theorem dX7_copy_131 : decode cX7_copy 131 = .ok (.invokevirtual 81, 3) := by decide +kernel
theorem dX7_copy_134 : decode cX7_copy 134 = .ok (.ireturn, 1) := by decide +kernel
theorem dX7_copy_135 : decode cX7_copy 135 = .ok (.iload_n 3, 1) := by decide +kernel
theorem dX7_copy_136 : decode cX7_copy 136 = .ok (.ifCond .lt 43, 3) := by decide +kernel
theorem dX7_copy_139 : decode cX7_copy 139 = .ok (.iload 4, 2) := by decide +kernel
theorem dX7_copy_141 : decode cX7_copy 141 = .ok (.ifCond .lt 38, 3) := by decide +kernel
theorem dX7_copy_144 : decode cX7_copy 144 = .ok (.iload_n 3, 1) := by decide +kernel
theorem dX7_copy_145 : decode cX7_copy 145 = .ok (.i2l, 1) := by decide +kernel
theorem dX7_copy_146 : decode cX7_copy 146 = .ok (.iload 5, 2) := by decide +kernel
theorem dX7_copy_148 : decode cX7_copy 148 = .ok (.i2l, 1) := by decide +kernel
theorem dX7_copy_149 : decode cX7_copy 149 = .ok (.ladd, 1) := by decide +kernel
theorem dX7_copy_150 : decode cX7_copy 150 = .ok (.aload_n 0, 1) := by decide +kernel
theorem dX7_copy_151 : decode cX7_copy 151 = .ok (.getfield 13, 3) := by decide +kernel
theorem dX7_copy_154 : decode cX7_copy 154 = .ok (.iload_n 1, 1) := by decide +kernel
theorem dX7_copy_155 : decode cX7_copy 155 = .ok (.iaload, 1) := by decide +kernel
theorem dX7_copy_156 : decode cX7_copy 156 = .ok (.i2l, 1) := by decide +kernel
theorem dX7_copy_157 : decode cX7_copy 157 = .ok (.lcmp, 1) := by decide +kernel
theorem dX7_copy_158 : decode cX7_copy 158 = .ok (.ifCond .gt 21, 3) := by decide +kernel
theorem dX7_copy_161 : decode cX7_copy 161 = .ok (.iload 4, 2) := by decide +kernel
theorem dX7_copy_163 : decode cX7_copy 163 = .ok (.i2l, 1) := by decide +kernel
theorem dX7_copy_164 : decode cX7_copy 164 = .ok (.iload 5, 2) := by decide +kernel
theorem dX7_copy_166 : decode cX7_copy 166 = .ok (.i2l, 1) := by decide +kernel
theorem dX7_copy_167 : decode cX7_copy 167 = .ok (.ladd, 1) := by decide +kernel
theorem dX7_copy_168 : decode cX7_copy 168 = .ok (.aload_n 0, 1) := by decide +kernel
theorem dX7_copy_169 : decode cX7_copy 169 = .ok (.getfield 13, 3) := by decide +kernel
theorem dX7_copy_172 : decode cX7_copy 172 = .ok (.iload_n 2, 1) := by decide +kernel
theorem dX7_copy_173 : decode cX7_copy 173 = .ok (.iaload, 1) := by decide +kernel
theorem dX7_copy_174 : decode cX7_copy 174 = .ok (.i2l, 1) := by decide +kernel
theorem dX7_copy_175 : decode cX7_copy 175 = .ok (.lcmp, 1) := by decide +kernel
theorem dX7_copy_176 : decode cX7_copy 176 = .ok (.ifCond .le 10, 3) := by decide +kernel
theorem dX7_copy_179 : decode cX7_copy 179 = .ok (.aload_n 0, 1) := by decide +kernel
theorem dX7_copy_180 : decode cX7_copy 180 = .ok (.bipush (-5), 2) := by decide +kernel
theorem dX7_copy_182 : decode cX7_copy 182 = .ok (.invokevirtual 81, 3) := by decide +kernel
theorem dX7_copy_185 : decode cX7_copy 185 = .ok (.ireturn, 1) := by decide +kernel
theorem dX7_copy_186 : decode cX7_copy 186 = .ok (.iload_n 1, 1) := by decide +kernel
theorem dX7_copy_187 : decode cX7_copy 187 = .ok (.iload_n 2, 1) := by decide +kernel
theorem dX7_copy_188 : decode cX7_copy 188 = .ok (.if_icmp .ne 60, 3) := by decide +kernel
theorem dX7_copy_191 : decode cX7_copy 191 = .ok (.iload_n 3, 1) := by decide +kernel
theorem dX7_copy_192 : decode cX7_copy 192 = .ok (.iload 4, 2) := by decide +kernel
theorem dX7_copy_194 : decode cX7_copy 194 = .ok (.if_icmp .ge 54, 3) := by decide +kernel
theorem dX7_copy_197 : decode cX7_copy 197 = .ok (.iload 5, 2) := by decide +kernel
theorem dX7_copy_199 : decode cX7_copy 199 = .ok (.iconst 1, 1) := by decide +kernel
theorem dX7_copy_200 : decode cX7_copy 200 = .ok (.isub, 1) := by decide +kernel
theorem dX7_copy_201 : decode cX7_copy 201 = .ok (.istore 6, 2) := by decide +kernel
theorem dX7_copy_203 : decode cX7_copy 203 = .ok (.iload 6, 2) := by decide +kernel
theorem dX7_copy_205 : decode cX7_copy 205 = .ok (.ifCond .lt 40, 3) := by decide +kernel
theorem dX7_copy_208 : decode cX7_copy 208 = .ok (.aload_n 0, 1) := by decide +kernel
theorem dX7_copy_209 : decode cX7_copy 209 = .ok (.getfield 16, 3) := by decide +kernel
theorem dX7_copy_212 : decode cX7_copy 212 = .ok (.sipush 160, 3) := by decide +kernel
theorem dX7_copy_215 : decode cX7_copy 215 = .ok (.iload_n 2, 1) := by decide +kernel
theorem dX7_copy_216 : decode cX7_copy 216 = .ok (.imul, 1) := by decide +kernel
theorem dX7_copy_217 : decode cX7_copy 217 = .ok (.iload 4, 2) := by decide +kernel
theorem dX7_copy_219 : decode cX7_copy 219 = .ok (.iadd, 1) := by decide +kernel
theorem dX7_copy_220 : decode cX7_copy 220 = .ok (.iload 6, 2) := by decide +kernel
theorem dX7_copy_222 : decode cX7_copy 222 = .ok (.iadd, 1) := by decide +kernel
theorem dX7_copy_223 : decode cX7_copy 223 = .ok (.aload_n 0, 1) := by decide +kernel
theorem dX7_copy_224 : decode cX7_copy 224 = .ok (.getfield 16, 3) := by decide +kernel
theorem dX7_copy_227 : decode cX7_copy 227 = .ok (.sipush 160, 3) := by decide +kernel
theorem dX7_copy_230 : decode cX7_copy 230 = .ok (.iload_n 1, 1) := by decide +kernel
theorem dX7_copy_231 : decode cX7_copy 231 = .ok (.imul, 1) := by decide +kernel
theorem dX7_copy_232 : decode cX7_copy 232 = .ok (.iload_n 3, 1) := by decide +kernel
theorem dX7_copy_233 : decode cX7_copy 233 = .ok (.iadd, 1) := by decide +kernel
theorem dX7_copy_234 : decode cX7_copy 234 = .ok (.iload 6, 2) := by decide +kernel
theorem dX7_copy_236 : decode cX7_copy 236 = .ok (.iadd, 1) := by decide +kernel
theorem dX7_copy_237 : decode cX7_copy 237 = .ok (.laload, 1) := by decide +kernel
theorem dX7_copy_238 : decode cX7_copy 238 = .ok (.lastore, 1) := by decide +kernel
theorem dX7_copy_239 : decode cX7_copy 239 = .ok (.iinc 6 (-1), 3) := by decide +kernel
theorem dX7_copy_242 : decode cX7_copy 242 = .ok (.goto (-39), 3) := by decide +kernel
theorem dX7_copy_245 : decode cX7_copy 245 = .ok (.goto 50, 3) := by decide +kernel
theorem dX7_copy_248 : decode cX7_copy 248 = .ok (.iconst 0, 1) := by decide +kernel
theorem dX7_copy_249 : decode cX7_copy 249 = .ok (.istore 6, 2) := by decide +kernel
theorem dX7_copy_251 : decode cX7_copy 251 = .ok (.iload 6, 2) := by decide +kernel
theorem dX7_copy_253 : decode cX7_copy 253 = .ok (.iload 5, 2) := by decide +kernel
theorem dX7_copy_255 : decode cX7_copy 255 = .ok (.if_icmp .ge 40, 3) := by decide +kernel
theorem dX7_copy_258 : decode cX7_copy 258 = .ok (.aload_n 0, 1) := by decide +kernel
theorem dX7_copy_259 : decode cX7_copy 259 = .ok (.getfield 16, 3) := by decide +kernel
theorem dX7_copy_262 : decode cX7_copy 262 = .ok (.sipush 160, 3) := by decide +kernel
theorem dX7_copy_265 : decode cX7_copy 265 = .ok (.iload_n 2, 1) := by decide +kernel
theorem dX7_copy_266 : decode cX7_copy 266 = .ok (.imul, 1) := by decide +kernel
theorem dX7_copy_267 : decode cX7_copy 267 = .ok (.iload 4, 2) := by decide +kernel
theorem dX7_copy_269 : decode cX7_copy 269 = .ok (.iadd, 1) := by decide +kernel
theorem dX7_copy_270 : decode cX7_copy 270 = .ok (.iload 6, 2) := by decide +kernel
theorem dX7_copy_272 : decode cX7_copy 272 = .ok (.iadd, 1) := by decide +kernel
theorem dX7_copy_273 : decode cX7_copy 273 = .ok (.aload_n 0, 1) := by decide +kernel
theorem dX7_copy_274 : decode cX7_copy 274 = .ok (.getfield 16, 3) := by decide +kernel
theorem dX7_copy_277 : decode cX7_copy 277 = .ok (.sipush 160, 3) := by decide +kernel
theorem dX7_copy_280 : decode cX7_copy 280 = .ok (.iload_n 1, 1) := by decide +kernel
theorem dX7_copy_281 : decode cX7_copy 281 = .ok (.imul, 1) := by decide +kernel
theorem dX7_copy_282 : decode cX7_copy 282 = .ok (.iload_n 3, 1) := by decide +kernel
theorem dX7_copy_283 : decode cX7_copy 283 = .ok (.iadd, 1) := by decide +kernel
theorem dX7_copy_284 : decode cX7_copy 284 = .ok (.iload 6, 2) := by decide +kernel
theorem dX7_copy_286 : decode cX7_copy 286 = .ok (.iadd, 1) := by decide +kernel
theorem dX7_copy_287 : decode cX7_copy 287 = .ok (.laload, 1) := by decide +kernel
theorem dX7_copy_288 : decode cX7_copy 288 = .ok (.lastore, 1) := by decide +kernel
theorem dX7_copy_289 : decode cX7_copy 289 = .ok (.iinc 6 1, 3) := by decide +kernel
theorem dX7_copy_292 : decode cX7_copy 292 = .ok (.goto (-41), 3) := by decide +kernel
theorem dX7_copy_295 : decode cX7_copy 295 = .ok (.iconst 1, 1) := by decide +kernel
theorem dX7_copy_296 : decode cX7_copy 296 = .ok (.ireturn, 1) := by decide +kernel
theorem dX7_element_0 : decode cX7_element 0 = .ok (.iload_n 1, 1) := by decide +kernel
theorem dX7_element_1 : decode cX7_element 1 = .ok (.iconst 0, 1) := by decide +kernel
theorem dX7_element_2 : decode cX7_element 2 = .ok (.bipush 7, 2) := by decide +kernel
theorem dX7_element_4 : decode cX7_element 4 = .ok (.invokestatic 88, 3) := by decide +kernel
theorem dX7_element_7 : decode cX7_element 7 = .ok (.ifCond .eq 42, 3) := by decide +kernel
theorem dX7_element_10 : decode cX7_element 10 = .ok (.aload_n 0, 1) := by decide +kernel
theorem dX7_element_11 : decode cX7_element 11 = .ok (.iload_n 1, 1) := by decide +kernel
theorem dX7_element_12 : decode cX7_element 12 = .ok (.invokevirtual 95, 3) := by decide +kernel
theorem dX7_element_15 : decode cX7_element 15 = .ok (.ifCond .eq 34, 3) := by decide +kernel
theorem dX7_element_18 : decode cX7_element 18 = .ok (.iload_n 2, 1) := by decide +kernel
theorem dX7_element_19 : decode cX7_element 19 = .ok (.iconst 0, 1) := by decide +kernel
theorem dX7_element_20 : decode cX7_element 20 = .ok (.aload_n 0, 1) := by decide +kernel
theorem dX7_element_21 : decode cX7_element 21 = .ok (.getfield 13, 3) := by decide +kernel
theorem dX7_element_24 : decode cX7_element 24 = .ok (.iload_n 1, 1) := by decide +kernel
theorem dX7_element_25 : decode cX7_element 25 = .ok (.iaload, 1) := by decide +kernel
theorem dX7_element_26 : decode cX7_element 26 = .ok (.iconst 1, 1) := by decide +kernel
theorem dX7_element_27 : decode cX7_element 27 = .ok (.isub, 1) := by decide +kernel
theorem dX7_element_28 : decode cX7_element 28 = .ok (.invokestatic 88, 3) := by decide +kernel
theorem dX7_element_31 : decode cX7_element 31 = .ok (.ifCond .eq 18, 3) := by decide +kernel
theorem dX7_element_34 : decode cX7_element 34 = .ok (.aload_n 0, 1) := by decide +kernel
theorem dX7_element_35 : decode cX7_element 35 = .ok (.getfield 16, 3) := by decide +kernel
theorem dX7_element_38 : decode cX7_element 38 = .ok (.sipush 160, 3) := by decide +kernel
theorem dX7_element_41 : decode cX7_element 41 = .ok (.iload_n 1, 1) := by decide +kernel
theorem dX7_element_42 : decode cX7_element 42 = .ok (.imul, 1) := by decide +kernel
theorem dX7_element_43 : decode cX7_element 43 = .ok (.iload_n 2, 1) := by decide +kernel
theorem dX7_element_44 : decode cX7_element 44 = .ok (.iadd, 1) := by decide +kernel
theorem dX7_element_45 : decode cX7_element 45 = .ok (.laload, 1) := by decide +kernel
theorem dX7_element_46 : decode cX7_element 46 = .ok (.goto 4, 3) := by decide +kernel
theorem dX7_element_49 : decode cX7_element 49 = .ok (.lconst 0, 1) := by decide +kernel
theorem dX7_element_50 : decode cX7_element 50 = .ok (.lreturn, 1) := by decide +kernel
theorem dX7_show_0 : decode cX7_show 0 = .ok (.iload_n 1, 1) := by decide +kernel
theorem dX7_show_1 : decode cX7_show 1 = .ok (.iconst 0, 1) := by decide +kernel
theorem dX7_show_2 : decode cX7_show 2 = .ok (.bipush 7, 2) := by decide +kernel
theorem dX7_show_4 : decode cX7_show 4 = .ok (.invokestatic 88, 3) := by decide +kernel
theorem dX7_show_7 : decode cX7_show 7 = .ok (.ifCond .eq 16, 3) := by decide +kernel
theorem dX7_show_10 : decode cX7_show 10 = .ok (.iload_n 2, 1) := by decide +kernel
theorem dX7_show_11 : decode cX7_show 11 = .ok (.iconst (-1), 1) := by decide +kernel
theorem dX7_show_12 : decode cX7_show 12 = .ok (.if_icmp .eq 17, 3) := by decide +kernel
theorem dX7_show_15 : decode cX7_show 15 = .ok (.aload_n 0, 1) := by decide +kernel
theorem dX7_show_16 : decode cX7_show 16 = .ok (.iload_n 2, 1) := by decide +kernel
theorem dX7_show_17 : decode cX7_show 17 = .ok (.invokevirtual 102, 3) := by decide +kernel
theorem dX7_show_20 : decode cX7_show 20 = .ok (.ifCond .ne 9, 3) := by decide +kernel
theorem dX7_show_23 : decode cX7_show 23 = .ok (.aload_n 0, 1) := by decide +kernel
theorem dX7_show_24 : decode cX7_show 24 = .ok (.iconst (-1), 1) := by decide +kernel
theorem dX7_show_25 : decode cX7_show 25 = .ok (.invokevirtual 81, 3) := by decide +kernel
theorem dX7_show_28 : decode cX7_show 28 = .ok (.ireturn, 1) := by decide +kernel
theorem dX7_show_29 : decode cX7_show 29 = .ok (.aload_n 0, 1) := by decide +kernel
theorem dX7_show_30 : decode cX7_show 30 = .ok (.getfield 7, 3) := by decide +kernel
theorem dX7_show_33 : decode cX7_show 33 = .ok (.iload_n 1, 1) := by decide +kernel
theorem dX7_show_34 : decode cX7_show 34 = .ok (.iload_n 2, 1) := by decide +kernel
theorem dX7_show_35 : decode cX7_show 35 = .ok (.iastore, 1) := by decide +kernel
theorem dX7_show_36 : decode cX7_show 36 = .ok (.iload_n 2, 1) := by decide +kernel
theorem dX7_show_37 : decode cX7_show 37 = .ok (.iconst (-1), 1) := by decide +kernel
theorem dX7_show_38 : decode cX7_show 38 = .ok (.if_icmp .ne 7, 3) := by decide +kernel
theorem dX7_show_41 : decode cX7_show 41 = .ok (.iconst 0, 1) := by decide +kernel
theorem dX7_show_42 : decode cX7_show 42 = .ok (.goto 4, 3) := by decide +kernel
theorem dX7_show_45 : decode cX7_show 45 = .ok (.iconst 1, 1) := by decide +kernel
theorem dX7_show_46 : decode cX7_show 46 = .ok (.ireturn, 1) := by decide +kernel
theorem dX7_holds_0 : decode cX7_holds 0 = .ok (.iload_n 1, 1) := by decide +kernel
theorem dX7_holds_1 : decode cX7_holds 1 = .ok (.iconst 0, 1) := by decide +kernel
theorem dX7_holds_2 : decode cX7_holds 2 = .ok (.bipush 7, 2) := by decide +kernel
theorem dX7_holds_4 : decode cX7_holds 4 = .ok (.invokestatic 88, 3) := by decide +kernel
theorem dX7_holds_7 : decode cX7_holds 7 = .ok (.ifCond .eq 12, 3) := by decide +kernel
theorem dX7_holds_10 : decode cX7_holds 10 = .ok (.aload_n 0, 1) := by decide +kernel
theorem dX7_holds_11 : decode cX7_holds 11 = .ok (.getfield 7, 3) := by decide +kernel
theorem dX7_holds_14 : decode cX7_holds 14 = .ok (.iload_n 1, 1) := by decide +kernel
theorem dX7_holds_15 : decode cX7_holds 15 = .ok (.iaload, 1) := by decide +kernel
theorem dX7_holds_16 : decode cX7_holds 16 = .ok (.goto 4, 3) := by decide +kernel
theorem dX7_holds_19 : decode cX7_holds 19 = .ok (.iconst (-1), 1) := by decide +kernel
theorem dX7_holds_20 : decode cX7_holds 20 = .ok (.ireturn, 1) := by decide +kernel
theorem dX7_above_0 : decode cX7_above 0 = .ok (.iload_n 0, 1) := by decide +kernel
theorem dX7_above_1 : decode cX7_above 1 = .ok (.iconst 3, 1) := by decide +kernel
theorem dX7_above_2 : decode cX7_above 2 = .ok (.if_icmp .ne 7, 3) := by decide +kernel
theorem dX7_above_5 : decode cX7_above 5 = .ok (.iconst 1, 1) := by decide +kernel
theorem dX7_above_6 : decode cX7_above 6 = .ok (.goto 23, 3) := by decide +kernel
theorem dX7_above_9 : decode cX7_above 9 = .ok (.iload_n 0, 1) := by decide +kernel
theorem dX7_above_10 : decode cX7_above 10 = .ok (.iconst 5, 1) := by decide +kernel
theorem dX7_above_11 : decode cX7_above 11 = .ok (.if_icmp .ne 7, 3) := by decide +kernel
theorem dX7_above_14 : decode cX7_above 14 = .ok (.iconst 2, 1) := by decide +kernel
theorem dX7_above_15 : decode cX7_above 15 = .ok (.goto 14, 3) := by decide +kernel
theorem dX7_above_18 : decode cX7_above 18 = .ok (.iload_n 0, 1) := by decide +kernel
theorem dX7_above_19 : decode cX7_above 19 = .ok (.bipush 6, 2) := by decide +kernel
theorem dX7_above_21 : decode cX7_above 21 = .ok (.if_icmp .ne 7, 3) := by decide +kernel
theorem dX7_above_24 : decode cX7_above 24 = .ok (.iconst 4, 1) := by decide +kernel
theorem dX7_above_25 : decode cX7_above 25 = .ok (.goto 4, 3) := by decide +kernel
theorem dX7_above_28 : decode cX7_above 28 = .ok (.iconst 0, 1) := by decide +kernel
theorem dX7_above_29 : decode cX7_above 29 = .ok (.ireturn, 1) := by decide +kernel
theorem dX7_isUnder_0 : decode cX7_isUnder 0 = .ok (.iload_n 0, 1) := by decide +kernel
theorem dX7_isUnder_1 : decode cX7_isUnder 1 = .ok (.istore_n 2, 1) := by decide +kernel
theorem dX7_isUnder_2 : decode cX7_isUnder 2 = .ok (.iload_n 2, 1) := by decide +kernel
theorem dX7_isUnder_3 : decode cX7_isUnder 3 = .ok (.iload_n 1, 1) := by decide +kernel
theorem dX7_isUnder_4 : decode cX7_isUnder 4 = .ok (.if_icmp .eq 15, 3) := by decide +kernel
theorem dX7_isUnder_7 : decode cX7_isUnder 7 = .ok (.iload_n 2, 1) := by decide +kernel
theorem dX7_isUnder_8 : decode cX7_isUnder 8 = .ok (.ifCond .le 11, 3) := by decide +kernel
theorem dX7_isUnder_11 : decode cX7_isUnder 11 = .ok (.iload_n 2, 1) := by decide +kernel
theorem dX7_isUnder_12 : decode cX7_isUnder 12 = .ok (.invokestatic 105, 3) := by decide +kernel
theorem dX7_isUnder_15 : decode cX7_isUnder 15 = .ok (.istore_n 2, 1) := by decide +kernel
theorem dX7_isUnder_16 : decode cX7_isUnder 16 = .ok (.goto (-14), 3) := by decide +kernel
theorem dX7_isUnder_19 : decode cX7_isUnder 19 = .ok (.iload_n 2, 1) := by decide +kernel
theorem dX7_isUnder_20 : decode cX7_isUnder 20 = .ok (.iload_n 1, 1) := by decide +kernel
theorem dX7_isUnder_21 : decode cX7_isUnder 21 = .ok (.if_icmp .ne 7, 3) := by decide +kernel
theorem dX7_isUnder_24 : decode cX7_isUnder 24 = .ok (.iconst 1, 1) := by decide +kernel
theorem dX7_isUnder_25 : decode cX7_isUnder 25 = .ok (.goto 4, 3) := by decide +kernel
theorem dX7_isUnder_28 : decode cX7_isUnder 28 = .ok (.iconst 0, 1) := by decide +kernel
theorem dX7_isUnder_29 : decode cX7_isUnder 29 = .ok (.ireturn, 1) := by decide +kernel
theorem dX7_says_0 : decode cX7_says 0 = .ok (.iload_n 1, 1) := by decide +kernel
theorem dX7_says_1 : decode cX7_says 1 = .ok (.iconst 0, 1) := by decide +kernel
theorem dX7_says_2 : decode cX7_says 2 = .ok (.bipush 7, 2) := by decide +kernel
theorem dX7_says_4 : decode cX7_says 4 = .ok (.invokestatic 88, 3) := by decide +kernel
theorem dX7_says_7 : decode cX7_says 7 = .ok (.ifCond .eq 13, 3) := by decide +kernel
theorem dX7_says_10 : decode cX7_says 10 = .ok (.iload_n 2, 1) := by decide +kernel
theorem dX7_says_11 : decode cX7_says 11 = .ok (.iconst 0, 1) := by decide +kernel
theorem dX7_says_12 : decode cX7_says 12 = .ok (.bipush 6, 2) := by decide +kernel
theorem dX7_says_14 : decode cX7_says 14 = .ok (.invokestatic 88, 3) := by decide +kernel
theorem dX7_says_17 : decode cX7_says 17 = .ok (.ifCond .ne 9, 3) := by decide +kernel
theorem dX7_says_20 : decode cX7_says 20 = .ok (.aload_n 0, 1) := by decide +kernel
theorem dX7_says_21 : decode cX7_says 21 = .ok (.iconst (-1), 1) := by decide +kernel
theorem dX7_says_22 : decode cX7_says 22 = .ok (.invokevirtual 81, 3) := by decide +kernel
theorem dX7_says_25 : decode cX7_says 25 = .ok (.ireturn, 1) := by decide +kernel
theorem dX7_says_26 : decode cX7_says 26 = .ok (.aload_n 0, 1) := by decide +kernel
theorem dX7_says_27 : decode cX7_says 27 = .ok (.getfield 7, 3) := by decide +kernel
theorem dX7_says_30 : decode cX7_says 30 = .ok (.iload_n 1, 1) := by decide +kernel
theorem dX7_says_31 : decode cX7_says 31 = .ok (.iaload, 1) := by decide +kernel
theorem dX7_says_32 : decode cX7_says 32 = .ok (.istore_n 3, 1) := by decide +kernel
theorem dX7_says_33 : decode cX7_says 33 = .ok (.iload_n 3, 1) := by decide +kernel
theorem dX7_says_34 : decode cX7_says 34 = .ok (.ifCond .lt 31, 3) := by decide +kernel
theorem dX7_says_37 : decode cX7_says 37 = .ok (.aload_n 0, 1) := by decide +kernel
theorem dX7_says_38 : decode cX7_says 38 = .ok (.iload_n 1, 1) := by decide +kernel
theorem dX7_says_39 : decode cX7_says 39 = .ok (.invokevirtual 95, 3) := by decide +kernel
theorem dX7_says_42 : decode cX7_says 42 = .ok (.ifCond .ne 16, 3) := by decide +kernel
theorem dX7_says_45 : decode cX7_says 45 = .ok (.aload_n 0, 1) := by decide +kernel
theorem dX7_says_46 : decode cX7_says 46 = .ok (.getfield 20, 3) := by decide +kernel
theorem dX7_says_49 : decode cX7_says 49 = .ok (.iload_n 3, 1) := by decide +kernel
theorem dX7_says_50 : decode cX7_says 50 = .ok (.iaload, 1) := by decide +kernel
theorem dX7_says_51 : decode cX7_says 51 = .ok (.iload_n 2, 1) := by decide +kernel
theorem dX7_says_52 : decode cX7_says 52 = .ok (.invokestatic 108, 3) := by decide +kernel
theorem dX7_says_55 : decode cX7_says 55 = .ok (.ifCond .ne 10, 3) := by decide +kernel
theorem dX7_says_58 : decode cX7_says 58 = .ok (.aload_n 0, 1) := by decide +kernel
theorem dX7_says_59 : decode cX7_says 59 = .ok (.bipush (-2), 2) := by decide +kernel
theorem dX7_says_61 : decode cX7_says 61 = .ok (.invokevirtual 81, 3) := by decide +kernel
theorem dX7_says_64 : decode cX7_says 64 = .ok (.ireturn, 1) := by decide +kernel
theorem dX7_says_65 : decode cX7_says 65 = .ok (.iload_n 3, 1) := by decide +kernel
theorem dX7_says_66 : decode cX7_says 66 = .ok (.ifCond .ge 10, 3) := by decide +kernel
theorem dX7_says_69 : decode cX7_says 69 = .ok (.aload_n 0, 1) := by decide +kernel
theorem dX7_says_70 : decode cX7_says 70 = .ok (.bipush (-3), 2) := by decide +kernel
theorem dX7_says_72 : decode cX7_says 72 = .ok (.invokevirtual 81, 3) := by decide +kernel
theorem dX7_says_75 : decode cX7_says 75 = .ok (.ireturn, 1) := by decide +kernel
theorem dX7_says_76 : decode cX7_says 76 = .ok (.iload_n 2, 1) := by decide +kernel
theorem dX7_says_77 : decode cX7_says 77 = .ok (.lookupswitch 51 #[(0, 35), (4, 41), (6, 41)], 35) := by decide +kernel
theorem dX7_says_112 : decode cX7_says 112 = .ok (.aload_n 0, 1) := by decide +kernel
theorem dX7_says_113 : decode cX7_says 113 = .ok (.iload_n 3, 1) := by decide +kernel
theorem dX7_says_114 : decode cX7_says 114 = .ok (.invokevirtual 112, 3) := by decide +kernel
theorem dX7_says_117 : decode cX7_says 117 = .ok (.ireturn, 1) := by decide +kernel
theorem dX7_says_118 : decode cX7_says 118 = .ok (.aload_n 0, 1) := by decide +kernel
theorem dX7_says_119 : decode cX7_says 119 = .ok (.iload_n 3, 1) := by decide +kernel
theorem dX7_says_120 : decode cX7_says 120 = .ok (.iconst 0, 1) := by decide +kernel
theorem dX7_says_121 : decode cX7_says 121 = .ok (.iconst 5, 1) := by decide +kernel
theorem dX7_says_122 : decode cX7_says 122 = .ok (.bipush 100, 2) := by decide +kernel
theorem dX7_says_124 : decode cX7_says 124 = .ok (.invokevirtual 115, 3) := by decide +kernel
theorem dX7_says_127 : decode cX7_says 127 = .ok (.ireturn, 1) := by decide +kernel
theorem dX7_says_128 : decode cX7_says 128 = .ok (.aload_n 0, 1) := by decide +kernel
theorem dX7_says_129 : decode cX7_says 129 = .ok (.iload_n 3, 1) := by decide +kernel
theorem dX7_says_130 : decode cX7_says 130 = .ok (.iconst 1, 1) := by decide +kernel
theorem dX7_says_131 : decode cX7_says 131 = .ok (.iconst 5, 1) := by decide +kernel
theorem dX7_says_132 : decode cX7_says 132 = .ok (.bipush 100, 2) := by decide +kernel
theorem dX7_says_134 : decode cX7_says 134 = .ok (.invokevirtual 115, 3) := by decide +kernel
theorem dX7_says_137 : decode cX7_says 137 = .ok (.ireturn, 1) := by decide +kernel
theorem dX7_newQuestion_0 : decode cX7_newQuestion 0 = .ok (.aload_n 0, 1) := by decide +kernel
theorem dX7_newQuestion_1 : decode cX7_newQuestion 1 = .ok (.getfield 20, 3) := by decide +kernel
theorem dX7_newQuestion_4 : decode cX7_newQuestion 4 = .ok (.aload_n 0, 1) := by decide +kernel
theorem dX7_newQuestion_5 : decode cX7_newQuestion 5 = .ok (.getfield 85, 3) := by decide +kernel
theorem dX7_newQuestion_8 : decode cX7_newQuestion 8 = .ok (.iload_n 1, 1) := by decide +kernel
theorem dX7_newQuestion_9 : decode cX7_newQuestion 9 = .ok (.iastore, 1) := by decide +kernel
theorem dX7_newQuestion_10 : decode cX7_newQuestion 10 = .ok (.aload_n 0, 1) := by decide +kernel
theorem dX7_newQuestion_11 : decode cX7_newQuestion 11 = .ok (.getfield 23, 3) := by decide +kernel
theorem dX7_newQuestion_14 : decode cX7_newQuestion 14 = .ok (.aload_n 0, 1) := by decide +kernel
theorem dX7_newQuestion_15 : decode cX7_newQuestion 15 = .ok (.getfield 85, 3) := by decide +kernel
theorem dX7_newQuestion_18 : decode cX7_newQuestion 18 = .ok (.iload_n 2, 1) := by decide +kernel
theorem dX7_newQuestion_19 : decode cX7_newQuestion 19 = .ok (.iastore, 1) := by decide +kernel
theorem dX7_newQuestion_20 : decode cX7_newQuestion 20 = .ok (.iconst 0, 1) := by decide +kernel
theorem dX7_newQuestion_21 : decode cX7_newQuestion 21 = .ok (.istore_n 3, 1) := by decide +kernel
theorem dX7_newQuestion_22 : decode cX7_newQuestion 22 = .ok (.iload_n 3, 1) := by decide +kernel
theorem dX7_newQuestion_23 : decode cX7_newQuestion 23 = .ok (.bipush 8, 2) := by decide +kernel
theorem dX7_newQuestion_25 : decode cX7_newQuestion 25 = .ok (.if_icmp .ge 39, 3) := by decide +kernel
theorem dX7_newQuestion_28 : decode cX7_newQuestion 28 = .ok (.aload_n 0, 1) := by decide +kernel
theorem dX7_newQuestion_29 : decode cX7_newQuestion 29 = .ok (.getfield 26, 3) := by decide +kernel
theorem dX7_newQuestion_32 : decode cX7_newQuestion 32 = .ok (.bipush 8, 2) := by decide +kernel
theorem dX7_newQuestion_34 : decode cX7_newQuestion 34 = .ok (.aload_n 0, 1) := by decide +kernel
theorem dX7_newQuestion_35 : decode cX7_newQuestion 35 = .ok (.getfield 85, 3) := by decide +kernel
theorem dX7_newQuestion_38 : decode cX7_newQuestion 38 = .ok (.imul, 1) := by decide +kernel
theorem dX7_newQuestion_39 : decode cX7_newQuestion 39 = .ok (.iload_n 3, 1) := by decide +kernel
theorem dX7_newQuestion_40 : decode cX7_newQuestion 40 = .ok (.iadd, 1) := by decide +kernel
theorem dX7_newQuestion_41 : decode cX7_newQuestion 41 = .ok (.iconst 0, 1) := by decide +kernel
theorem dX7_newQuestion_42 : decode cX7_newQuestion 42 = .ok (.iastore, 1) := by decide +kernel
theorem dX7_newQuestion_43 : decode cX7_newQuestion 43 = .ok (.aload_n 0, 1) := by decide +kernel
theorem dX7_newQuestion_44 : decode cX7_newQuestion 44 = .ok (.getfield 26, 3) := by decide +kernel
theorem dX7_newQuestion_47 : decode cX7_newQuestion 47 = .ok (.bipush 8, 2) := by decide +kernel
theorem dX7_newQuestion_49 : decode cX7_newQuestion 49 = .ok (.iload_n 3, 1) := by decide +kernel
theorem dX7_newQuestion_50 : decode cX7_newQuestion 50 = .ok (.imul, 1) := by decide +kernel
theorem dX7_newQuestion_51 : decode cX7_newQuestion 51 = .ok (.aload_n 0, 1) := by decide +kernel
theorem dX7_newQuestion_52 : decode cX7_newQuestion 52 = .ok (.getfield 85, 3) := by decide +kernel
theorem dX7_newQuestion_55 : decode cX7_newQuestion 55 = .ok (.iadd, 1) := by decide +kernel
theorem dX7_newQuestion_56 : decode cX7_newQuestion 56 = .ok (.iconst 0, 1) := by decide +kernel
theorem dX7_newQuestion_57 : decode cX7_newQuestion 57 = .ok (.iastore, 1) := by decide +kernel
theorem dX7_newQuestion_58 : decode cX7_newQuestion 58 = .ok (.iinc 3 1, 3) := by decide +kernel
theorem dX7_newQuestion_61 : decode cX7_newQuestion 61 = .ok (.goto (-39), 3) := by decide +kernel
theorem dX7_newQuestion_64 : decode cX7_newQuestion 64 = .ok (.aload_n 0, 1) := by decide +kernel
theorem dX7_newQuestion_65 : decode cX7_newQuestion 65 = .ok (.dup, 1) := by decide +kernel
theorem dX7_newQuestion_66 : decode cX7_newQuestion 66 = .ok (.getfield 85, 3) := by decide +kernel
theorem dX7_newQuestion_69 : decode cX7_newQuestion 69 = .ok (.dup_x1, 1) := by decide +kernel
theorem dX7_newQuestion_70 : decode cX7_newQuestion 70 = .ok (.iconst 1, 1) := by decide +kernel
theorem dX7_newQuestion_71 : decode cX7_newQuestion 71 = .ok (.iadd, 1) := by decide +kernel
theorem dX7_newQuestion_72 : decode cX7_newQuestion 72 = .ok (.putfield 85, 3) := by decide +kernel
theorem dX7_newQuestion_75 : decode cX7_newQuestion 75 = .ok (.ireturn, 1) := by decide +kernel
theorem dX7_question_0 : decode cX7_question 0 = .ok (.iload_n 1, 1) := by decide +kernel
theorem dX7_question_1 : decode cX7_question 1 = .ok (.iconst 0, 1) := by decide +kernel
theorem dX7_question_2 : decode cX7_question 2 = .ok (.bipush 6, 2) := by decide +kernel
theorem dX7_question_4 : decode cX7_question 4 = .ok (.invokestatic 88, 3) := by decide +kernel
theorem dX7_question_7 : decode cX7_question 7 = .ok (.ifCond .ne 9, 3) := by decide +kernel
theorem dX7_question_10 : decode cX7_question 10 = .ok (.aload_n 0, 1) := by decide +kernel
theorem dX7_question_11 : decode cX7_question 11 = .ok (.iconst (-1), 1) := by decide +kernel
theorem dX7_question_12 : decode cX7_question 12 = .ok (.invokevirtual 81, 3) := by decide +kernel
theorem dX7_question_15 : decode cX7_question 15 = .ok (.ireturn, 1) := by decide +kernel
theorem dX7_question_16 : decode cX7_question 16 = .ok (.iload_n 2, 1) := by decide +kernel
theorem dX7_question_17 : decode cX7_question 17 = .ok (.iconst 0, 1) := by decide +kernel
theorem dX7_question_18 : decode cX7_question 18 = .ok (.bipush 9, 2) := by decide +kernel
theorem dX7_question_20 : decode cX7_question 20 = .ok (.invokestatic 88, 3) := by decide +kernel
theorem dX7_question_23 : decode cX7_question 23 = .ok (.ifCond .ne 10, 3) := by decide +kernel
theorem dX7_question_26 : decode cX7_question 26 = .ok (.aload_n 0, 1) := by decide +kernel
theorem dX7_question_27 : decode cX7_question 27 = .ok (.bipush (-6), 2) := by decide +kernel
theorem dX7_question_29 : decode cX7_question 29 = .ok (.invokevirtual 81, 3) := by decide +kernel
theorem dX7_question_32 : decode cX7_question 32 = .ok (.ireturn, 1) := by decide +kernel
theorem dX7_question_33 : decode cX7_question 33 = .ok (.aload_n 0, 1) := by decide +kernel
theorem dX7_question_34 : decode cX7_question 34 = .ok (.getfield 85, 3) := by decide +kernel
theorem dX7_question_37 : decode cX7_question 37 = .ok (.bipush 8, 2) := by decide +kernel
theorem dX7_question_39 : decode cX7_question 39 = .ok (.if_icmp .ne 12, 3) := by decide +kernel
theorem dX7_question_42 : decode cX7_question 42 = .ok (.aload_n 0, 1) := by decide +kernel
theorem dX7_question_43 : decode cX7_question 43 = .ok (.bipush (-7), 2) := by decide +kernel
theorem dX7_question_45 : decode cX7_question 45 = .ok (.invokevirtual 81, 3) := by decide +kernel
theorem dX7_question_48 : decode cX7_question 48 = .ok (.goto 9, 3) := by decide +kernel
theorem dX7_question_51 : decode cX7_question 51 = .ok (.aload_n 0, 1) := by decide +kernel
theorem dX7_question_52 : decode cX7_question 52 = .ok (.iload_n 1, 1) := by decide +kernel
theorem dX7_question_53 : decode cX7_question 53 = .ok (.iload_n 2, 1) := by decide +kernel
theorem dX7_question_54 : decode cX7_question 54 = .ok (.invokevirtual 119, 3) := by decide +kernel
theorem dX7_question_57 : decode cX7_question 57 = .ok (.ireturn, 1) := by decide +kernel
theorem dX7_newGroup_0 : decode cX7_newGroup 0 = .ok (.aload_n 0, 1) := by decide +kernel
theorem dX7_newGroup_1 : decode cX7_newGroup 1 = .ok (.getfield 29, 3) := by decide +kernel
theorem dX7_newGroup_4 : decode cX7_newGroup 4 = .ok (.aload_n 0, 1) := by decide +kernel
theorem dX7_newGroup_5 : decode cX7_newGroup 5 = .ok (.getfield 92, 3) := by decide +kernel
theorem dX7_newGroup_8 : decode cX7_newGroup 8 = .ok (.iload_n 1, 1) := by decide +kernel
theorem dX7_newGroup_9 : decode cX7_newGroup 9 = .ok (.iastore, 1) := by decide +kernel
theorem dX7_newGroup_10 : decode cX7_newGroup 10 = .ok (.aload_n 0, 1) := by decide +kernel
theorem dX7_newGroup_11 : decode cX7_newGroup 11 = .ok (.getfield 32, 3) := by decide +kernel
theorem dX7_newGroup_14 : decode cX7_newGroup 14 = .ok (.aload_n 0, 1) := by decide +kernel
theorem dX7_newGroup_15 : decode cX7_newGroup 15 = .ok (.getfield 92, 3) := by decide +kernel
theorem dX7_newGroup_18 : decode cX7_newGroup 18 = .ok (.iload_n 2, 1) := by decide +kernel
theorem dX7_newGroup_19 : decode cX7_newGroup 19 = .ok (.iastore, 1) := by decide +kernel
theorem dX7_newGroup_20 : decode cX7_newGroup 20 = .ok (.aload_n 0, 1) := by decide +kernel
theorem dX7_newGroup_21 : decode cX7_newGroup 21 = .ok (.getfield 35, 3) := by decide +kernel
theorem dX7_newGroup_24 : decode cX7_newGroup 24 = .ok (.aload_n 0, 1) := by decide +kernel
theorem dX7_newGroup_25 : decode cX7_newGroup 25 = .ok (.getfield 92, 3) := by decide +kernel
theorem dX7_newGroup_28 : decode cX7_newGroup 28 = .ok (.iload_n 3, 1) := by decide +kernel
theorem dX7_newGroup_29 : decode cX7_newGroup 29 = .ok (.iastore, 1) := by decide +kernel
theorem dX7_newGroup_30 : decode cX7_newGroup 30 = .ok (.aload_n 0, 1) := by decide +kernel
theorem dX7_newGroup_31 : decode cX7_newGroup 31 = .ok (.getfield 38, 3) := by decide +kernel
theorem dX7_newGroup_34 : decode cX7_newGroup 34 = .ok (.aload_n 0, 1) := by decide +kernel
theorem dX7_newGroup_35 : decode cX7_newGroup 35 = .ok (.getfield 92, 3) := by decide +kernel
theorem dX7_newGroup_38 : decode cX7_newGroup 38 = .ok (.iload 4, 2) := by decide +kernel
theorem dX7_newGroup_40 : decode cX7_newGroup 40 = .ok (.iastore, 1) := by decide +kernel
theorem dX7_newGroup_41 : decode cX7_newGroup 41 = .ok (.aload_n 0, 1) := by decide +kernel
theorem dX7_newGroup_42 : decode cX7_newGroup 42 = .ok (.getfield 41, 3) := by decide +kernel
theorem dX7_newGroup_45 : decode cX7_newGroup 45 = .ok (.aload_n 0, 1) := by decide +kernel
theorem dX7_newGroup_46 : decode cX7_newGroup 46 = .ok (.getfield 92, 3) := by decide +kernel
theorem dX7_newGroup_49 : decode cX7_newGroup 49 = .ok (.iload 5, 2) := by decide +kernel
theorem dX7_newGroup_51 : decode cX7_newGroup 51 = .ok (.iastore, 1) := by decide +kernel
theorem dX7_newGroup_52 : decode cX7_newGroup 52 = .ok (.aload_n 0, 1) := by decide +kernel
theorem dX7_newGroup_53 : decode cX7_newGroup 53 = .ok (.dup, 1) := by decide +kernel
theorem dX7_newGroup_54 : decode cX7_newGroup 54 = .ok (.getfield 92, 3) := by decide +kernel
theorem dX7_newGroup_57 : decode cX7_newGroup 57 = .ok (.dup_x1, 1) := by decide +kernel
theorem dX7_newGroup_58 : decode cX7_newGroup 58 = .ok (.iconst 1, 1) := by decide +kernel
theorem dX7_newGroup_59 : decode cX7_newGroup 59 = .ok (.iadd, 1) := by decide +kernel
theorem dX7_newGroup_60 : decode cX7_newGroup 60 = .ok (.putfield 92, 3) := by decide +kernel
theorem dX7_newGroup_63 : decode cX7_newGroup 63 = .ok (.ireturn, 1) := by decide +kernel
theorem dX7_group_0 : decode cX7_group 0 = .ok (.iload_n 1, 1) := by decide +kernel
theorem dX7_group_1 : decode cX7_group 1 = .ok (.iconst 1, 1) := by decide +kernel
theorem dX7_group_2 : decode cX7_group 2 = .ok (.sipush 999, 3) := by decide +kernel
theorem dX7_group_5 : decode cX7_group 5 = .ok (.invokestatic 88, 3) := by decide +kernel
theorem dX7_group_8 : decode cX7_group 8 = .ok (.ifCond .eq 44, 3) := by decide +kernel
theorem dX7_group_11 : decode cX7_group 11 = .ok (.iload_n 2, 1) := by decide +kernel
theorem dX7_group_12 : decode cX7_group 12 = .ok (.iconst 0, 1) := by decide +kernel
theorem dX7_group_13 : decode cX7_group 13 = .ok (.iconst 2, 1) := by decide +kernel
theorem dX7_group_14 : decode cX7_group 14 = .ok (.invokestatic 88, 3) := by decide +kernel
theorem dX7_group_17 : decode cX7_group 17 = .ok (.ifCond .eq 35, 3) := by decide +kernel
theorem dX7_group_20 : decode cX7_group 20 = .ok (.iload_n 3, 1) := by decide +kernel
theorem dX7_group_21 : decode cX7_group 21 = .ok (.iconst 0, 1) := by decide +kernel
theorem dX7_group_22 : decode cX7_group 22 = .ok (.bipush 10, 2) := by decide +kernel
theorem dX7_group_24 : decode cX7_group 24 = .ok (.invokestatic 88, 3) := by decide +kernel
theorem dX7_group_27 : decode cX7_group 27 = .ok (.ifCond .eq 25, 3) := by decide +kernel
theorem dX7_group_30 : decode cX7_group 30 = .ok (.iload 4, 2) := by decide +kernel
theorem dX7_group_32 : decode cX7_group 32 = .ok (.iconst 0, 1) := by decide +kernel
theorem dX7_group_33 : decode cX7_group 33 = .ok (.bipush 10, 2) := by decide +kernel
theorem dX7_group_35 : decode cX7_group 35 = .ok (.invokestatic 88, 3) := by decide +kernel
theorem dX7_group_38 : decode cX7_group 38 = .ok (.ifCond .eq 14, 3) := by decide +kernel
theorem dX7_group_41 : decode cX7_group 41 = .ok (.iload 5, 2) := by decide +kernel
theorem dX7_group_43 : decode cX7_group 43 = .ok (.iconst 0, 1) := by decide +kernel
theorem dX7_group_44 : decode cX7_group 44 = .ok (.bipush 10, 2) := by decide +kernel
theorem dX7_group_46 : decode cX7_group 46 = .ok (.invokestatic 88, 3) := by decide +kernel
theorem dX7_group_49 : decode cX7_group 49 = .ok (.ifCond .ne 10, 3) := by decide +kernel
theorem dX7_group_52 : decode cX7_group 52 = .ok (.aload_n 0, 1) := by decide +kernel
theorem dX7_group_53 : decode cX7_group 53 = .ok (.bipush (-6), 2) := by decide +kernel
theorem dX7_group_55 : decode cX7_group 55 = .ok (.invokevirtual 81, 3) := by decide +kernel
theorem dX7_group_58 : decode cX7_group 58 = .ok (.ireturn, 1) := by decide +kernel
theorem dX7_group_59 : decode cX7_group 59 = .ok (.aload_n 0, 1) := by decide +kernel
theorem dX7_group_60 : decode cX7_group 60 = .ok (.getfield 92, 3) := by decide +kernel
theorem dX7_group_63 : decode cX7_group 63 = .ok (.bipush 10, 2) := by decide +kernel
theorem dX7_group_65 : decode cX7_group 65 = .ok (.if_icmp .ne 12, 3) := by decide +kernel
theorem dX7_group_68 : decode cX7_group 68 = .ok (.aload_n 0, 1) := by decide +kernel
theorem dX7_group_69 : decode cX7_group 69 = .ok (.bipush (-7), 2) := by decide +kernel
theorem dX7_group_71 : decode cX7_group 71 = .ok (.invokevirtual 81, 3) := by decide +kernel
theorem dX7_group_74 : decode cX7_group 74 = .ok (.goto 14, 3) := by decide +kernel
theorem dX7_group_77 : decode cX7_group 77 = .ok (.aload_n 0, 1) := by decide +kernel
theorem dX7_group_78 : decode cX7_group 78 = .ok (.iload_n 1, 1) := by decide +kernel
theorem dX7_group_79 : decode cX7_group 79 = .ok (.iload_n 2, 1) := by decide +kernel
theorem dX7_group_80 : decode cX7_group 80 = .ok (.iload_n 3, 1) := by decide +kernel
theorem dX7_group_81 : decode cX7_group 81 = .ok (.iload 4, 2) := by decide +kernel
theorem dX7_group_83 : decode cX7_group 83 = .ok (.iload 5, 2) := by decide +kernel
theorem dX7_group_85 : decode cX7_group 85 = .ok (.invokevirtual 123, 3) := by decide +kernel
theorem dX7_group_88 : decode cX7_group 88 = .ok (.ireturn, 1) := by decide +kernel
theorem dX7_questionOf_0 : decode cX7_questionOf 0 = .ok (.aload_n 0, 1) := by decide +kernel
theorem dX7_questionOf_1 : decode cX7_questionOf 1 = .ok (.iload_n 1, 1) := by decide +kernel
theorem dX7_questionOf_2 : decode cX7_questionOf 2 = .ok (.invokevirtual 102, 3) := by decide +kernel
theorem dX7_questionOf_5 : decode cX7_questionOf 5 = .ok (.ifCond .ne 10, 3) := by decide +kernel
theorem dX7_questionOf_8 : decode cX7_questionOf 8 = .ok (.aload_n 0, 1) := by decide +kernel
theorem dX7_questionOf_9 : decode cX7_questionOf 9 = .ok (.bipush (-5), 2) := by decide +kernel
theorem dX7_questionOf_11 : decode cX7_questionOf 11 = .ok (.invokevirtual 127, 3) := by decide +kernel
theorem dX7_questionOf_14 : decode cX7_questionOf 14 = .ok (.ireturn, 1) := by decide +kernel
theorem dX7_questionOf_15 : decode cX7_questionOf 15 = .ok (.iload_n 2, 1) := by decide +kernel
theorem dX7_questionOf_16 : decode cX7_questionOf 16 = .ok (.tableswitch 68 0 4 #[36, 43, 50, 56, 62], 36) := by decide +kernel
theorem dX7_questionOf_52 : decode cX7_questionOf 52 = .ok (.aload_n 0, 1) := by decide +kernel
theorem dX7_questionOf_53 : decode cX7_questionOf 53 = .ok (.getfield 20, 3) := by decide +kernel
theorem dX7_questionOf_56 : decode cX7_questionOf 56 = .ok (.iload_n 1, 1) := by decide +kernel
theorem dX7_questionOf_57 : decode cX7_questionOf 57 = .ok (.iaload, 1) := by decide +kernel
theorem dX7_questionOf_58 : decode cX7_questionOf 58 = .ok (.ireturn, 1) := by decide +kernel
theorem dX7_questionOf_59 : decode cX7_questionOf 59 = .ok (.aload_n 0, 1) := by decide +kernel
theorem dX7_questionOf_60 : decode cX7_questionOf 60 = .ok (.getfield 23, 3) := by decide +kernel
theorem dX7_questionOf_63 : decode cX7_questionOf 63 = .ok (.iload_n 1, 1) := by decide +kernel
theorem dX7_questionOf_64 : decode cX7_questionOf 64 = .ok (.iaload, 1) := by decide +kernel
theorem dX7_questionOf_65 : decode cX7_questionOf 65 = .ok (.ireturn, 1) := by decide +kernel
theorem dX7_questionOf_66 : decode cX7_questionOf 66 = .ok (.aload_n 0, 1) := by decide +kernel
theorem dX7_questionOf_67 : decode cX7_questionOf 67 = .ok (.iload_n 1, 1) := by decide +kernel
theorem dX7_questionOf_68 : decode cX7_questionOf 68 = .ok (.invokevirtual 130, 3) := by decide +kernel
theorem dX7_questionOf_71 : decode cX7_questionOf 71 = .ok (.ireturn, 1) := by decide +kernel
theorem dX7_questionOf_72 : decode cX7_questionOf 72 = .ok (.aload_n 0, 1) := by decide +kernel
theorem dX7_questionOf_73 : decode cX7_questionOf 73 = .ok (.iload_n 1, 1) := by decide +kernel
theorem dX7_questionOf_74 : decode cX7_questionOf 74 = .ok (.invokevirtual 112, 3) := by decide +kernel
theorem dX7_questionOf_77 : decode cX7_questionOf 77 = .ok (.ireturn, 1) := by decide +kernel
theorem dX7_questionOf_78 : decode cX7_questionOf 78 = .ok (.aload_n 0, 1) := by decide +kernel
theorem dX7_questionOf_79 : decode cX7_questionOf 79 = .ok (.iload_n 1, 1) := by decide +kernel
theorem dX7_questionOf_80 : decode cX7_questionOf 80 = .ok (.invokevirtual 133, 3) := by decide +kernel
theorem dX7_questionOf_83 : decode cX7_questionOf 83 = .ok (.ireturn, 1) := by decide +kernel
theorem dX7_questionOf_84 : decode cX7_questionOf 84 = .ok (.aload_n 0, 1) := by decide +kernel
theorem dX7_questionOf_85 : decode cX7_questionOf 85 = .ok (.bipush (-5), 2) := by decide +kernel
theorem dX7_questionOf_87 : decode cX7_questionOf 87 = .ok (.invokevirtual 127, 3) := by decide +kernel
theorem dX7_questionOf_90 : decode cX7_questionOf 90 = .ok (.ireturn, 1) := by decide +kernel
theorem dX7_groupOf_0 : decode cX7_groupOf 0 = .ok (.aload_n 0, 1) := by decide +kernel
theorem dX7_groupOf_1 : decode cX7_groupOf 1 = .ok (.iload_n 1, 1) := by decide +kernel
theorem dX7_groupOf_2 : decode cX7_groupOf 2 = .ok (.invokevirtual 136, 3) := by decide +kernel
theorem dX7_groupOf_5 : decode cX7_groupOf 5 = .ok (.ifCond .ne 10, 3) := by decide +kernel
theorem dX7_groupOf_8 : decode cX7_groupOf 8 = .ok (.aload_n 0, 1) := by decide +kernel
theorem dX7_groupOf_9 : decode cX7_groupOf 9 = .ok (.bipush (-5), 2) := by decide +kernel
theorem dX7_groupOf_11 : decode cX7_groupOf 11 = .ok (.invokevirtual 81, 3) := by decide +kernel
theorem dX7_groupOf_14 : decode cX7_groupOf 14 = .ok (.ireturn, 1) := by decide +kernel
theorem dX7_groupOf_15 : decode cX7_groupOf 15 = .ok (.iload_n 2, 1) := by decide +kernel
theorem dX7_groupOf_16 : decode cX7_groupOf 16 = .ok (.tableswitch 71 0 4 #[36, 43, 50, 57, 64], 36) := by decide +kernel
theorem dX7_groupOf_52 : decode cX7_groupOf 52 = .ok (.aload_n 0, 1) := by decide +kernel
theorem dX7_groupOf_53 : decode cX7_groupOf 53 = .ok (.getfield 29, 3) := by decide +kernel
theorem dX7_groupOf_56 : decode cX7_groupOf 56 = .ok (.iload_n 1, 1) := by decide +kernel
theorem dX7_groupOf_57 : decode cX7_groupOf 57 = .ok (.iaload, 1) := by decide +kernel
theorem dX7_groupOf_58 : decode cX7_groupOf 58 = .ok (.ireturn, 1) := by decide +kernel
theorem dX7_groupOf_59 : decode cX7_groupOf 59 = .ok (.aload_n 0, 1) := by decide +kernel
theorem dX7_groupOf_60 : decode cX7_groupOf 60 = .ok (.getfield 32, 3) := by decide +kernel
theorem dX7_groupOf_63 : decode cX7_groupOf 63 = .ok (.iload_n 1, 1) := by decide +kernel
theorem dX7_groupOf_64 : decode cX7_groupOf 64 = .ok (.iaload, 1) := by decide +kernel
theorem dX7_groupOf_65 : decode cX7_groupOf 65 = .ok (.ireturn, 1) := by decide +kernel
theorem dX7_groupOf_66 : decode cX7_groupOf 66 = .ok (.aload_n 0, 1) := by decide +kernel
theorem dX7_groupOf_67 : decode cX7_groupOf 67 = .ok (.getfield 35, 3) := by decide +kernel
theorem dX7_groupOf_70 : decode cX7_groupOf 70 = .ok (.iload_n 1, 1) := by decide +kernel
theorem dX7_groupOf_71 : decode cX7_groupOf 71 = .ok (.iaload, 1) := by decide +kernel
theorem dX7_groupOf_72 : decode cX7_groupOf 72 = .ok (.ireturn, 1) := by decide +kernel
theorem dX7_groupOf_73 : decode cX7_groupOf 73 = .ok (.aload_n 0, 1) := by decide +kernel
theorem dX7_groupOf_74 : decode cX7_groupOf 74 = .ok (.getfield 38, 3) := by decide +kernel
theorem dX7_groupOf_77 : decode cX7_groupOf 77 = .ok (.iload_n 1, 1) := by decide +kernel
theorem dX7_groupOf_78 : decode cX7_groupOf 78 = .ok (.iaload, 1) := by decide +kernel
theorem dX7_groupOf_79 : decode cX7_groupOf 79 = .ok (.ireturn, 1) := by decide +kernel
theorem dX7_groupOf_80 : decode cX7_groupOf 80 = .ok (.aload_n 0, 1) := by decide +kernel
theorem dX7_groupOf_81 : decode cX7_groupOf 81 = .ok (.getfield 41, 3) := by decide +kernel
theorem dX7_groupOf_84 : decode cX7_groupOf 84 = .ok (.iload_n 1, 1) := by decide +kernel
theorem dX7_groupOf_85 : decode cX7_groupOf 85 = .ok (.iaload, 1) := by decide +kernel
theorem dX7_groupOf_86 : decode cX7_groupOf 86 = .ok (.ireturn, 1) := by decide +kernel
theorem dX7_groupOf_87 : decode cX7_groupOf 87 = .ok (.aload_n 0, 1) := by decide +kernel
theorem dX7_groupOf_88 : decode cX7_groupOf 88 = .ok (.bipush (-5), 2) := by decide +kernel
theorem dX7_groupOf_90 : decode cX7_groupOf 90 = .ok (.invokevirtual 81, 3) := by decide +kernel
theorem dX7_groupOf_93 : decode cX7_groupOf 93 = .ok (.ireturn, 1) := by decide +kernel
theorem dX7_bears_0 : decode cX7_bears 0 = .ok (.aload_n 0, 1) := by decide +kernel
theorem dX7_bears_1 : decode cX7_bears 1 = .ok (.iload_n 1, 1) := by decide +kernel
theorem dX7_bears_2 : decode cX7_bears 2 = .ok (.invokevirtual 102, 3) := by decide +kernel
theorem dX7_bears_5 : decode cX7_bears 5 = .ok (.ifCond .eq 11, 3) := by decide +kernel
theorem dX7_bears_8 : decode cX7_bears 8 = .ok (.aload_n 0, 1) := by decide +kernel
theorem dX7_bears_9 : decode cX7_bears 9 = .ok (.iload_n 2, 1) := by decide +kernel
theorem dX7_bears_10 : decode cX7_bears 10 = .ok (.invokevirtual 102, 3) := by decide +kernel
theorem dX7_bears_13 : decode cX7_bears 13 = .ok (.ifCond .ne 9, 3) := by decide +kernel
theorem dX7_bears_16 : decode cX7_bears 16 = .ok (.aload_n 0, 1) := by decide +kernel
theorem dX7_bears_17 : decode cX7_bears 17 = .ok (.iconst (-1), 1) := by decide +kernel
theorem dX7_bears_18 : decode cX7_bears 18 = .ok (.invokevirtual 127, 3) := by decide +kernel
theorem dX7_bears_21 : decode cX7_bears 21 = .ok (.ireturn, 1) := by decide +kernel
theorem dX7_bears_22 : decode cX7_bears 22 = .ok (.iload_n 1, 1) := by decide +kernel
theorem dX7_bears_23 : decode cX7_bears 23 = .ok (.iload_n 2, 1) := by decide +kernel
theorem dX7_bears_24 : decode cX7_bears 24 = .ok (.if_icmp .eq 14, 3) := by decide +kernel
theorem dX7_bears_27 : decode cX7_bears 27 = .ok (.iload_n 3, 1) := by decide +kernel
theorem dX7_bears_28 : decode cX7_bears 28 = .ok (.bipush (-9), 2) := by decide +kernel
theorem dX7_bears_30 : decode cX7_bears 30 = .ok (.bipush 9, 2) := by decide +kernel
theorem dX7_bears_32 : decode cX7_bears 32 = .ok (.invokestatic 88, 3) := by decide +kernel
theorem dX7_bears_35 : decode cX7_bears 35 = .ok (.ifCond .ne 10, 3) := by decide +kernel
theorem dX7_bears_38 : decode cX7_bears 38 = .ok (.aload_n 0, 1) := by decide +kernel
theorem dX7_bears_39 : decode cX7_bears 39 = .ok (.bipush (-6), 2) := by decide +kernel
theorem dX7_bears_41 : decode cX7_bears 41 = .ok (.invokevirtual 127, 3) := by decide +kernel
theorem dX7_bears_44 : decode cX7_bears 44 = .ok (.ireturn, 1) := by decide +kernel
theorem dX7_bears_45 : decode cX7_bears 45 = .ok (.aload_n 0, 1) := by decide +kernel
theorem dX7_bears_46 : decode cX7_bears 46 = .ok (.getfield 26, 3) := by decide +kernel
theorem dX7_bears_49 : decode cX7_bears 49 = .ok (.bipush 8, 2) := by decide +kernel
theorem dX7_bears_51 : decode cX7_bears 51 = .ok (.iload_n 1, 1) := by decide +kernel
theorem dX7_bears_52 : decode cX7_bears 52 = .ok (.imul, 1) := by decide +kernel
theorem dX7_bears_53 : decode cX7_bears 53 = .ok (.iload_n 2, 1) := by decide +kernel
theorem dX7_bears_54 : decode cX7_bears 54 = .ok (.iadd, 1) := by decide +kernel
theorem dX7_bears_55 : decode cX7_bears 55 = .ok (.iaload, 1) := by decide +kernel
theorem dX7_bears_56 : decode cX7_bears 56 = .ok (.istore 4, 2) := by decide +kernel
theorem dX7_bears_58 : decode cX7_bears 58 = .ok (.aload_n 0, 1) := by decide +kernel
theorem dX7_bears_59 : decode cX7_bears 59 = .ok (.getfield 26, 3) := by decide +kernel
theorem dX7_bears_62 : decode cX7_bears 62 = .ok (.bipush 8, 2) := by decide +kernel
theorem dX7_bears_64 : decode cX7_bears 64 = .ok (.iload_n 1, 1) := by decide +kernel
theorem dX7_bears_65 : decode cX7_bears 65 = .ok (.imul, 1) := by decide +kernel
theorem dX7_bears_66 : decode cX7_bears 66 = .ok (.iload_n 2, 1) := by decide +kernel
theorem dX7_bears_67 : decode cX7_bears 67 = .ok (.iadd, 1) := by decide +kernel
theorem dX7_bears_68 : decode cX7_bears 68 = .ok (.iload_n 3, 1) := by decide +kernel
theorem dX7_bears_69 : decode cX7_bears 69 = .ok (.iastore, 1) := by decide +kernel
theorem dX7_bears_70 : decode cX7_bears 70 = .ok (.iload 4, 2) := by decide +kernel
theorem dX7_bears_72 : decode cX7_bears 72 = .ok (.ireturn, 1) := by decide +kernel
theorem dX7_ask_0 : decode cX7_ask 0 = .ok (.iload_n 1, 1) := by decide +kernel
theorem dX7_ask_1 : decode cX7_ask 1 = .ok (.iconst 0, 1) := by decide +kernel
theorem dX7_ask_2 : decode cX7_ask 2 = .ok (.iconst 1, 1) := by decide +kernel
theorem dX7_ask_3 : decode cX7_ask 3 = .ok (.invokestatic 88, 3) := by decide +kernel
theorem dX7_ask_6 : decode cX7_ask 6 = .ok (.ifCond .eq 22, 3) := by decide +kernel
theorem dX7_ask_9 : decode cX7_ask 9 = .ok (.iload_n 2, 1) := by decide +kernel
end
section
theorem dX7_ask_10 : decode cX7_ask 10 = .ok (.iconst 0, 1) := by decide +kernel
theorem dX7_ask_11 : decode cX7_ask 11 = .ok (.iload_n 1, 1) := by decide +kernel
theorem dX7_ask_12 : decode cX7_ask 12 = .ok (.ifCond .ne 8, 3) := by decide +kernel
theorem dX7_ask_15 : decode cX7_ask 15 = .ok (.bipush 99, 2) := by decide +kernel
theorem dX7_ask_17 : decode cX7_ask 17 = .ok (.goto 5, 3) := by decide +kernel
theorem dX7_ask_20 : decode cX7_ask 20 = .ok (.bipush 7, 2) := by decide +kernel
theorem dX7_ask_22 : decode cX7_ask 22 = .ok (.invokestatic 88, 3) := by decide +kernel
theorem dX7_ask_25 : decode cX7_ask 25 = .ok (.ifCond .ne 10, 3) := by decide +kernel
theorem dX7_ask_28 : decode cX7_ask 28 = .ok (.aload_n 0, 1) := by decide +kernel
theorem dX7_ask_29 : decode cX7_ask 29 = .ok (.bipush (-6), 2) := by decide +kernel
theorem dX7_ask_31 : decode cX7_ask 31 = .ok (.invokevirtual 81, 3) := by decide +kernel
theorem dX7_ask_34 : decode cX7_ask 34 = .ok (.ireturn, 1) := by decide +kernel
theorem dX7_ask_35 : decode cX7_ask 35 = .ok (.iload_n 1, 1) := by decide +kernel
theorem dX7_ask_36 : decode cX7_ask 36 = .ok (.ifCond .ne 10, 3) := by decide +kernel
theorem dX7_ask_39 : decode cX7_ask 39 = .ok (.aload_n 0, 1) := by decide +kernel
theorem dX7_ask_40 : decode cX7_ask 40 = .ok (.getfield 71, 3) := by decide +kernel
theorem dX7_ask_43 : decode cX7_ask 43 = .ok (.goto 7, 3) := by decide +kernel
theorem dX7_ask_46 : decode cX7_ask 46 = .ok (.aload_n 0, 1) := by decide +kernel
theorem dX7_ask_47 : decode cX7_ask 47 = .ok (.getfield 139, 3) := by decide +kernel
theorem dX7_ask_50 : decode cX7_ask 50 = .ok (.istore_n 3, 1) := by decide +kernel
theorem dX7_ask_51 : decode cX7_ask 51 = .ok (.iload_n 1, 1) := by decide +kernel
theorem dX7_ask_52 : decode cX7_ask 52 = .ok (.ifCond .ne 11, 3) := by decide +kernel
theorem dX7_ask_55 : decode cX7_ask 55 = .ok (.aload_n 0, 1) := by decide +kernel
theorem dX7_ask_56 : decode cX7_ask 56 = .ok (.iload_n 2, 1) := by decide +kernel
theorem dX7_ask_57 : decode cX7_ask 57 = .ok (.putfield 71, 3) := by decide +kernel
theorem dX7_ask_60 : decode cX7_ask 60 = .ok (.goto 8, 3) := by decide +kernel
theorem dX7_ask_63 : decode cX7_ask 63 = .ok (.aload_n 0, 1) := by decide +kernel
theorem dX7_ask_64 : decode cX7_ask 64 = .ok (.iload_n 2, 1) := by decide +kernel
theorem dX7_ask_65 : decode cX7_ask 65 = .ok (.putfield 139, 3) := by decide +kernel
theorem dX7_ask_68 : decode cX7_ask 68 = .ok (.iload_n 3, 1) := by decide +kernel
theorem dX7_ask_69 : decode cX7_ask 69 = .ok (.ireturn, 1) := by decide +kernel
theorem dX7_sign_0 : decode cX7_sign 0 = .ok (.aload_n 0, 1) := by decide +kernel
theorem dX7_sign_1 : decode cX7_sign 1 = .ok (.getfield 142, 3) := by decide +kernel
theorem dX7_sign_4 : decode cX7_sign 4 = .ok (.aload_n 0, 1) := by decide +kernel
theorem dX7_sign_5 : decode cX7_sign 5 = .ok (.getfield 13, 3) := by decide +kernel
theorem dX7_sign_8 : decode cX7_sign 8 = .ok (.aload_n 0, 1) := by decide +kernel
theorem dX7_sign_9 : decode cX7_sign 9 = .ok (.getfield 145, 3) := by decide +kernel
theorem dX7_sign_12 : decode cX7_sign 12 = .ok (.iaload, 1) := by decide +kernel
theorem dX7_sign_13 : decode cX7_sign 13 = .ok (.if_icmp .ge 25, 3) := by decide +kernel
theorem dX7_sign_16 : decode cX7_sign 16 = .ok (.aload_n 0, 1) := by decide +kernel
theorem dX7_sign_17 : decode cX7_sign 17 = .ok (.getfield 16, 3) := by decide +kernel
theorem dX7_sign_20 : decode cX7_sign 20 = .ok (.sipush 160, 3) := by decide +kernel
theorem dX7_sign_23 : decode cX7_sign 23 = .ok (.aload_n 0, 1) := by decide +kernel
theorem dX7_sign_24 : decode cX7_sign 24 = .ok (.getfield 145, 3) := by decide +kernel
theorem dX7_sign_27 : decode cX7_sign 27 = .ok (.imul, 1) := by decide +kernel
theorem dX7_sign_28 : decode cX7_sign 28 = .ok (.aload_n 0, 1) := by decide +kernel
theorem dX7_sign_29 : decode cX7_sign 29 = .ok (.getfield 142, 3) := by decide +kernel
theorem dX7_sign_32 : decode cX7_sign 32 = .ok (.iadd, 1) := by decide +kernel
theorem dX7_sign_33 : decode cX7_sign 33 = .ok (.laload, 1) := by decide +kernel
theorem dX7_sign_34 : decode cX7_sign 34 = .ok (.l2i, 1) := by decide +kernel
theorem dX7_sign_35 : decode cX7_sign 35 = .ok (.goto 4, 3) := by decide +kernel
theorem dX7_sign_38 : decode cX7_sign 38 = .ok (.iconst (-1), 1) := by decide +kernel
theorem dX7_sign_39 : decode cX7_sign 39 = .ok (.ireturn, 1) := by decide +kernel
theorem dX7_is_0 : decode cX7_is 0 = .ok (.aload_n 0, 1) := by decide +kernel
theorem dX7_is_1 : decode cX7_is 1 = .ok (.invokevirtual 148, 3) := by decide +kernel
theorem dX7_is_4 : decode cX7_is 4 = .ok (.iload_n 1, 1) := by decide +kernel
theorem dX7_is_5 : decode cX7_is 5 = .ok (.if_icmp .eq 5, 3) := by decide +kernel
theorem dX7_is_8 : decode cX7_is 8 = .ok (.iconst 0, 1) := by decide +kernel
theorem dX7_is_9 : decode cX7_is 9 = .ok (.ireturn, 1) := by decide +kernel
theorem dX7_is_10 : decode cX7_is 10 = .ok (.aload_n 0, 1) := by decide +kernel
theorem dX7_is_11 : decode cX7_is 11 = .ok (.dup, 1) := by decide +kernel
theorem dX7_is_12 : decode cX7_is 12 = .ok (.getfield 142, 3) := by decide +kernel
theorem dX7_is_15 : decode cX7_is 15 = .ok (.iconst 1, 1) := by decide +kernel
theorem dX7_is_16 : decode cX7_is 16 = .ok (.iadd, 1) := by decide +kernel
theorem dX7_is_17 : decode cX7_is 17 = .ok (.putfield 142, 3) := by decide +kernel
theorem dX7_is_20 : decode cX7_is 20 = .ok (.iconst 1, 1) := by decide +kernel
theorem dX7_is_21 : decode cX7_is 21 = .ok (.ireturn, 1) := by decide +kernel
theorem dX7_word_0 : decode cX7_word 0 = .ok (.iconst 0, 1) := by decide +kernel
theorem dX7_word_1 : decode cX7_word 1 = .ok (.istore_n 2, 1) := by decide +kernel
theorem dX7_word_2 : decode cX7_word 2 = .ok (.iload_n 2, 1) := by decide +kernel
theorem dX7_word_3 : decode cX7_word 3 = .ok (.aload_n 1, 1) := by decide +kernel
theorem dX7_word_4 : decode cX7_word 4 = .ok (.invokevirtual 152, 3) := by decide +kernel
theorem dX7_word_7 : decode cX7_word 7 = .ok (.if_icmp .ge 23, 3) := by decide +kernel
theorem dX7_word_10 : decode cX7_word 10 = .ok (.aload_n 0, 1) := by decide +kernel
theorem dX7_word_11 : decode cX7_word 11 = .ok (.aload_n 1, 1) := by decide +kernel
theorem dX7_word_12 : decode cX7_word 12 = .ok (.iload_n 2, 1) := by decide +kernel
theorem dX7_word_13 : decode cX7_word 13 = .ok (.invokevirtual 157, 3) := by decide +kernel
theorem dX7_word_16 : decode cX7_word 16 = .ok (.invokevirtual 161, 3) := by decide +kernel
theorem dX7_word_19 : decode cX7_word 19 = .ok (.ifCond .ne 5, 3) := by decide +kernel
theorem dX7_word_22 : decode cX7_word 22 = .ok (.iconst 0, 1) := by decide +kernel
theorem dX7_word_23 : decode cX7_word 23 = .ok (.ireturn, 1) := by decide +kernel
theorem dX7_word_24 : decode cX7_word 24 = .ok (.iinc 2 1, 3) := by decide +kernel
theorem dX7_word_27 : decode cX7_word 27 = .ok (.goto (-25), 3) := by decide +kernel
theorem dX7_word_30 : decode cX7_word 30 = .ok (.iconst 1, 1) := by decide +kernel
theorem dX7_word_31 : decode cX7_word 31 = .ok (.ireturn, 1) := by decide +kernel
theorem dX7_word__0 : decode cX7_word_ 0 = .ok (.aload_n 0, 1) := by decide +kernel
theorem dX7_word__1 : decode cX7_word_ 1 = .ok (.getfield 142, 3) := by decide +kernel
theorem dX7_word__4 : decode cX7_word_ 4 = .ok (.istore_n 3, 1) := by decide +kernel
theorem dX7_word__5 : decode cX7_word_ 5 = .ok (.aload_n 0, 1) := by decide +kernel
theorem dX7_word__6 : decode cX7_word_ 6 = .ok (.aload_n 1, 1) := by decide +kernel
theorem dX7_word__7 : decode cX7_word_ 7 = .ok (.invokevirtual 165, 3) := by decide +kernel
theorem dX7_word__10 : decode cX7_word_ 10 = .ok (.istore 4, 2) := by decide +kernel
theorem dX7_word__12 : decode cX7_word_ 12 = .ok (.iload 4, 2) := by decide +kernel
theorem dX7_word__14 : decode cX7_word_ 14 = .ok (.ifCond .eq 12, 3) := by decide +kernel
theorem dX7_word__17 : decode cX7_word_ 17 = .ok (.iload_n 2, 1) := by decide +kernel
theorem dX7_word__18 : decode cX7_word_ 18 = .ok (.ifCond .ne 8, 3) := by decide +kernel
theorem dX7_word__21 : decode cX7_word_ 21 = .ok (.aload_n 0, 1) := by decide +kernel
theorem dX7_word__22 : decode cX7_word_ 22 = .ok (.iload_n 3, 1) := by decide +kernel
theorem dX7_word__23 : decode cX7_word_ 23 = .ok (.putfield 142, 3) := by decide +kernel
theorem dX7_word__26 : decode cX7_word_ 26 = .ok (.iload 4, 2) := by decide +kernel
theorem dX7_word__28 : decode cX7_word_ 28 = .ok (.ifCond .eq 11, 3) := by decide +kernel
theorem dX7_word__31 : decode cX7_word_ 31 = .ok (.iload_n 2, 1) := by decide +kernel
theorem dX7_word__32 : decode cX7_word_ 32 = .ok (.ifCond .eq 7, 3) := by decide +kernel
theorem dX7_word__35 : decode cX7_word_ 35 = .ok (.iconst 1, 1) := by decide +kernel
theorem dX7_word__36 : decode cX7_word_ 36 = .ok (.goto 4, 3) := by decide +kernel
theorem dX7_word__39 : decode cX7_word_ 39 = .ok (.iconst 0, 1) := by decide +kernel
theorem dX7_word__40 : decode cX7_word_ 40 = .ok (.ireturn, 1) := by decide +kernel
theorem dX7_number_0 : decode cX7_number 0 = .ok (.aload_n 0, 1) := by decide +kernel
theorem dX7_number_1 : decode cX7_number 1 = .ok (.bipush 32, 2) := by decide +kernel
theorem dX7_number_3 : decode cX7_number 3 = .ok (.invokevirtual 161, 3) := by decide +kernel
theorem dX7_number_6 : decode cX7_number 6 = .ok (.ifCond .ne 5, 3) := by decide +kernel
theorem dX7_number_9 : decode cX7_number 9 = .ok (.iconst 0, 1) := by decide +kernel
theorem dX7_number_10 : decode cX7_number 10 = .ok (.ireturn, 1) := by decide +kernel
theorem dX7_number_11 : decode cX7_number 11 = .ok (.aload_n 0, 1) := by decide +kernel
theorem dX7_number_12 : decode cX7_number 12 = .ok (.getfield 142, 3) := by decide +kernel
theorem dX7_number_15 : decode cX7_number 15 = .ok (.istore 4, 2) := by decide +kernel
theorem dX7_number_17 : decode cX7_number 17 = .ok (.iconst 0, 1) := by decide +kernel
theorem dX7_number_18 : decode cX7_number 18 = .ok (.istore 5, 2) := by decide +kernel
theorem dX7_number_20 : decode cX7_number 20 = .ok (.aload_n 0, 1) := by decide +kernel
theorem dX7_number_21 : decode cX7_number 21 = .ok (.getfield 142, 3) := by decide +kernel
theorem dX7_number_24 : decode cX7_number 24 = .ok (.iload 4, 2) := by decide +kernel
theorem dX7_number_26 : decode cX7_number 26 = .ok (.isub, 1) := by decide +kernel
theorem dX7_number_27 : decode cX7_number 27 = .ok (.iconst 3, 1) := by decide +kernel
theorem dX7_number_28 : decode cX7_number 28 = .ok (.if_icmp .ge 49, 3) := by decide +kernel
theorem dX7_number_31 : decode cX7_number 31 = .ok (.aload_n 0, 1) := by decide +kernel
theorem dX7_number_32 : decode cX7_number 32 = .ok (.invokevirtual 148, 3) := by decide +kernel
theorem dX7_number_35 : decode cX7_number 35 = .ok (.bipush 48, 2) := by decide +kernel
theorem dX7_number_37 : decode cX7_number 37 = .ok (.if_icmp .lt 40, 3) := by decide +kernel
theorem dX7_number_40 : decode cX7_number 40 = .ok (.aload_n 0, 1) := by decide +kernel
theorem dX7_number_41 : decode cX7_number 41 = .ok (.invokevirtual 148, 3) := by decide +kernel
theorem dX7_number_44 : decode cX7_number 44 = .ok (.bipush 57, 2) := by decide +kernel
theorem dX7_number_46 : decode cX7_number 46 = .ok (.if_icmp .gt 31, 3) := by decide +kernel
theorem dX7_number_49 : decode cX7_number 49 = .ok (.bipush 10, 2) := by decide +kernel
theorem dX7_number_51 : decode cX7_number 51 = .ok (.iload 5, 2) := by decide +kernel
theorem dX7_number_53 : decode cX7_number 53 = .ok (.imul, 1) := by decide +kernel
theorem dX7_number_54 : decode cX7_number 54 = .ok (.aload_n 0, 1) := by decide +kernel
theorem dX7_number_55 : decode cX7_number 55 = .ok (.invokevirtual 148, 3) := by decide +kernel
theorem dX7_number_58 : decode cX7_number 58 = .ok (.iadd, 1) := by decide +kernel
theorem dX7_number_59 : decode cX7_number 59 = .ok (.bipush 48, 2) := by decide +kernel
theorem dX7_number_61 : decode cX7_number 61 = .ok (.isub, 1) := by decide +kernel
theorem dX7_number_62 : decode cX7_number 62 = .ok (.istore 5, 2) := by decide +kernel
theorem dX7_number_64 : decode cX7_number 64 = .ok (.aload_n 0, 1) := by decide +kernel
theorem dX7_number_65 : decode cX7_number 65 = .ok (.dup, 1) := by decide +kernel
theorem dX7_number_66 : decode cX7_number 66 = .ok (.getfield 142, 3) := by decide +kernel
theorem dX7_number_69 : decode cX7_number 69 = .ok (.iconst 1, 1) := by decide +kernel
theorem dX7_number_70 : decode cX7_number 70 = .ok (.iadd, 1) := by decide +kernel
theorem dX7_number_71 : decode cX7_number 71 = .ok (.putfield 142, 3) := by decide +kernel
theorem dX7_number_74 : decode cX7_number 74 = .ok (.goto (-54), 3) := by decide +kernel
theorem dX7_number_77 : decode cX7_number 77 = .ok (.aload_n 0, 1) := by decide +kernel
theorem dX7_number_78 : decode cX7_number 78 = .ok (.getfield 142, 3) := by decide +kernel
theorem dX7_number_81 : decode cX7_number 81 = .ok (.iload 4, 2) := by decide +kernel
theorem dX7_number_83 : decode cX7_number 83 = .ok (.if_icmp .ne 5, 3) := by decide +kernel
theorem dX7_number_86 : decode cX7_number 86 = .ok (.iconst 0, 1) := by decide +kernel
theorem dX7_number_87 : decode cX7_number 87 = .ok (.ireturn, 1) := by decide +kernel
theorem dX7_number_88 : decode cX7_number 88 = .ok (.aload_n 0, 1) := by decide +kernel
theorem dX7_number_89 : decode cX7_number 89 = .ok (.getfield 56, 3) := by decide +kernel
theorem dX7_number_92 : decode cX7_number 92 = .ok (.iload_n 1, 1) := by decide +kernel
theorem dX7_number_93 : decode cX7_number 93 = .ok (.iload 5, 2) := by decide +kernel
theorem dX7_number_95 : decode cX7_number 95 = .ok (.iastore, 1) := by decide +kernel
theorem dX7_number_96 : decode cX7_number 96 = .ok (.iload 5, 2) := by decide +kernel
theorem dX7_number_98 : decode cX7_number 98 = .ok (.iload_n 2, 1) := by decide +kernel
theorem dX7_number_99 : decode cX7_number 99 = .ok (.iload_n 3, 1) := by decide +kernel
theorem dX7_number_100 : decode cX7_number 100 = .ok (.invokestatic 88, 3) := by decide +kernel
theorem dX7_number_103 : decode cX7_number 103 = .ok (.istore 6, 2) := by decide +kernel
theorem dX7_number_105 : decode cX7_number 105 = .ok (.iload 6, 2) := by decide +kernel
theorem dX7_number_107 : decode cX7_number 107 = .ok (.ifCond .ne 9, 3) := by decide +kernel
theorem dX7_number_110 : decode cX7_number 110 = .ok (.aload_n 0, 1) := by decide +kernel
theorem dX7_number_111 : decode cX7_number 111 = .ok (.iload 4, 2) := by decide +kernel
theorem dX7_number_113 : decode cX7_number 113 = .ok (.putfield 142, 3) := by decide +kernel
theorem dX7_number_116 : decode cX7_number 116 = .ok (.iload 6, 2) := by decide +kernel
theorem dX7_number_118 : decode cX7_number 118 = .ok (.ireturn, 1) := by decide +kernel
theorem dX7_stands_0 : decode cX7_stands 0 = .ok (.iload_n 2, 1) := by decide +kernel
theorem dX7_stands_1 : decode cX7_stands 1 = .ok (.ifCond .ne 8, 3) := by decide +kernel
theorem dX7_stands_4 : decode cX7_stands 4 = .ok (.aload_n 0, 1) := by decide +kernel
theorem dX7_stands_5 : decode cX7_stands 5 = .ok (.iload_n 1, 1) := by decide +kernel
theorem dX7_stands_6 : decode cX7_stands 6 = .ok (.putfield 142, 3) := by decide +kernel
theorem dX7_stands_9 : decode cX7_stands 9 = .ok (.iload_n 2, 1) := by decide +kernel
theorem dX7_stands_10 : decode cX7_stands 10 = .ok (.ireturn, 1) := by decide +kernel
theorem dX7_two_0 : decode cX7_two 0 = .ok (.aload_n 0, 1) := by decide +kernel
theorem dX7_two_1 : decode cX7_two 1 = .ok (.iconst 0, 1) := by decide +kernel
theorem dX7_two_2 : decode cX7_two 2 = .ok (.iconst 0, 1) := by decide +kernel
theorem dX7_two_3 : decode cX7_two 3 = .ok (.aload_n 0, 1) := by decide +kernel
theorem dX7_two_4 : decode cX7_two 4 = .ok (.getfield 85, 3) := by decide +kernel
theorem dX7_two_7 : decode cX7_two 7 = .ok (.iconst 1, 1) := by decide +kernel
theorem dX7_two_8 : decode cX7_two 8 = .ok (.isub, 1) := by decide +kernel
theorem dX7_two_9 : decode cX7_two 9 = .ok (.invokevirtual 169, 3) := by decide +kernel
theorem dX7_two_12 : decode cX7_two 12 = .ok (.ifCond .ne 5, 3) := by decide +kernel
theorem dX7_two_15 : decode cX7_two 15 = .ok (.iconst 0, 1) := by decide +kernel
theorem dX7_two_16 : decode cX7_two 16 = .ok (.ireturn, 1) := by decide +kernel
theorem dX7_two_17 : decode cX7_two 17 = .ok (.aload_n 0, 1) := by decide +kernel
theorem dX7_two_18 : decode cX7_two 18 = .ok (.getfield 142, 3) := by decide +kernel
theorem dX7_two_21 : decode cX7_two 21 = .ok (.iconst 1, 1) := by decide +kernel
theorem dX7_two_22 : decode cX7_two 22 = .ok (.iadd, 1) := by decide +kernel
theorem dX7_two_23 : decode cX7_two 23 = .ok (.istore_n 1, 1) := by decide +kernel
theorem dX7_two_24 : decode cX7_two 24 = .ok (.aload_n 0, 1) := by decide +kernel
theorem dX7_two_25 : decode cX7_two 25 = .ok (.iconst 1, 1) := by decide +kernel
theorem dX7_two_26 : decode cX7_two 26 = .ok (.iconst 0, 1) := by decide +kernel
theorem dX7_two_27 : decode cX7_two 27 = .ok (.aload_n 0, 1) := by decide +kernel
theorem dX7_two_28 : decode cX7_two 28 = .ok (.getfield 85, 3) := by decide +kernel
theorem dX7_two_31 : decode cX7_two 31 = .ok (.iconst 1, 1) := by decide +kernel
theorem dX7_two_32 : decode cX7_two 32 = .ok (.isub, 1) := by decide +kernel
theorem dX7_two_33 : decode cX7_two 33 = .ok (.invokevirtual 169, 3) := by decide +kernel
theorem dX7_two_36 : decode cX7_two 36 = .ok (.ifCond .eq 46, 3) := by decide +kernel
theorem dX7_two_39 : decode cX7_two 39 = .ok (.aload_n 0, 1) := by decide +kernel
theorem dX7_two_40 : decode cX7_two 40 = .ok (.iload_n 1, 1) := by decide +kernel
theorem dX7_two_41 : decode cX7_two 41 = .ok (.aload_n 0, 1) := by decide +kernel
theorem dX7_two_42 : decode cX7_two 42 = .ok (.getfield 56, 3) := by decide +kernel
theorem dX7_two_45 : decode cX7_two 45 = .ok (.iconst 0, 1) := by decide +kernel
theorem dX7_two_46 : decode cX7_two 46 = .ok (.iaload, 1) := by decide +kernel
theorem dX7_two_47 : decode cX7_two 47 = .ok (.aload_n 0, 1) := by decide +kernel
theorem dX7_two_48 : decode cX7_two 48 = .ok (.getfield 56, 3) := by decide +kernel
theorem dX7_two_51 : decode cX7_two 51 = .ok (.iconst 1, 1) := by decide +kernel
theorem dX7_two_52 : decode cX7_two 52 = .ok (.iaload, 1) := by decide +kernel
theorem dX7_two_53 : decode cX7_two 53 = .ok (.if_icmp .eq 7, 3) := by decide +kernel
theorem dX7_two_56 : decode cX7_two 56 = .ok (.iconst 1, 1) := by decide +kernel
theorem dX7_two_57 : decode cX7_two 57 = .ok (.goto 4, 3) := by decide +kernel
theorem dX7_two_60 : decode cX7_two 60 = .ok (.iconst 0, 1) := by decide +kernel
theorem dX7_two_61 : decode cX7_two 61 = .ok (.invokevirtual 172, 3) := by decide +kernel
theorem dX7_two_64 : decode cX7_two 64 = .ok (.ifCond .eq 18, 3) := by decide +kernel
theorem dX7_two_67 : decode cX7_two 67 = .ok (.aload_n 0, 1) := by decide +kernel
theorem dX7_two_68 : decode cX7_two 68 = .ok (.iconst 2, 1) := by decide +kernel
theorem dX7_two_69 : decode cX7_two 69 = .ok (.iconst 0, 1) := by decide +kernel
theorem dX7_two_70 : decode cX7_two 70 = .ok (.bipush 9, 2) := by decide +kernel
theorem dX7_two_72 : decode cX7_two 72 = .ok (.invokevirtual 169, 3) := by decide +kernel
theorem dX7_two_75 : decode cX7_two 75 = .ok (.ifCond .eq 7, 3) := by decide +kernel
theorem dX7_two_78 : decode cX7_two 78 = .ok (.iconst 1, 1) := by decide +kernel
theorem dX7_two_79 : decode cX7_two 79 = .ok (.goto 4, 3) := by decide +kernel
theorem dX7_two_82 : decode cX7_two 82 = .ok (.iconst 0, 1) := by decide +kernel
theorem dX7_two_83 : decode cX7_two 83 = .ok (.ireturn, 1) := by decide +kernel
theorem dX7_item_0 : decode cX7_item 0 = .ok (.aload_n 0, 1) := by decide +kernel
theorem dX7_item_1 : decode cX7_item 1 = .ok (.invokevirtual 148, 3) := by decide +kernel
theorem dX7_item_4 : decode cX7_item 4 = .ok (.tableswitch 430 97 113 #[314, 267, 430, 430, 430, 430, 84, 396, 430, 430, 430, 430, 430, 430, 430, 362, 201], 84) := by decide +kernel
theorem dX7_item_88 : decode cX7_item 88 = .ok (.aload_n 0, 1) := by decide +kernel
theorem dX7_item_89 : decode cX7_item 89 = .ok (.ldc 176, 2) := by decide +kernel
theorem dX7_item_91 : decode cX7_item 91 = .ok (.aload_n 0, 1) := by decide +kernel
theorem dX7_item_92 : decode cX7_item 92 = .ok (.getfield 92, 3) := by decide +kernel
theorem dX7_item_95 : decode cX7_item 95 = .ok (.bipush 10, 2) := by decide +kernel
theorem dX7_item_97 : decode cX7_item 97 = .ok (.if_icmp .ge 7, 3) := by decide +kernel
theorem dX7_item_100 : decode cX7_item 100 = .ok (.iconst 1, 1) := by decide +kernel
theorem dX7_item_101 : decode cX7_item 101 = .ok (.goto 4, 3) := by decide +kernel
theorem dX7_item_104 : decode cX7_item 104 = .ok (.iconst 0, 1) := by decide +kernel
theorem dX7_item_105 : decode cX7_item 105 = .ok (.invokevirtual 178, 3) := by decide +kernel
theorem dX7_item_108 : decode cX7_item 108 = .ok (.ifCond .eq 58, 3) := by decide +kernel
theorem dX7_item_111 : decode cX7_item 111 = .ok (.aload_n 0, 1) := by decide +kernel
theorem dX7_item_112 : decode cX7_item 112 = .ok (.iconst 0, 1) := by decide +kernel
theorem dX7_item_113 : decode cX7_item 113 = .ok (.iconst 1, 1) := by decide +kernel
theorem dX7_item_114 : decode cX7_item 114 = .ok (.sipush 999, 3) := by decide +kernel
theorem dX7_item_117 : decode cX7_item 117 = .ok (.invokevirtual 169, 3) := by decide +kernel
theorem dX7_item_120 : decode cX7_item 120 = .ok (.ifCond .eq 46, 3) := by decide +kernel
theorem dX7_item_123 : decode cX7_item 123 = .ok (.aload_n 0, 1) := by decide +kernel
theorem dX7_item_124 : decode cX7_item 124 = .ok (.iconst 1, 1) := by decide +kernel
theorem dX7_item_125 : decode cX7_item 125 = .ok (.iconst 0, 1) := by decide +kernel
theorem dX7_item_126 : decode cX7_item 126 = .ok (.iconst 2, 1) := by decide +kernel
theorem dX7_item_127 : decode cX7_item 127 = .ok (.invokevirtual 169, 3) := by decide +kernel
theorem dX7_item_130 : decode cX7_item 130 = .ok (.ifCond .eq 36, 3) := by decide +kernel
theorem dX7_item_133 : decode cX7_item 133 = .ok (.aload_n 0, 1) := by decide +kernel
theorem dX7_item_134 : decode cX7_item 134 = .ok (.iconst 2, 1) := by decide +kernel
theorem dX7_item_135 : decode cX7_item 135 = .ok (.iconst 0, 1) := by decide +kernel
theorem dX7_item_136 : decode cX7_item 136 = .ok (.bipush 10, 2) := by decide +kernel
theorem dX7_item_138 : decode cX7_item 138 = .ok (.invokevirtual 169, 3) := by decide +kernel
theorem dX7_item_141 : decode cX7_item 141 = .ok (.ifCond .eq 25, 3) := by decide +kernel
theorem dX7_item_144 : decode cX7_item 144 = .ok (.aload_n 0, 1) := by decide +kernel
theorem dX7_item_145 : decode cX7_item 145 = .ok (.iconst 3, 1) := by decide +kernel
theorem dX7_item_146 : decode cX7_item 146 = .ok (.iconst 0, 1) := by decide +kernel
theorem dX7_item_147 : decode cX7_item 147 = .ok (.bipush 10, 2) := by decide +kernel
theorem dX7_item_149 : decode cX7_item 149 = .ok (.invokevirtual 169, 3) := by decide +kernel
theorem dX7_item_152 : decode cX7_item 152 = .ok (.ifCond .eq 14, 3) := by decide +kernel
theorem dX7_item_155 : decode cX7_item 155 = .ok (.aload_n 0, 1) := by decide +kernel
theorem dX7_item_156 : decode cX7_item 156 = .ok (.iconst 4, 1) := by decide +kernel
theorem dX7_item_157 : decode cX7_item 157 = .ok (.iconst 0, 1) := by decide +kernel
theorem dX7_item_158 : decode cX7_item 158 = .ok (.bipush 10, 2) := by decide +kernel
theorem dX7_item_160 : decode cX7_item 160 = .ok (.invokevirtual 169, 3) := by decide +kernel
theorem dX7_item_163 : decode cX7_item 163 = .ok (.ifCond .ne 5, 3) := by decide +kernel
theorem dX7_item_166 : decode cX7_item 166 = .ok (.iconst 0, 1) := by decide +kernel
theorem dX7_item_167 : decode cX7_item 167 = .ok (.ireturn, 1) := by decide +kernel
theorem dX7_item_168 : decode cX7_item 168 = .ok (.aload_n 0, 1) := by decide +kernel
theorem dX7_item_169 : decode cX7_item 169 = .ok (.aload_n 0, 1) := by decide +kernel
theorem dX7_item_170 : decode cX7_item 170 = .ok (.getfield 56, 3) := by decide +kernel
theorem dX7_item_173 : decode cX7_item 173 = .ok (.iconst 0, 1) := by decide +kernel
theorem dX7_item_174 : decode cX7_item 174 = .ok (.iaload, 1) := by decide +kernel
theorem dX7_item_175 : decode cX7_item 175 = .ok (.aload_n 0, 1) := by decide +kernel
theorem dX7_item_176 : decode cX7_item 176 = .ok (.getfield 56, 3) := by decide +kernel
theorem dX7_item_179 : decode cX7_item 179 = .ok (.iconst 1, 1) := by decide +kernel
theorem dX7_item_180 : decode cX7_item 180 = .ok (.iaload, 1) := by decide +kernel
theorem dX7_item_181 : decode cX7_item 181 = .ok (.aload_n 0, 1) := by decide +kernel
theorem dX7_item_182 : decode cX7_item 182 = .ok (.getfield 56, 3) := by decide +kernel
theorem dX7_item_185 : decode cX7_item 185 = .ok (.iconst 2, 1) := by decide +kernel
theorem dX7_item_186 : decode cX7_item 186 = .ok (.iaload, 1) := by decide +kernel
theorem dX7_item_187 : decode cX7_item 187 = .ok (.aload_n 0, 1) := by decide +kernel
theorem dX7_item_188 : decode cX7_item 188 = .ok (.getfield 56, 3) := by decide +kernel
theorem dX7_item_191 : decode cX7_item 191 = .ok (.iconst 3, 1) := by decide +kernel
theorem dX7_item_192 : decode cX7_item 192 = .ok (.iaload, 1) := by decide +kernel
theorem dX7_item_193 : decode cX7_item 193 = .ok (.aload_n 0, 1) := by decide +kernel
theorem dX7_item_194 : decode cX7_item 194 = .ok (.getfield 56, 3) := by decide +kernel
theorem dX7_item_197 : decode cX7_item 197 = .ok (.iconst 4, 1) := by decide +kernel
theorem dX7_item_198 : decode cX7_item 198 = .ok (.iaload, 1) := by decide +kernel
theorem dX7_item_199 : decode cX7_item 199 = .ok (.invokevirtual 123, 3) := by decide +kernel
theorem dX7_item_202 : decode cX7_item 202 = .ok (.pop, 1) := by decide +kernel
theorem dX7_item_203 : decode cX7_item 203 = .ok (.iconst 1, 1) := by decide +kernel
theorem dX7_item_204 : decode cX7_item 204 = .ok (.ireturn, 1) := by decide +kernel
theorem dX7_item_205 : decode cX7_item 205 = .ok (.aload_n 0, 1) := by decide +kernel
theorem dX7_item_206 : decode cX7_item 206 = .ok (.ldc 181, 2) := by decide +kernel
theorem dX7_item_208 : decode cX7_item 208 = .ok (.aload_n 0, 1) := by decide +kernel
theorem dX7_item_209 : decode cX7_item 209 = .ok (.getfield 85, 3) := by decide +kernel
theorem dX7_item_212 : decode cX7_item 212 = .ok (.bipush 8, 2) := by decide +kernel
theorem dX7_item_214 : decode cX7_item 214 = .ok (.if_icmp .ge 7, 3) := by decide +kernel
theorem dX7_item_217 : decode cX7_item 217 = .ok (.iconst 1, 1) := by decide +kernel
theorem dX7_item_218 : decode cX7_item 218 = .ok (.goto 4, 3) := by decide +kernel
theorem dX7_item_221 : decode cX7_item 221 = .ok (.iconst 0, 1) := by decide +kernel
theorem dX7_item_222 : decode cX7_item 222 = .ok (.invokevirtual 178, 3) := by decide +kernel
theorem dX7_item_225 : decode cX7_item 225 = .ok (.ifCond .eq 25, 3) := by decide +kernel
theorem dX7_item_228 : decode cX7_item 228 = .ok (.aload_n 0, 1) := by decide +kernel
theorem dX7_item_229 : decode cX7_item 229 = .ok (.iconst 0, 1) := by decide +kernel
theorem dX7_item_230 : decode cX7_item 230 = .ok (.iconst 0, 1) := by decide +kernel
theorem dX7_item_231 : decode cX7_item 231 = .ok (.bipush 6, 2) := by decide +kernel
theorem dX7_item_233 : decode cX7_item 233 = .ok (.invokevirtual 169, 3) := by decide +kernel
theorem dX7_item_236 : decode cX7_item 236 = .ok (.ifCond .eq 14, 3) := by decide +kernel
theorem dX7_item_239 : decode cX7_item 239 = .ok (.aload_n 0, 1) := by decide +kernel
theorem dX7_item_240 : decode cX7_item 240 = .ok (.iconst 1, 1) := by decide +kernel
theorem dX7_item_241 : decode cX7_item 241 = .ok (.iconst 0, 1) := by decide +kernel
theorem dX7_item_242 : decode cX7_item 242 = .ok (.bipush 9, 2) := by decide +kernel
theorem dX7_item_244 : decode cX7_item 244 = .ok (.invokevirtual 169, 3) := by decide +kernel
theorem dX7_item_247 : decode cX7_item 247 = .ok (.ifCond .ne 5, 3) := by decide +kernel
theorem dX7_item_250 : decode cX7_item 250 = .ok (.iconst 0, 1) := by decide +kernel
theorem dX7_item_251 : decode cX7_item 251 = .ok (.ireturn, 1) := by decide +kernel
theorem dX7_item_252 : decode cX7_item 252 = .ok (.aload_n 0, 1) := by decide +kernel
theorem dX7_item_253 : decode cX7_item 253 = .ok (.aload_n 0, 1) := by decide +kernel
theorem dX7_item_254 : decode cX7_item 254 = .ok (.getfield 56, 3) := by decide +kernel
theorem dX7_item_257 : decode cX7_item 257 = .ok (.iconst 0, 1) := by decide +kernel
theorem dX7_item_258 : decode cX7_item 258 = .ok (.iaload, 1) := by decide +kernel
theorem dX7_item_259 : decode cX7_item 259 = .ok (.aload_n 0, 1) := by decide +kernel
theorem dX7_item_260 : decode cX7_item 260 = .ok (.getfield 56, 3) := by decide +kernel
theorem dX7_item_263 : decode cX7_item 263 = .ok (.iconst 1, 1) := by decide +kernel
theorem dX7_item_264 : decode cX7_item 264 = .ok (.iaload, 1) := by decide +kernel
theorem dX7_item_265 : decode cX7_item 265 = .ok (.invokevirtual 119, 3) := by decide +kernel
theorem dX7_item_268 : decode cX7_item 268 = .ok (.pop, 1) := by decide +kernel
theorem dX7_item_269 : decode cX7_item 269 = .ok (.iconst 1, 1) := by decide +kernel
theorem dX7_item_270 : decode cX7_item 270 = .ok (.ireturn, 1) := by decide +kernel
theorem dX7_item_271 : decode cX7_item 271 = .ok (.aload_n 0, 1) := by decide +kernel
theorem dX7_item_272 : decode cX7_item 272 = .ok (.ldc 183, 2) := by decide +kernel
theorem dX7_item_274 : decode cX7_item 274 = .ok (.invokevirtual 165, 3) := by decide +kernel
theorem dX7_item_277 : decode cX7_item 277 = .ok (.ifCond .eq 10, 3) := by decide +kernel
theorem dX7_item_280 : decode cX7_item 280 = .ok (.aload_n 0, 1) := by decide +kernel
theorem dX7_item_281 : decode cX7_item 281 = .ok (.invokevirtual 184, 3) := by decide +kernel
theorem dX7_item_284 : decode cX7_item 284 = .ok (.ifCond .ne 5, 3) := by decide +kernel
theorem dX7_item_287 : decode cX7_item 287 = .ok (.iconst 0, 1) := by decide +kernel
theorem dX7_item_288 : decode cX7_item 288 = .ok (.ireturn, 1) := by decide +kernel
theorem dX7_item_289 : decode cX7_item 289 = .ok (.aload_n 0, 1) := by decide +kernel
theorem dX7_item_290 : decode cX7_item 290 = .ok (.getfield 26, 3) := by decide +kernel
theorem dX7_item_293 : decode cX7_item 293 = .ok (.bipush 8, 2) := by decide +kernel
theorem dX7_item_295 : decode cX7_item 295 = .ok (.aload_n 0, 1) := by decide +kernel
theorem dX7_item_296 : decode cX7_item 296 = .ok (.getfield 56, 3) := by decide +kernel
theorem dX7_item_299 : decode cX7_item 299 = .ok (.iconst 0, 1) := by decide +kernel
theorem dX7_item_300 : decode cX7_item 300 = .ok (.iaload, 1) := by decide +kernel
theorem dX7_item_301 : decode cX7_item 301 = .ok (.imul, 1) := by decide +kernel
theorem dX7_item_302 : decode cX7_item 302 = .ok (.aload_n 0, 1) := by decide +kernel
theorem dX7_item_303 : decode cX7_item 303 = .ok (.getfield 56, 3) := by decide +kernel
theorem dX7_item_306 : decode cX7_item 306 = .ok (.iconst 1, 1) := by decide +kernel
theorem dX7_item_307 : decode cX7_item 307 = .ok (.iaload, 1) := by decide +kernel
theorem dX7_item_308 : decode cX7_item 308 = .ok (.iadd, 1) := by decide +kernel
theorem dX7_item_309 : decode cX7_item 309 = .ok (.aload_n 0, 1) := by decide +kernel
theorem dX7_item_310 : decode cX7_item 310 = .ok (.getfield 56, 3) := by decide +kernel
theorem dX7_item_313 : decode cX7_item 313 = .ok (.iconst 2, 1) := by decide +kernel
theorem dX7_item_314 : decode cX7_item 314 = .ok (.iaload, 1) := by decide +kernel
theorem dX7_item_315 : decode cX7_item 315 = .ok (.iastore, 1) := by decide +kernel
theorem dX7_item_316 : decode cX7_item 316 = .ok (.iconst 1, 1) := by decide +kernel
theorem dX7_item_317 : decode cX7_item 317 = .ok (.ireturn, 1) := by decide +kernel
theorem dX7_item_318 : decode cX7_item 318 = .ok (.aload_n 0, 1) := by decide +kernel
theorem dX7_item_319 : decode cX7_item 319 = .ok (.ldc 188, 2) := by decide +kernel
theorem dX7_item_321 : decode cX7_item 321 = .ok (.invokevirtual 165, 3) := by decide +kernel
theorem dX7_item_324 : decode cX7_item 324 = .ok (.ifCond .eq 10, 3) := by decide +kernel
theorem dX7_item_327 : decode cX7_item 327 = .ok (.aload_n 0, 1) := by decide +kernel
theorem dX7_item_328 : decode cX7_item 328 = .ok (.invokevirtual 184, 3) := by decide +kernel
theorem dX7_item_331 : decode cX7_item 331 = .ok (.ifCond .ne 5, 3) := by decide +kernel
theorem dX7_item_334 : decode cX7_item 334 = .ok (.iconst 0, 1) := by decide +kernel
theorem dX7_item_335 : decode cX7_item 335 = .ok (.ireturn, 1) := by decide +kernel
theorem dX7_item_336 : decode cX7_item 336 = .ok (.aload_n 0, 1) := by decide +kernel
theorem dX7_item_337 : decode cX7_item 337 = .ok (.getfield 26, 3) := by decide +kernel
theorem dX7_item_340 : decode cX7_item 340 = .ok (.bipush 8, 2) := by decide +kernel
theorem dX7_item_342 : decode cX7_item 342 = .ok (.aload_n 0, 1) := by decide +kernel
theorem dX7_item_343 : decode cX7_item 343 = .ok (.getfield 56, 3) := by decide +kernel
theorem dX7_item_346 : decode cX7_item 346 = .ok (.iconst 0, 1) := by decide +kernel
theorem dX7_item_347 : decode cX7_item 347 = .ok (.iaload, 1) := by decide +kernel
theorem dX7_item_348 : decode cX7_item 348 = .ok (.imul, 1) := by decide +kernel
theorem dX7_item_349 : decode cX7_item 349 = .ok (.aload_n 0, 1) := by decide +kernel
theorem dX7_item_350 : decode cX7_item 350 = .ok (.getfield 56, 3) := by decide +kernel
theorem dX7_item_353 : decode cX7_item 353 = .ok (.iconst 1, 1) := by decide +kernel
theorem dX7_item_354 : decode cX7_item 354 = .ok (.iaload, 1) := by decide +kernel
theorem dX7_item_355 : decode cX7_item 355 = .ok (.iadd, 1) := by decide +kernel
theorem dX7_item_356 : decode cX7_item 356 = .ok (.aload_n 0, 1) := by decide +kernel
theorem dX7_item_357 : decode cX7_item 357 = .ok (.getfield 56, 3) := by decide +kernel
theorem dX7_item_360 : decode cX7_item 360 = .ok (.iconst 2, 1) := by decide +kernel
theorem dX7_item_361 : decode cX7_item 361 = .ok (.iaload, 1) := by decide +kernel
theorem dX7_item_362 : decode cX7_item 362 = .ok (.ineg, 1) := by decide +kernel
theorem dX7_item_363 : decode cX7_item 363 = .ok (.iastore, 1) := by decide +kernel
theorem dX7_item_364 : decode cX7_item 364 = .ok (.iconst 1, 1) := by decide +kernel
theorem dX7_item_365 : decode cX7_item 365 = .ok (.ireturn, 1) := by decide +kernel
theorem dX7_item_366 : decode cX7_item 366 = .ok (.aload_n 0, 1) := by decide +kernel
theorem dX7_item_367 : decode cX7_item 367 = .ok (.ldc 190, 2) := by decide +kernel
theorem dX7_item_369 : decode cX7_item 369 = .ok (.invokevirtual 165, 3) := by decide +kernel
theorem dX7_item_372 : decode cX7_item 372 = .ok (.ifCond .eq 14, 3) := by decide +kernel
theorem dX7_item_375 : decode cX7_item 375 = .ok (.aload_n 0, 1) := by decide +kernel
theorem dX7_item_376 : decode cX7_item 376 = .ok (.iconst 0, 1) := by decide +kernel
theorem dX7_item_377 : decode cX7_item 377 = .ok (.iconst 0, 1) := by decide +kernel
theorem dX7_item_378 : decode cX7_item 378 = .ok (.bipush 99, 2) := by decide +kernel
theorem dX7_item_380 : decode cX7_item 380 = .ok (.invokevirtual 169, 3) := by decide +kernel
theorem dX7_item_383 : decode cX7_item 383 = .ok (.ifCond .ne 5, 3) := by decide +kernel
theorem dX7_item_386 : decode cX7_item 386 = .ok (.iconst 0, 1) := by decide +kernel
theorem dX7_item_387 : decode cX7_item 387 = .ok (.ireturn, 1) := by decide +kernel
theorem dX7_item_388 : decode cX7_item 388 = .ok (.aload_n 0, 1) := by decide +kernel
theorem dX7_item_389 : decode cX7_item 389 = .ok (.aload_n 0, 1) := by decide +kernel
theorem dX7_item_390 : decode cX7_item 390 = .ok (.getfield 56, 3) := by decide +kernel
theorem dX7_item_393 : decode cX7_item 393 = .ok (.iconst 0, 1) := by decide +kernel
theorem dX7_item_394 : decode cX7_item 394 = .ok (.iaload, 1) := by decide +kernel
theorem dX7_item_395 : decode cX7_item 395 = .ok (.putfield 71, 3) := by decide +kernel
theorem dX7_item_398 : decode cX7_item 398 = .ok (.iconst 1, 1) := by decide +kernel
theorem dX7_item_399 : decode cX7_item 399 = .ok (.ireturn, 1) := by decide +kernel
theorem dX7_item_400 : decode cX7_item 400 = .ok (.aload_n 0, 1) := by decide +kernel
theorem dX7_item_401 : decode cX7_item 401 = .ok (.ldc 191, 2) := by decide +kernel
theorem dX7_item_403 : decode cX7_item 403 = .ok (.invokevirtual 165, 3) := by decide +kernel
theorem dX7_item_406 : decode cX7_item 406 = .ok (.ifCond .eq 14, 3) := by decide +kernel
theorem dX7_item_409 : decode cX7_item 409 = .ok (.aload_n 0, 1) := by decide +kernel
theorem dX7_item_410 : decode cX7_item 410 = .ok (.iconst 0, 1) := by decide +kernel
theorem dX7_item_411 : decode cX7_item 411 = .ok (.iconst 0, 1) := by decide +kernel
theorem dX7_item_412 : decode cX7_item 412 = .ok (.bipush 7, 2) := by decide +kernel
theorem dX7_item_414 : decode cX7_item 414 = .ok (.invokevirtual 169, 3) := by decide +kernel
theorem dX7_item_417 : decode cX7_item 417 = .ok (.ifCond .ne 5, 3) := by decide +kernel
theorem dX7_item_420 : decode cX7_item 420 = .ok (.iconst 0, 1) := by decide +kernel
theorem dX7_item_421 : decode cX7_item 421 = .ok (.ireturn, 1) := by decide +kernel
theorem dX7_item_422 : decode cX7_item 422 = .ok (.aload_n 0, 1) := by decide +kernel
theorem dX7_item_423 : decode cX7_item 423 = .ok (.aload_n 0, 1) := by decide +kernel
theorem dX7_item_424 : decode cX7_item 424 = .ok (.getfield 56, 3) := by decide +kernel
theorem dX7_item_427 : decode cX7_item 427 = .ok (.iconst 0, 1) := by decide +kernel
theorem dX7_item_428 : decode cX7_item 428 = .ok (.iaload, 1) := by decide +kernel
theorem dX7_item_429 : decode cX7_item 429 = .ok (.putfield 139, 3) := by decide +kernel
theorem dX7_item_432 : decode cX7_item 432 = .ok (.iconst 1, 1) := by decide +kernel
theorem dX7_item_433 : decode cX7_item 433 = .ok (.ireturn, 1) := by decide +kernel
theorem dX7_item_434 : decode cX7_item 434 = .ok (.iconst 0, 1) := by decide +kernel
theorem dX7_item_435 : decode cX7_item 435 = .ok (.ireturn, 1) := by decide +kernel
theorem dX7_town_0 : decode cX7_town 0 = .ok (.aload_n 0, 1) := by decide +kernel
theorem dX7_town_1 : decode cX7_town 1 = .ok (.iload_n 1, 1) := by decide +kernel
theorem dX7_town_2 : decode cX7_town 2 = .ok (.invokevirtual 99, 3) := by decide +kernel
theorem dX7_town_5 : decode cX7_town 5 = .ok (.istore_n 2, 1) := by decide +kernel
theorem dX7_town_6 : decode cX7_town 6 = .ok (.iload_n 2, 1) := by decide +kernel
theorem dX7_town_7 : decode cX7_town 7 = .ok (.ifCond .ge 9, 3) := by decide +kernel
theorem dX7_town_10 : decode cX7_town 10 = .ok (.aload_n 0, 1) := by decide +kernel
theorem dX7_town_11 : decode cX7_town 11 = .ok (.iload_n 2, 1) := by decide +kernel
theorem dX7_town_12 : decode cX7_town 12 = .ok (.invokevirtual 81, 3) := by decide +kernel
theorem dX7_town_15 : decode cX7_town 15 = .ok (.ireturn, 1) := by decide +kernel
theorem dX7_town_16 : decode cX7_town 16 = .ok (.aload_n 0, 1) := by decide +kernel
theorem dX7_town_17 : decode cX7_town 17 = .ok (.aload_n 0, 1) := by decide +kernel
theorem dX7_town_18 : decode cX7_town 18 = .ok (.getfield 53, 3) := by decide +kernel
theorem dX7_town_21 : decode cX7_town 21 = .ok (.invokevirtual 192, 3) := by decide +kernel
theorem dX7_town_24 : decode cX7_town 24 = .ok (.aload_n 0, 1) := by decide +kernel
theorem dX7_town_25 : decode cX7_town 25 = .ok (.iload_n 1, 1) := by decide +kernel
theorem dX7_town_26 : decode cX7_town 26 = .ok (.putfield 145, 3) := by decide +kernel
theorem dX7_town_29 : decode cX7_town 29 = .ok (.aload_n 0, 1) := by decide +kernel
theorem dX7_town_30 : decode cX7_town 30 = .ok (.iconst 0, 1) := by decide +kernel
theorem dX7_town_31 : decode cX7_town 31 = .ok (.putfield 142, 3) := by decide +kernel
theorem dX7_town_34 : decode cX7_town 34 = .ok (.iconst 0, 1) := by decide +kernel
theorem dX7_town_35 : decode cX7_town 35 = .ok (.istore_n 3, 1) := by decide +kernel
theorem dX7_town_36 : decode cX7_town 36 = .ok (.iconst 1, 1) := by decide +kernel
theorem dX7_town_37 : decode cX7_town 37 = .ok (.istore 4, 2) := by decide +kernel
theorem dX7_town_39 : decode cX7_town 39 = .ok (.iload 4, 2) := by decide +kernel
theorem dX7_town_41 : decode cX7_town 41 = .ok (.ifCond .eq 58, 3) := by decide +kernel
theorem dX7_town_44 : decode cX7_town 44 = .ok (.aload_n 0, 1) := by decide +kernel
theorem dX7_town_45 : decode cX7_town 45 = .ok (.invokevirtual 196, 3) := by decide +kernel
theorem dX7_town_48 : decode cX7_town 48 = .ok (.istore 4, 2) := by decide +kernel
theorem dX7_town_50 : decode cX7_town 50 = .ok (.iload 4, 2) := by decide +kernel
theorem dX7_town_52 : decode cX7_town 52 = .ok (.ifCond .eq 6, 3) := by decide +kernel
theorem dX7_town_55 : decode cX7_town 55 = .ok (.iinc 3 1, 3) := by decide +kernel
theorem dX7_town_58 : decode cX7_town 58 = .ok (.iload 4, 2) := by decide +kernel
theorem dX7_town_60 : decode cX7_town 60 = .ok (.ifCond .eq 23, 3) := by decide +kernel
theorem dX7_town_63 : decode cX7_town 63 = .ok (.aload_n 0, 1) := by decide +kernel
theorem dX7_town_64 : decode cX7_town 64 = .ok (.getfield 142, 3) := by decide +kernel
theorem dX7_town_67 : decode cX7_town 67 = .ok (.aload_n 0, 1) := by decide +kernel
theorem dX7_town_68 : decode cX7_town 68 = .ok (.getfield 13, 3) := by decide +kernel
theorem dX7_town_71 : decode cX7_town 71 = .ok (.iload_n 1, 1) := by decide +kernel
theorem dX7_town_72 : decode cX7_town 72 = .ok (.iaload, 1) := by decide +kernel
theorem dX7_town_73 : decode cX7_town 73 = .ok (.if_icmp .ne 10, 3) := by decide +kernel
theorem dX7_town_76 : decode cX7_town 76 = .ok (.aload_n 0, 1) := by decide +kernel
theorem dX7_town_77 : decode cX7_town 77 = .ok (.iconst (-1), 1) := by decide +kernel
theorem dX7_town_78 : decode cX7_town 78 = .ok (.putfield 78, 3) := by decide +kernel
theorem dX7_town_81 : decode cX7_town 81 = .ok (.iload_n 3, 1) := by decide +kernel
theorem dX7_town_82 : decode cX7_town 82 = .ok (.ireturn, 1) := by decide +kernel
theorem dX7_town_83 : decode cX7_town 83 = .ok (.iload 4, 2) := by decide +kernel
theorem dX7_town_85 : decode cX7_town 85 = .ok (.ifCond .eq (-46), 3) := by decide +kernel
theorem dX7_town_88 : decode cX7_town 88 = .ok (.aload_n 0, 1) := by decide +kernel
theorem dX7_town_89 : decode cX7_town 89 = .ok (.bipush 59, 2) := by decide +kernel
theorem dX7_town_91 : decode cX7_town 91 = .ok (.invokevirtual 161, 3) := by decide +kernel
theorem dX7_town_94 : decode cX7_town 94 = .ok (.istore 4, 2) := by decide +kernel
theorem dX7_town_96 : decode cX7_town 96 = .ok (.goto (-57), 3) := by decide +kernel
theorem dX7_town_99 : decode cX7_town 99 = .ok (.aload_n 0, 1) := by decide +kernel
theorem dX7_town_100 : decode cX7_town 100 = .ok (.aload_n 0, 1) := by decide +kernel
theorem dX7_town_101 : decode cX7_town 101 = .ok (.getfield 142, 3) := by decide +kernel
theorem dX7_town_104 : decode cX7_town 104 = .ok (.putfield 78, 3) := by decide +kernel
theorem dX7_town_107 : decode cX7_town 107 = .ok (.aload_n 0, 1) := by decide +kernel
theorem dX7_town_108 : decode cX7_town 108 = .ok (.aload_n 0, 1) := by decide +kernel
theorem dX7_town_109 : decode cX7_town 109 = .ok (.getfield 53, 3) := by decide +kernel
theorem dX7_town_112 : decode cX7_town 112 = .ok (.invokevirtual 199, 3) := by decide +kernel
theorem dX7_town_115 : decode cX7_town 115 = .ok (.aload_n 0, 1) := by decide +kernel
theorem dX7_town_116 : decode cX7_town 116 = .ok (.bipush (-6), 2) := by decide +kernel
theorem dX7_town_118 : decode cX7_town 118 = .ok (.invokevirtual 81, 3) := by decide +kernel
theorem dX7_town_121 : decode cX7_town 121 = .ok (.ireturn, 1) := by decide +kernel
theorem dX7_fault_0 : decode cX7_fault 0 = .ok (.aload_n 0, 1) := by decide +kernel
theorem dX7_fault_1 : decode cX7_fault 1 = .ok (.getfield 78, 3) := by decide +kernel
theorem dX7_fault_4 : decode cX7_fault 4 = .ok (.ireturn, 1) := by decide +kernel
theorem dX7_yesOf_0 : decode cX7_yesOf 0 = .ok (.aload_n 0, 1) := by decide +kernel
theorem dX7_yesOf_1 : decode cX7_yesOf 1 = .ok (.getfield 20, 3) := by decide +kernel
theorem dX7_yesOf_4 : decode cX7_yesOf 4 = .ok (.iload_n 1, 1) := by decide +kernel
theorem dX7_yesOf_5 : decode cX7_yesOf 5 = .ok (.iaload, 1) := by decide +kernel
theorem dX7_yesOf_6 : decode cX7_yesOf 6 = .ok (.istore 5, 2) := by decide +kernel
theorem dX7_yesOf_8 : decode cX7_yesOf 8 = .ok (.iload_n 2, 1) := by decide +kernel
theorem dX7_yesOf_9 : decode cX7_yesOf 9 = .ok (.ifCond .ne 8, 3) := by decide +kernel
theorem dX7_yesOf_12 : decode cX7_yesOf 12 = .ok (.iload 4, 2) := by decide +kernel
theorem dX7_yesOf_14 : decode cX7_yesOf 14 = .ok (.goto 16, 3) := by decide +kernel
theorem dX7_yesOf_17 : decode cX7_yesOf 17 = .ok (.iload_n 2, 1) := by decide +kernel
theorem dX7_yesOf_18 : decode cX7_yesOf 18 = .ok (.iconst 1, 1) := by decide +kernel
theorem dX7_yesOf_19 : decode cX7_yesOf 19 = .ok (.if_icmp .ne 7, 3) := by decide +kernel
theorem dX7_yesOf_22 : decode cX7_yesOf 22 = .ok (.iconst 0, 1) := by decide +kernel
theorem dX7_yesOf_23 : decode cX7_yesOf 23 = .ok (.goto 7, 3) := by decide +kernel
theorem dX7_yesOf_26 : decode cX7_yesOf 26 = .ok (.iload 4, 2) := by decide +kernel
theorem dX7_yesOf_28 : decode cX7_yesOf 28 = .ok (.iconst 2, 1) := by decide +kernel
theorem dX7_yesOf_29 : decode cX7_yesOf 29 = .ok (.idiv, 1) := by decide +kernel
theorem dX7_yesOf_30 : decode cX7_yesOf 30 = .ok (.istore 6, 2) := by decide +kernel
theorem dX7_yesOf_32 : decode cX7_yesOf 32 = .ok (.iload_n 2, 1) := by decide +kernel
theorem dX7_yesOf_33 : decode cX7_yesOf 33 = .ok (.iconst 1, 1) := by decide +kernel
theorem dX7_yesOf_34 : decode cX7_yesOf 34 = .ok (.if_icmp .ne 8, 3) := by decide +kernel
theorem dX7_yesOf_37 : decode cX7_yesOf 37 = .ok (.iload 4, 2) := by decide +kernel
theorem dX7_yesOf_39 : decode cX7_yesOf 39 = .ok (.goto 15, 3) := by decide +kernel
theorem dX7_yesOf_42 : decode cX7_yesOf 42 = .ok (.iload_n 2, 1) := by decide +kernel
theorem dX7_yesOf_43 : decode cX7_yesOf 43 = .ok (.ifCond .ne 7, 3) := by decide +kernel
theorem dX7_yesOf_46 : decode cX7_yesOf 46 = .ok (.iconst 0, 1) := by decide +kernel
theorem dX7_yesOf_47 : decode cX7_yesOf 47 = .ok (.goto 7, 3) := by decide +kernel
theorem dX7_yesOf_50 : decode cX7_yesOf 50 = .ok (.iload 4, 2) := by decide +kernel
theorem dX7_yesOf_52 : decode cX7_yesOf 52 = .ok (.iconst 2, 1) := by decide +kernel
theorem dX7_yesOf_53 : decode cX7_yesOf 53 = .ok (.idiv, 1) := by decide +kernel
theorem dX7_yesOf_54 : decode cX7_yesOf 54 = .ok (.istore 7, 2) := by decide +kernel
theorem dX7_yesOf_56 : decode cX7_yesOf 56 = .ok (.iload 5, 2) := by decide +kernel
theorem dX7_yesOf_58 : decode cX7_yesOf 58 = .ok (.tableswitch 131 1 6 #[38, 52, 55, 81, 97, 113], 38) := by decide +kernel
theorem dX7_yesOf_96 : decode cX7_yesOf 96 = .ok (.iload 6, 2) := by decide +kernel
theorem dX7_yesOf_98 : decode cX7_yesOf 98 = .ok (.iload 4, 2) := by decide +kernel
theorem dX7_yesOf_100 : decode cX7_yesOf 100 = .ok (.iload 6, 2) := by decide +kernel
theorem dX7_yesOf_102 : decode cX7_yesOf 102 = .ok (.isub, 1) := by decide +kernel
theorem dX7_yesOf_103 : decode cX7_yesOf 103 = .ok (.iload_n 3, 1) := by decide +kernel
theorem dX7_yesOf_104 : decode cX7_yesOf 104 = .ok (.imul, 1) := by decide +kernel
theorem dX7_yesOf_105 : decode cX7_yesOf 105 = .ok (.bipush 10, 2) := by decide +kernel
theorem dX7_yesOf_107 : decode cX7_yesOf 107 = .ok (.idiv, 1) := by decide +kernel
theorem dX7_yesOf_108 : decode cX7_yesOf 108 = .ok (.iadd, 1) := by decide +kernel
theorem dX7_yesOf_109 : decode cX7_yesOf 109 = .ok (.ireturn, 1) := by decide +kernel
theorem dX7_yesOf_110 : decode cX7_yesOf 110 = .ok (.iload 7, 2) := by decide +kernel
theorem dX7_yesOf_112 : decode cX7_yesOf 112 = .ok (.ireturn, 1) := by decide +kernel
theorem dX7_yesOf_113 : decode cX7_yesOf 113 = .ok (.iload 6, 2) := by decide +kernel
theorem dX7_yesOf_115 : decode cX7_yesOf 115 = .ok (.iload 4, 2) := by decide +kernel
theorem dX7_yesOf_117 : decode cX7_yesOf 117 = .ok (.iload 6, 2) := by decide +kernel
theorem dX7_yesOf_119 : decode cX7_yesOf 119 = .ok (.isub, 1) := by decide +kernel
theorem dX7_yesOf_120 : decode cX7_yesOf 120 = .ok (.bipush 10, 2) := by decide +kernel
theorem dX7_yesOf_122 : decode cX7_yesOf 122 = .ok (.iload_n 3, 1) := by decide +kernel
theorem dX7_yesOf_123 : decode cX7_yesOf 123 = .ok (.aload_n 0, 1) := by decide +kernel
theorem dX7_yesOf_124 : decode cX7_yesOf 124 = .ok (.getfield 23, 3) := by decide +kernel
theorem dX7_yesOf_127 : decode cX7_yesOf 127 = .ok (.iload_n 1, 1) := by decide +kernel
theorem dX7_yesOf_128 : decode cX7_yesOf 128 = .ok (.iaload, 1) := by decide +kernel
theorem dX7_yesOf_129 : decode cX7_yesOf 129 = .ok (.iadd, 1) := by decide +kernel
theorem dX7_yesOf_130 : decode cX7_yesOf 130 = .ok (.invokestatic 202, 3) := by decide +kernel
theorem dX7_yesOf_133 : decode cX7_yesOf 133 = .ok (.imul, 1) := by decide +kernel
theorem dX7_yesOf_134 : decode cX7_yesOf 134 = .ok (.bipush 10, 2) := by decide +kernel
theorem dX7_yesOf_136 : decode cX7_yesOf 136 = .ok (.idiv, 1) := by decide +kernel
theorem dX7_yesOf_137 : decode cX7_yesOf 137 = .ok (.iadd, 1) := by decide +kernel
theorem dX7_yesOf_138 : decode cX7_yesOf 138 = .ok (.ireturn, 1) := by decide +kernel
theorem dX7_yesOf_139 : decode cX7_yesOf 139 = .ok (.iload 6, 2) := by decide +kernel
theorem dX7_yesOf_141 : decode cX7_yesOf 141 = .ok (.bipush 10, 2) := by decide +kernel
theorem dX7_yesOf_143 : decode cX7_yesOf 143 = .ok (.aload_n 0, 1) := by decide +kernel
theorem dX7_yesOf_144 : decode cX7_yesOf 144 = .ok (.getfield 23, 3) := by decide +kernel
theorem dX7_yesOf_147 : decode cX7_yesOf 147 = .ok (.iload_n 1, 1) := by decide +kernel
theorem dX7_yesOf_148 : decode cX7_yesOf 148 = .ok (.iaload, 1) := by decide +kernel
theorem dX7_yesOf_149 : decode cX7_yesOf 149 = .ok (.isub, 1) := by decide +kernel
theorem dX7_yesOf_150 : decode cX7_yesOf 150 = .ok (.imul, 1) := by decide +kernel
theorem dX7_yesOf_151 : decode cX7_yesOf 151 = .ok (.bipush 10, 2) := by decide +kernel
theorem dX7_yesOf_153 : decode cX7_yesOf 153 = .ok (.idiv, 1) := by decide +kernel
theorem dX7_yesOf_154 : decode cX7_yesOf 154 = .ok (.ireturn, 1) := by decide +kernel
theorem dX7_yesOf_155 : decode cX7_yesOf 155 = .ok (.iload 7, 2) := by decide +kernel
theorem dX7_yesOf_157 : decode cX7_yesOf 157 = .ok (.bipush 10, 2) := by decide +kernel
theorem dX7_yesOf_159 : decode cX7_yesOf 159 = .ok (.aload_n 0, 1) := by decide +kernel
theorem dX7_yesOf_160 : decode cX7_yesOf 160 = .ok (.getfield 23, 3) := by decide +kernel
theorem dX7_yesOf_163 : decode cX7_yesOf 163 = .ok (.iload_n 1, 1) := by decide +kernel
theorem dX7_yesOf_164 : decode cX7_yesOf 164 = .ok (.iaload, 1) := by decide +kernel
theorem dX7_yesOf_165 : decode cX7_yesOf 165 = .ok (.isub, 1) := by decide +kernel
theorem dX7_yesOf_166 : decode cX7_yesOf 166 = .ok (.imul, 1) := by decide +kernel
theorem dX7_yesOf_167 : decode cX7_yesOf 167 = .ok (.bipush 10, 2) := by decide +kernel
theorem dX7_yesOf_169 : decode cX7_yesOf 169 = .ok (.idiv, 1) := by decide +kernel
theorem dX7_yesOf_170 : decode cX7_yesOf 170 = .ok (.ireturn, 1) := by decide +kernel
theorem dX7_yesOf_171 : decode cX7_yesOf 171 = .ok (.iload 4, 2) := by decide +kernel
theorem dX7_yesOf_173 : decode cX7_yesOf 173 = .ok (.iconst 2, 1) := by decide +kernel
theorem dX7_yesOf_174 : decode cX7_yesOf 174 = .ok (.idiv, 1) := by decide +kernel
theorem dX7_yesOf_175 : decode cX7_yesOf 175 = .ok (.bipush 10, 2) := by decide +kernel
theorem dX7_yesOf_177 : decode cX7_yesOf 177 = .ok (.aload_n 0, 1) := by decide +kernel
theorem dX7_yesOf_178 : decode cX7_yesOf 178 = .ok (.getfield 23, 3) := by decide +kernel
theorem dX7_yesOf_181 : decode cX7_yesOf 181 = .ok (.iload_n 1, 1) := by decide +kernel
theorem dX7_yesOf_182 : decode cX7_yesOf 182 = .ok (.iaload, 1) := by decide +kernel
theorem dX7_yesOf_183 : decode cX7_yesOf 183 = .ok (.isub, 1) := by decide +kernel
theorem dX7_yesOf_184 : decode cX7_yesOf 184 = .ok (.imul, 1) := by decide +kernel
theorem dX7_yesOf_185 : decode cX7_yesOf 185 = .ok (.bipush 10, 2) := by decide +kernel
theorem dX7_yesOf_187 : decode cX7_yesOf 187 = .ok (.idiv, 1) := by decide +kernel
theorem dX7_yesOf_188 : decode cX7_yesOf 188 = .ok (.ireturn, 1) := by decide +kernel
theorem dX7_yesOf_189 : decode cX7_yesOf 189 = .ok (.iload 6, 2) := by decide +kernel
theorem dX7_yesOf_191 : decode cX7_yesOf 191 = .ok (.ireturn, 1) := by decide +kernel
theorem dX7_yesBy_0 : decode cX7_yesBy 0 = .ok (.aload_n 0, 1) := by decide +kernel
theorem dX7_yesBy_1 : decode cX7_yesBy 1 = .ok (.iload_n 1, 1) := by decide +kernel
theorem dX7_yesBy_2 : decode cX7_yesBy 2 = .ok (.aload_n 0, 1) := by decide +kernel
theorem dX7_yesBy_3 : decode cX7_yesBy 3 = .ok (.getfield 32, 3) := by decide +kernel
theorem dX7_yesBy_6 : decode cX7_yesBy 6 = .ok (.iload_n 2, 1) := by decide +kernel
theorem dX7_yesBy_7 : decode cX7_yesBy 7 = .ok (.iaload, 1) := by decide +kernel
theorem dX7_yesBy_8 : decode cX7_yesBy 8 = .ok (.aload_n 0, 1) := by decide +kernel
theorem dX7_yesBy_9 : decode cX7_yesBy 9 = .ok (.getfield 35, 3) := by decide +kernel
theorem dX7_yesBy_12 : decode cX7_yesBy 12 = .ok (.iload_n 2, 1) := by decide +kernel
theorem dX7_yesBy_13 : decode cX7_yesBy 13 = .ok (.iaload, 1) := by decide +kernel
theorem dX7_yesBy_14 : decode cX7_yesBy 14 = .ok (.iload_n 3, 1) := by decide +kernel
theorem dX7_yesBy_15 : decode cX7_yesBy 15 = .ok (.invokevirtual 115, 3) := by decide +kernel
theorem dX7_yesBy_18 : decode cX7_yesBy 18 = .ok (.ireturn, 1) := by decide +kernel
theorem dX7_yes_0 : decode cX7_yes 0 = .ok (.aload_n 0, 1) := by decide +kernel
theorem dX7_yes_1 : decode cX7_yes 1 = .ok (.iload_n 1, 1) := by decide +kernel
theorem dX7_yes_2 : decode cX7_yes 2 = .ok (.invokevirtual 102, 3) := by decide +kernel
theorem dX7_yes_5 : decode cX7_yes 5 = .ok (.ifCond .eq 11, 3) := by decide +kernel
theorem dX7_yes_8 : decode cX7_yes 8 = .ok (.aload_n 0, 1) := by decide +kernel
theorem dX7_yes_9 : decode cX7_yes 9 = .ok (.iload_n 2, 1) := by decide +kernel
theorem dX7_yes_10 : decode cX7_yes 10 = .ok (.invokevirtual 136, 3) := by decide +kernel
theorem dX7_yes_13 : decode cX7_yes 13 = .ok (.ifCond .ne 9, 3) := by decide +kernel
theorem dX7_yes_16 : decode cX7_yes 16 = .ok (.aload_n 0, 1) := by decide +kernel
theorem dX7_yes_17 : decode cX7_yes 17 = .ok (.iconst (-1), 1) := by decide +kernel
theorem dX7_yes_18 : decode cX7_yes 18 = .ok (.invokevirtual 81, 3) := by decide +kernel
theorem dX7_yes_21 : decode cX7_yes 21 = .ok (.ireturn, 1) := by decide +kernel
theorem dX7_yes_22 : decode cX7_yes 22 = .ok (.iload_n 3, 1) := by decide +kernel
theorem dX7_yes_23 : decode cX7_yes 23 = .ok (.iconst 0, 1) := by decide +kernel
theorem dX7_yes_24 : decode cX7_yes 24 = .ok (.sipush 999, 3) := by decide +kernel
theorem dX7_yes_27 : decode cX7_yes 27 = .ok (.invokestatic 88, 3) := by decide +kernel
theorem dX7_yes_30 : decode cX7_yes 30 = .ok (.ifCond .eq 13, 3) := by decide +kernel
theorem dX7_yes_33 : decode cX7_yes 33 = .ok (.aload_n 0, 1) := by decide +kernel
theorem dX7_yes_34 : decode cX7_yes 34 = .ok (.iload_n 1, 1) := by decide +kernel
theorem dX7_yes_35 : decode cX7_yes 35 = .ok (.iload_n 2, 1) := by decide +kernel
theorem dX7_yes_36 : decode cX7_yes 36 = .ok (.iload_n 3, 1) := by decide +kernel
theorem dX7_yes_37 : decode cX7_yes 37 = .ok (.invokevirtual 207, 3) := by decide +kernel
theorem dX7_yes_40 : decode cX7_yes 40 = .ok (.goto 9, 3) := by decide +kernel
theorem dX7_yes_43 : decode cX7_yes 43 = .ok (.aload_n 0, 1) := by decide +kernel
theorem dX7_yes_44 : decode cX7_yes 44 = .ok (.bipush (-6), 2) := by decide +kernel
theorem dX7_yes_46 : decode cX7_yes 46 = .ok (.invokevirtual 81, 3) := by decide +kernel
theorem dX7_yes_49 : decode cX7_yes 49 = .ok (.ireturn, 1) := by decide +kernel
theorem dX7_all_0 : decode cX7_all 0 = .ok (.iconst 0, 1) := by decide +kernel
theorem dX7_all_1 : decode cX7_all 1 = .ok (.istore_n 2, 1) := by decide +kernel
theorem dX7_all_2 : decode cX7_all 2 = .ok (.iconst 0, 1) := by decide +kernel
theorem dX7_all_3 : decode cX7_all 3 = .ok (.istore_n 3, 1) := by decide +kernel
theorem dX7_all_4 : decode cX7_all 4 = .ok (.iload_n 3, 1) := by decide +kernel
theorem dX7_all_5 : decode cX7_all 5 = .ok (.aload_n 0, 1) := by decide +kernel
theorem dX7_all_6 : decode cX7_all 6 = .ok (.getfield 92, 3) := by decide +kernel
theorem dX7_all_9 : decode cX7_all 9 = .ok (.if_icmp .ge 24, 3) := by decide +kernel
theorem dX7_all_12 : decode cX7_all 12 = .ok (.iload_n 2, 1) := by decide +kernel
theorem dX7_all_13 : decode cX7_all 13 = .ok (.aload_n 0, 1) := by decide +kernel
theorem dX7_all_14 : decode cX7_all 14 = .ok (.iload_n 1, 1) := by decide +kernel
theorem dX7_all_15 : decode cX7_all 15 = .ok (.iload_n 3, 1) := by decide +kernel
theorem dX7_all_16 : decode cX7_all 16 = .ok (.aload_n 0, 1) := by decide +kernel
theorem dX7_all_17 : decode cX7_all 17 = .ok (.getfield 29, 3) := by decide +kernel
theorem dX7_all_20 : decode cX7_all 20 = .ok (.iload_n 3, 1) := by decide +kernel
theorem dX7_all_21 : decode cX7_all 21 = .ok (.iaload, 1) := by decide +kernel
theorem dX7_all_22 : decode cX7_all 22 = .ok (.invokevirtual 207, 3) := by decide +kernel
theorem dX7_all_25 : decode cX7_all 25 = .ok (.iadd, 1) := by decide +kernel
theorem dX7_all_26 : decode cX7_all 26 = .ok (.istore_n 2, 1) := by decide +kernel
theorem dX7_all_27 : decode cX7_all 27 = .ok (.iinc 3 1, 3) := by decide +kernel
theorem dX7_all_30 : decode cX7_all 30 = .ok (.goto (-26), 3) := by decide +kernel
theorem dX7_all_33 : decode cX7_all 33 = .ok (.iload_n 2, 1) := by decide +kernel
theorem dX7_all_34 : decode cX7_all 34 = .ok (.ireturn, 1) := by decide +kernel
theorem dX7_people_0 : decode cX7_people 0 = .ok (.iconst 0, 1) := by decide +kernel
theorem dX7_people_1 : decode cX7_people 1 = .ok (.istore_n 1, 1) := by decide +kernel
theorem dX7_people_2 : decode cX7_people 2 = .ok (.iconst 0, 1) := by decide +kernel
theorem dX7_people_3 : decode cX7_people 3 = .ok (.istore_n 2, 1) := by decide +kernel
theorem dX7_people_4 : decode cX7_people 4 = .ok (.iload_n 2, 1) := by decide +kernel
theorem dX7_people_5 : decode cX7_people 5 = .ok (.aload_n 0, 1) := by decide +kernel
theorem dX7_people_6 : decode cX7_people 6 = .ok (.getfield 92, 3) := by decide +kernel
theorem dX7_people_9 : decode cX7_people 9 = .ok (.if_icmp .ge 18, 3) := by decide +kernel
theorem dX7_people_12 : decode cX7_people 12 = .ok (.iload_n 1, 1) := by decide +kernel
theorem dX7_people_13 : decode cX7_people 13 = .ok (.aload_n 0, 1) := by decide +kernel
theorem dX7_people_14 : decode cX7_people 14 = .ok (.getfield 29, 3) := by decide +kernel
theorem dX7_people_17 : decode cX7_people 17 = .ok (.iload_n 2, 1) := by decide +kernel
theorem dX7_people_18 : decode cX7_people 18 = .ok (.iaload, 1) := by decide +kernel
theorem dX7_people_19 : decode cX7_people 19 = .ok (.iadd, 1) := by decide +kernel
theorem dX7_people_20 : decode cX7_people 20 = .ok (.istore_n 1, 1) := by decide +kernel
theorem dX7_people_21 : decode cX7_people 21 = .ok (.iinc 2 1, 3) := by decide +kernel
theorem dX7_people_24 : decode cX7_people 24 = .ok (.goto (-20), 3) := by decide +kernel
theorem dX7_people_27 : decode cX7_people 27 = .ok (.iload_n 1, 1) := by decide +kernel
theorem dX7_people_28 : decode cX7_people 28 = .ok (.ireturn, 1) := by decide +kernel
theorem dX7_thousandths_0 : decode cX7_thousandths 0 = .ok (.iload_n 1, 1) := by decide +kernel
theorem dX7_thousandths_1 : decode cX7_thousandths 1 = .ok (.ifCond .ne 7, 3) := by decide +kernel
theorem dX7_thousandths_4 : decode cX7_thousandths 4 = .ok (.iconst 0, 1) := by decide +kernel
theorem dX7_thousandths_5 : decode cX7_thousandths 5 = .ok (.goto 10, 3) := by decide +kernel
theorem dX7_thousandths_8 : decode cX7_thousandths 8 = .ok (.sipush 1000, 3) := by decide +kernel
theorem dX7_thousandths_11 : decode cX7_thousandths 11 = .ok (.iload_n 0, 1) := by decide +kernel
theorem dX7_thousandths_12 : decode cX7_thousandths 12 = .ok (.imul, 1) := by decide +kernel
theorem dX7_thousandths_13 : decode cX7_thousandths 13 = .ok (.iload_n 1, 1) := by decide +kernel
theorem dX7_thousandths_14 : decode cX7_thousandths 14 = .ok (.idiv, 1) := by decide +kernel
theorem dX7_thousandths_15 : decode cX7_thousandths 15 = .ok (.ireturn, 1) := by decide +kernel
theorem dX7_shareOf_0 : decode cX7_shareOf 0 = .ok (.aload_n 0, 1) := by decide +kernel
theorem dX7_shareOf_1 : decode cX7_shareOf 1 = .ok (.iload_n 1, 1) := by decide +kernel
theorem dX7_shareOf_2 : decode cX7_shareOf 2 = .ok (.invokevirtual 130, 3) := by decide +kernel
theorem dX7_shareOf_5 : decode cX7_shareOf 5 = .ok (.aload_n 0, 1) := by decide +kernel
theorem dX7_shareOf_6 : decode cX7_shareOf 6 = .ok (.invokevirtual 211, 3) := by decide +kernel
theorem dX7_shareOf_9 : decode cX7_shareOf 9 = .ok (.invokestatic 214, 3) := by decide +kernel
theorem dX7_shareOf_12 : decode cX7_shareOf 12 = .ok (.ireturn, 1) := by decide +kernel
theorem dX7_tries_0 : decode cX7_tries 0 = .ok (.aload_n 0, 1) := by decide +kernel
theorem dX7_tries_1 : decode cX7_tries 1 = .ok (.getfield 62, 3) := by decide +kernel
theorem dX7_tries_4 : decode cX7_tries 4 = .ok (.iload_n 1, 1) := by decide +kernel
theorem dX7_tries_5 : decode cX7_tries 5 = .ok (.iaload, 1) := by decide +kernel
theorem dX7_tries_6 : decode cX7_tries 6 = .ok (.aload_n 0, 1) := by decide +kernel
theorem dX7_tries_7 : decode cX7_tries 7 = .ok (.getfield 38, 3) := by decide +kernel
theorem dX7_tries_10 : decode cX7_tries 10 = .ok (.iload_n 1, 1) := by decide +kernel
theorem dX7_tries_11 : decode cX7_tries 11 = .ok (.iaload, 1) := by decide +kernel
theorem dX7_tries_12 : decode cX7_tries 12 = .ok (.imul, 1) := by decide +kernel
theorem dX7_tries_13 : decode cX7_tries 13 = .ok (.bipush 10, 2) := by decide +kernel
theorem dX7_tries_15 : decode cX7_tries 15 = .ok (.idiv, 1) := by decide +kernel
theorem dX7_tries_16 : decode cX7_tries 16 = .ok (.istore_n 2, 1) := by decide +kernel
theorem dX7_tries_17 : decode cX7_tries 17 = .ok (.aload_n 0, 1) := by decide +kernel
theorem dX7_tries_18 : decode cX7_tries 18 = .ok (.getfield 62, 3) := by decide +kernel
theorem dX7_tries_21 : decode cX7_tries 21 = .ok (.iload_n 1, 1) := by decide +kernel
theorem dX7_tries_22 : decode cX7_tries 22 = .ok (.dup2, 1) := by decide +kernel
theorem dX7_tries_23 : decode cX7_tries 23 = .ok (.iaload, 1) := by decide +kernel
theorem dX7_tries_24 : decode cX7_tries 24 = .ok (.iload_n 2, 1) := by decide +kernel
theorem dX7_tries_25 : decode cX7_tries 25 = .ok (.isub, 1) := by decide +kernel
theorem dX7_tries_26 : decode cX7_tries 26 = .ok (.iastore, 1) := by decide +kernel
theorem dX7_tries_27 : decode cX7_tries 27 = .ok (.iload_n 2, 1) := by decide +kernel
theorem dX7_tries_28 : decode cX7_tries 28 = .ok (.aload_n 0, 1) := by decide +kernel
theorem dX7_tries_29 : decode cX7_tries 29 = .ok (.getfield 41, 3) := by decide +kernel
theorem dX7_tries_32 : decode cX7_tries 32 = .ok (.iload_n 1, 1) := by decide +kernel
theorem dX7_tries_33 : decode cX7_tries 33 = .ok (.iaload, 1) := by decide +kernel
theorem dX7_tries_34 : decode cX7_tries 34 = .ok (.imul, 1) := by decide +kernel
theorem dX7_tries_35 : decode cX7_tries 35 = .ok (.bipush 10, 2) := by decide +kernel
theorem dX7_tries_37 : decode cX7_tries 37 = .ok (.idiv, 1) := by decide +kernel
theorem dX7_tries_38 : decode cX7_tries 38 = .ok (.ireturn, 1) := by decide +kernel
theorem dX7_answered_0 : decode cX7_answered 0 = .ok (.iconst 0, 1) := by decide +kernel
theorem dX7_answered_1 : decode cX7_answered 1 = .ok (.istore_n 2, 1) := by decide +kernel
theorem dX7_answered_2 : decode cX7_answered 2 = .ok (.iconst 0, 1) := by decide +kernel
theorem dX7_answered_3 : decode cX7_answered 3 = .ok (.istore_n 3, 1) := by decide +kernel
theorem dX7_answered_4 : decode cX7_answered 4 = .ok (.iload_n 3, 1) := by decide +kernel
theorem dX7_answered_5 : decode cX7_answered 5 = .ok (.aload_n 0, 1) := by decide +kernel
theorem dX7_answered_6 : decode cX7_answered 6 = .ok (.getfield 92, 3) := by decide +kernel
theorem dX7_answered_9 : decode cX7_answered 9 = .ok (.if_icmp .ge 66, 3) := by decide +kernel
theorem dX7_answered_12 : decode cX7_answered 12 = .ok (.aload_n 0, 1) := by decide +kernel
theorem dX7_answered_13 : decode cX7_answered 13 = .ok (.getfield 62, 3) := by decide +kernel
theorem dX7_answered_16 : decode cX7_answered 16 = .ok (.iload_n 3, 1) := by decide +kernel
theorem dX7_answered_17 : decode cX7_answered 17 = .ok (.aload_n 0, 1) := by decide +kernel
theorem dX7_answered_18 : decode cX7_answered 18 = .ok (.getfield 29, 3) := by decide +kernel
theorem dX7_answered_21 : decode cX7_answered 21 = .ok (.iload_n 3, 1) := by decide +kernel
theorem dX7_answered_22 : decode cX7_answered 22 = .ok (.iaload, 1) := by decide +kernel
theorem dX7_answered_23 : decode cX7_answered 23 = .ok (.iastore, 1) := by decide +kernel
theorem dX7_answered_24 : decode cX7_answered 24 = .ok (.aload_n 0, 1) := by decide +kernel
theorem dX7_answered_25 : decode cX7_answered 25 = .ok (.getfield 59, 3) := by decide +kernel
theorem dX7_answered_28 : decode cX7_answered 28 = .ok (.iload_n 3, 1) := by decide +kernel
theorem dX7_answered_29 : decode cX7_answered 29 = .ok (.iconst 0, 1) := by decide +kernel
theorem dX7_answered_30 : decode cX7_answered 30 = .ok (.iastore, 1) := by decide +kernel
theorem dX7_answered_31 : decode cX7_answered 31 = .ok (.iconst 0, 1) := by decide +kernel
theorem dX7_answered_32 : decode cX7_answered 32 = .ok (.istore 4, 2) := by decide +kernel
theorem dX7_answered_34 : decode cX7_answered 34 = .ok (.iload 4, 2) := by decide +kernel
theorem dX7_answered_36 : decode cX7_answered 36 = .ok (.iload_n 1, 1) := by decide +kernel
theorem dX7_answered_37 : decode cX7_answered 37 = .ok (.if_icmp .ge 23, 3) := by decide +kernel
theorem dX7_answered_40 : decode cX7_answered 40 = .ok (.aload_n 0, 1) := by decide +kernel
theorem dX7_answered_41 : decode cX7_answered 41 = .ok (.getfield 59, 3) := by decide +kernel
theorem dX7_answered_44 : decode cX7_answered 44 = .ok (.iload_n 3, 1) := by decide +kernel
theorem dX7_answered_45 : decode cX7_answered 45 = .ok (.dup2, 1) := by decide +kernel
theorem dX7_answered_46 : decode cX7_answered 46 = .ok (.iaload, 1) := by decide +kernel
theorem dX7_answered_47 : decode cX7_answered 47 = .ok (.aload_n 0, 1) := by decide +kernel
theorem dX7_answered_48 : decode cX7_answered 48 = .ok (.iload_n 3, 1) := by decide +kernel
theorem dX7_answered_49 : decode cX7_answered 49 = .ok (.invokevirtual 217, 3) := by decide +kernel
theorem dX7_answered_52 : decode cX7_answered 52 = .ok (.iadd, 1) := by decide +kernel
theorem dX7_answered_53 : decode cX7_answered 53 = .ok (.iastore, 1) := by decide +kernel
theorem dX7_answered_54 : decode cX7_answered 54 = .ok (.iinc 4 1, 3) := by decide +kernel
theorem dX7_answered_57 : decode cX7_answered 57 = .ok (.goto (-23), 3) := by decide +kernel
theorem dX7_answered_60 : decode cX7_answered 60 = .ok (.iload_n 2, 1) := by decide +kernel
theorem dX7_answered_61 : decode cX7_answered 61 = .ok (.aload_n 0, 1) := by decide +kernel
theorem dX7_answered_62 : decode cX7_answered 62 = .ok (.getfield 59, 3) := by decide +kernel
theorem dX7_answered_65 : decode cX7_answered 65 = .ok (.iload_n 3, 1) := by decide +kernel
theorem dX7_answered_66 : decode cX7_answered 66 = .ok (.iaload, 1) := by decide +kernel
theorem dX7_answered_67 : decode cX7_answered 67 = .ok (.iadd, 1) := by decide +kernel
theorem dX7_answered_68 : decode cX7_answered 68 = .ok (.istore_n 2, 1) := by decide +kernel
theorem dX7_answered_69 : decode cX7_answered 69 = .ok (.iinc 3 1, 3) := by decide +kernel
theorem dX7_answered_72 : decode cX7_answered 72 = .ok (.goto (-68), 3) := by decide +kernel
theorem dX7_answered_75 : decode cX7_answered 75 = .ok (.iload_n 2, 1) := by decide +kernel
theorem dX7_answered_76 : decode cX7_answered 76 = .ok (.ireturn, 1) := by decide +kernel
theorem dX7_answeredLate_0 : decode cX7_answeredLate 0 = .ok (.iconst 0, 1) := by decide +kernel
theorem dX7_answeredLate_1 : decode cX7_answeredLate 1 = .ok (.istore_n 2, 1) := by decide +kernel
theorem dX7_answeredLate_2 : decode cX7_answeredLate 2 = .ok (.aload_n 0, 1) := by decide +kernel
theorem dX7_answeredLate_3 : decode cX7_answeredLate 3 = .ok (.iload_n 1, 1) := by decide +kernel
theorem dX7_answeredLate_4 : decode cX7_answeredLate 4 = .ok (.iconst 1, 1) := by decide +kernel
theorem dX7_answeredLate_5 : decode cX7_answeredLate 5 = .ok (.isub, 1) := by decide +kernel
theorem dX7_answeredLate_6 : decode cX7_answeredLate 6 = .ok (.invokevirtual 220, 3) := by decide +kernel
theorem dX7_answeredLate_9 : decode cX7_answeredLate 9 = .ok (.pop, 1) := by decide +kernel
theorem dX7_answeredLate_10 : decode cX7_answeredLate 10 = .ok (.iconst 0, 1) := by decide +kernel
theorem dX7_answeredLate_11 : decode cX7_answeredLate 11 = .ok (.istore_n 3, 1) := by decide +kernel
theorem dX7_answeredLate_12 : decode cX7_answeredLate 12 = .ok (.iload_n 3, 1) := by decide +kernel
theorem dX7_answeredLate_13 : decode cX7_answeredLate 13 = .ok (.aload_n 0, 1) := by decide +kernel
theorem dX7_answeredLate_14 : decode cX7_answeredLate 14 = .ok (.getfield 92, 3) := by decide +kernel
theorem dX7_answeredLate_17 : decode cX7_answeredLate 17 = .ok (.if_icmp .ge 29, 3) := by decide +kernel
theorem dX7_answeredLate_20 : decode cX7_answeredLate 20 = .ok (.aload_n 0, 1) := by decide +kernel
theorem dX7_answeredLate_21 : decode cX7_answeredLate 21 = .ok (.getfield 59, 3) := by decide +kernel
theorem dX7_answeredLate_24 : decode cX7_answeredLate 24 = .ok (.iload_n 3, 1) := by decide +kernel
theorem dX7_answeredLate_25 : decode cX7_answeredLate 25 = .ok (.aload_n 0, 1) := by decide +kernel
theorem dX7_answeredLate_26 : decode cX7_answeredLate 26 = .ok (.iload_n 3, 1) := by decide +kernel
theorem dX7_answeredLate_27 : decode cX7_answeredLate 27 = .ok (.invokevirtual 217, 3) := by decide +kernel
theorem dX7_answeredLate_30 : decode cX7_answeredLate 30 = .ok (.iastore, 1) := by decide +kernel
theorem dX7_answeredLate_31 : decode cX7_answeredLate 31 = .ok (.iload_n 2, 1) := by decide +kernel
theorem dX7_answeredLate_32 : decode cX7_answeredLate 32 = .ok (.aload_n 0, 1) := by decide +kernel
theorem dX7_answeredLate_33 : decode cX7_answeredLate 33 = .ok (.getfield 59, 3) := by decide +kernel
theorem dX7_answeredLate_36 : decode cX7_answeredLate 36 = .ok (.iload_n 3, 1) := by decide +kernel
theorem dX7_answeredLate_37 : decode cX7_answeredLate 37 = .ok (.iaload, 1) := by decide +kernel
theorem dX7_answeredLate_38 : decode cX7_answeredLate 38 = .ok (.iadd, 1) := by decide +kernel
theorem dX7_answeredLate_39 : decode cX7_answeredLate 39 = .ok (.istore_n 2, 1) := by decide +kernel
theorem dX7_answeredLate_40 : decode cX7_answeredLate 40 = .ok (.iinc 3 1, 3) := by decide +kernel
theorem dX7_answeredLate_43 : decode cX7_answeredLate 43 = .ok (.goto (-31), 3) := by decide +kernel
theorem dX7_answeredLate_46 : decode cX7_answeredLate 46 = .ok (.iload_n 2, 1) := by decide +kernel
theorem dX7_answeredLate_47 : decode cX7_answeredLate 47 = .ok (.ireturn, 1) := by decide +kernel
theorem dX7_shareOfAnswers_0 : decode cX7_shareOfAnswers 0 = .ok (.iconst 0, 1) := by decide +kernel
theorem dX7_shareOfAnswers_1 : decode cX7_shareOfAnswers 1 = .ok (.istore_n 3, 1) := by decide +kernel
theorem dX7_shareOfAnswers_2 : decode cX7_shareOfAnswers 2 = .ok (.iconst 0, 1) := by decide +kernel
theorem dX7_shareOfAnswers_3 : decode cX7_shareOfAnswers 3 = .ok (.istore 4, 2) := by decide +kernel
theorem dX7_shareOfAnswers_5 : decode cX7_shareOfAnswers 5 = .ok (.iload 4, 2) := by decide +kernel
theorem dX7_shareOfAnswers_7 : decode cX7_shareOfAnswers 7 = .ok (.aload_n 0, 1) := by decide +kernel
theorem dX7_shareOfAnswers_8 : decode cX7_shareOfAnswers 8 = .ok (.getfield 92, 3) := by decide +kernel
theorem dX7_shareOfAnswers_11 : decode cX7_shareOfAnswers 11 = .ok (.if_icmp .ge 26, 3) := by decide +kernel
theorem dX7_shareOfAnswers_14 : decode cX7_shareOfAnswers 14 = .ok (.iload_n 3, 1) := by decide +kernel
theorem dX7_shareOfAnswers_15 : decode cX7_shareOfAnswers 15 = .ok (.aload_n 0, 1) := by decide +kernel
theorem dX7_shareOfAnswers_16 : decode cX7_shareOfAnswers 16 = .ok (.iload_n 1, 1) := by decide +kernel
theorem dX7_shareOfAnswers_17 : decode cX7_shareOfAnswers 17 = .ok (.iload 4, 2) := by decide +kernel
theorem dX7_shareOfAnswers_19 : decode cX7_shareOfAnswers 19 = .ok (.aload_n 0, 1) := by decide +kernel
theorem dX7_shareOfAnswers_20 : decode cX7_shareOfAnswers 20 = .ok (.getfield 59, 3) := by decide +kernel
theorem dX7_shareOfAnswers_23 : decode cX7_shareOfAnswers 23 = .ok (.iload 4, 2) := by decide +kernel
theorem dX7_shareOfAnswers_25 : decode cX7_shareOfAnswers 25 = .ok (.iaload, 1) := by decide +kernel
theorem dX7_shareOfAnswers_26 : decode cX7_shareOfAnswers 26 = .ok (.invokevirtual 207, 3) := by decide +kernel
theorem dX7_shareOfAnswers_29 : decode cX7_shareOfAnswers 29 = .ok (.iadd, 1) := by decide +kernel
theorem dX7_shareOfAnswers_30 : decode cX7_shareOfAnswers 30 = .ok (.istore_n 3, 1) := by decide +kernel
theorem dX7_shareOfAnswers_31 : decode cX7_shareOfAnswers 31 = .ok (.iinc 4 1, 3) := by decide +kernel
theorem dX7_shareOfAnswers_34 : decode cX7_shareOfAnswers 34 = .ok (.goto (-29), 3) := by decide +kernel
theorem dX7_shareOfAnswers_37 : decode cX7_shareOfAnswers 37 = .ok (.iload_n 3, 1) := by decide +kernel
theorem dX7_shareOfAnswers_38 : decode cX7_shareOfAnswers 38 = .ok (.iload_n 2, 1) := by decide +kernel
theorem dX7_shareOfAnswers_39 : decode cX7_shareOfAnswers 39 = .ok (.invokestatic 214, 3) := by decide +kernel
theorem dX7_shareOfAnswers_42 : decode cX7_shareOfAnswers 42 = .ok (.ireturn, 1) := by decide +kernel
theorem dX7_isTries_0 : decode cX7_isTries 0 = .ok (.iload_n 0, 1) := by decide +kernel
theorem dX7_isTries_1 : decode cX7_isTries 1 = .ok (.iconst 0, 1) := by decide +kernel
theorem dX7_isTries_2 : decode cX7_isTries 2 = .ok (.bipush 9, 2) := by decide +kernel
theorem dX7_isTries_4 : decode cX7_isTries 4 = .ok (.invokestatic 88, 3) := by decide +kernel
theorem dX7_isTries_7 : decode cX7_isTries 7 = .ok (.ireturn, 1) := by decide +kernel
theorem dX7_answers_0 : decode cX7_answers 0 = .ok (.iload_n 2, 1) := by decide +kernel
theorem dX7_answers_1 : decode cX7_answers 1 = .ok (.iconst 0, 1) := by decide +kernel
theorem dX7_answers_2 : decode cX7_answers 2 = .ok (.iconst 1, 1) := by decide +kernel
theorem dX7_answers_3 : decode cX7_answers 3 = .ok (.invokestatic 88, 3) := by decide +kernel
theorem dX7_answers_6 : decode cX7_answers 6 = .ok (.ifCond .ne 10, 3) := by decide +kernel
theorem dX7_answers_9 : decode cX7_answers 9 = .ok (.aload_n 0, 1) := by decide +kernel
theorem dX7_answers_10 : decode cX7_answers 10 = .ok (.bipush (-5), 2) := by decide +kernel
theorem dX7_answers_12 : decode cX7_answers 12 = .ok (.invokevirtual 81, 3) := by decide +kernel
theorem dX7_answers_15 : decode cX7_answers 15 = .ok (.ireturn, 1) := by decide +kernel
theorem dX7_answers_16 : decode cX7_answers 16 = .ok (.iload_n 1, 1) := by decide +kernel
theorem dX7_answers_17 : decode cX7_answers 17 = .ok (.invokestatic 223, 3) := by decide +kernel
theorem dX7_answers_20 : decode cX7_answers 20 = .ok (.ifCond .ne 10, 3) := by decide +kernel
theorem dX7_answers_23 : decode cX7_answers 23 = .ok (.aload_n 0, 1) := by decide +kernel
theorem dX7_answers_24 : decode cX7_answers 24 = .ok (.bipush (-6), 2) := by decide +kernel
theorem dX7_answers_26 : decode cX7_answers 26 = .ok (.invokevirtual 81, 3) := by decide +kernel
theorem dX7_answers_29 : decode cX7_answers 29 = .ok (.ireturn, 1) := by decide +kernel
theorem dX7_answers_30 : decode cX7_answers 30 = .ok (.aload_n 0, 1) := by decide +kernel
theorem dX7_answers_31 : decode cX7_answers 31 = .ok (.iload_n 1, 1) := by decide +kernel
theorem dX7_answers_32 : decode cX7_answers 32 = .ok (.invokevirtual 220, 3) := by decide +kernel
theorem dX7_answers_35 : decode cX7_answers 35 = .ok (.istore_n 3, 1) := by decide +kernel
theorem dX7_answers_36 : decode cX7_answers 36 = .ok (.iload_n 2, 1) := by decide +kernel
theorem dX7_answers_37 : decode cX7_answers 37 = .ok (.ifCond .ne 5, 3) := by decide +kernel
theorem dX7_answers_40 : decode cX7_answers 40 = .ok (.iload_n 3, 1) := by decide +kernel
theorem dX7_answers_41 : decode cX7_answers 41 = .ok (.ireturn, 1) := by decide +kernel
theorem dX7_answers_42 : decode cX7_answers 42 = .ok (.iconst 0, 1) := by decide +kernel
theorem dX7_answers_43 : decode cX7_answers 43 = .ok (.istore 4, 2) := by decide +kernel
theorem dX7_answers_45 : decode cX7_answers 45 = .ok (.iconst 0, 1) := by decide +kernel
theorem dX7_answers_46 : decode cX7_answers 46 = .ok (.istore 5, 2) := by decide +kernel
theorem dX7_answers_48 : decode cX7_answers 48 = .ok (.iload 5, 2) := by decide +kernel
theorem dX7_answers_50 : decode cX7_answers 50 = .ok (.aload_n 0, 1) := by decide +kernel
theorem dX7_answers_51 : decode cX7_answers 51 = .ok (.getfield 92, 3) := by decide +kernel
theorem dX7_answers_54 : decode cX7_answers 54 = .ok (.if_icmp .ge 21, 3) := by decide +kernel
theorem dX7_answers_57 : decode cX7_answers 57 = .ok (.iload 4, 2) := by decide +kernel
theorem dX7_answers_59 : decode cX7_answers 59 = .ok (.aload_n 0, 1) := by decide +kernel
theorem dX7_answers_60 : decode cX7_answers 60 = .ok (.getfield 62, 3) := by decide +kernel
theorem dX7_answers_63 : decode cX7_answers 63 = .ok (.iload 5, 2) := by decide +kernel
theorem dX7_answers_65 : decode cX7_answers 65 = .ok (.iaload, 1) := by decide +kernel
theorem dX7_answers_66 : decode cX7_answers 66 = .ok (.iadd, 1) := by decide +kernel
theorem dX7_answers_67 : decode cX7_answers 67 = .ok (.istore 4, 2) := by decide +kernel
theorem dX7_answers_69 : decode cX7_answers 69 = .ok (.iinc 5 1, 3) := by decide +kernel
theorem dX7_answers_72 : decode cX7_answers 72 = .ok (.goto (-24), 3) := by decide +kernel
theorem dX7_answers_75 : decode cX7_answers 75 = .ok (.iload 4, 2) := by decide +kernel
theorem dX7_answers_77 : decode cX7_answers 77 = .ok (.ireturn, 1) := by decide +kernel
theorem dX7_offBy_0 : decode cX7_offBy 0 = .ok (.aload_n 0, 1) := by decide +kernel
theorem dX7_offBy_1 : decode cX7_offBy 1 = .ok (.iload_n 1, 1) := by decide +kernel
theorem dX7_offBy_2 : decode cX7_offBy 2 = .ok (.aload_n 0, 1) := by decide +kernel
theorem dX7_offBy_3 : decode cX7_offBy 3 = .ok (.iload_n 2, 1) := by decide +kernel
theorem dX7_offBy_4 : decode cX7_offBy 4 = .ok (.invokevirtual 220, 3) := by decide +kernel
theorem dX7_offBy_7 : decode cX7_offBy 7 = .ok (.invokevirtual 226, 3) := by decide +kernel
theorem dX7_offBy_10 : decode cX7_offBy 10 = .ok (.aload_n 0, 1) := by decide +kernel
theorem dX7_offBy_11 : decode cX7_offBy 11 = .ok (.iload_n 1, 1) := by decide +kernel
theorem dX7_offBy_12 : decode cX7_offBy 12 = .ok (.invokevirtual 112, 3) := by decide +kernel
theorem dX7_offBy_15 : decode cX7_offBy 15 = .ok (.isub, 1) := by decide +kernel
theorem dX7_offBy_16 : decode cX7_offBy 16 = .ok (.ireturn, 1) := by decide +kernel
theorem dX7_by_0 : decode cX7_by 0 = .ok (.aload_n 0, 1) := by decide +kernel
theorem dX7_by_1 : decode cX7_by 1 = .ok (.iload_n 1, 1) := by decide +kernel
theorem dX7_by_2 : decode cX7_by 2 = .ok (.invokevirtual 102, 3) := by decide +kernel
theorem dX7_by_5 : decode cX7_by 5 = .ok (.ifCond .ne 9, 3) := by decide +kernel
theorem dX7_by_8 : decode cX7_by 8 = .ok (.aload_n 0, 1) := by decide +kernel
theorem dX7_by_9 : decode cX7_by 9 = .ok (.iconst (-1), 1) := by decide +kernel
theorem dX7_by_10 : decode cX7_by 10 = .ok (.invokevirtual 127, 3) := by decide +kernel
theorem dX7_by_13 : decode cX7_by 13 = .ok (.ireturn, 1) := by decide +kernel
theorem dX7_by_14 : decode cX7_by 14 = .ok (.iload_n 3, 1) := by decide +kernel
theorem dX7_by_15 : decode cX7_by 15 = .ok (.iconst 0, 1) := by decide +kernel
theorem dX7_by_16 : decode cX7_by 16 = .ok (.iconst 1, 1) := by decide +kernel
theorem dX7_by_17 : decode cX7_by 17 = .ok (.invokestatic 88, 3) := by decide +kernel
theorem dX7_by_20 : decode cX7_by 20 = .ok (.ifCond .ne 10, 3) := by decide +kernel
theorem dX7_by_23 : decode cX7_by 23 = .ok (.aload_n 0, 1) := by decide +kernel
theorem dX7_by_24 : decode cX7_by 24 = .ok (.bipush (-5), 2) := by decide +kernel
theorem dX7_by_26 : decode cX7_by 26 = .ok (.invokevirtual 127, 3) := by decide +kernel
theorem dX7_by_29 : decode cX7_by 29 = .ok (.ireturn, 1) := by decide +kernel
theorem dX7_by_30 : decode cX7_by 30 = .ok (.iload_n 2, 1) := by decide +kernel
theorem dX7_by_31 : decode cX7_by 31 = .ok (.invokestatic 223, 3) := by decide +kernel
theorem dX7_by_34 : decode cX7_by 34 = .ok (.ifCond .ne 10, 3) := by decide +kernel
theorem dX7_by_37 : decode cX7_by 37 = .ok (.aload_n 0, 1) := by decide +kernel
theorem dX7_by_38 : decode cX7_by 38 = .ok (.bipush (-6), 2) := by decide +kernel
theorem dX7_by_40 : decode cX7_by 40 = .ok (.invokevirtual 127, 3) := by decide +kernel
theorem dX7_by_43 : decode cX7_by 43 = .ok (.ireturn, 1) := by decide +kernel
theorem dX7_by_44 : decode cX7_by 44 = .ok (.iload_n 3, 1) := by decide +kernel
theorem dX7_by_45 : decode cX7_by 45 = .ok (.ifCond .ne 16, 3) := by decide +kernel
theorem dX7_by_48 : decode cX7_by 48 = .ok (.aload_n 0, 1) := by decide +kernel
theorem dX7_by_49 : decode cX7_by 49 = .ok (.iload_n 1, 1) := by decide +kernel
theorem dX7_by_50 : decode cX7_by 50 = .ok (.aload_n 0, 1) := by decide +kernel
theorem dX7_by_51 : decode cX7_by 51 = .ok (.iload_n 2, 1) := by decide +kernel
theorem dX7_by_52 : decode cX7_by 52 = .ok (.invokevirtual 220, 3) := by decide +kernel
theorem dX7_by_55 : decode cX7_by 55 = .ok (.invokevirtual 226, 3) := by decide +kernel
theorem dX7_by_58 : decode cX7_by 58 = .ok (.goto 9, 3) := by decide +kernel
theorem dX7_by_61 : decode cX7_by 61 = .ok (.aload_n 0, 1) := by decide +kernel
theorem dX7_by_62 : decode cX7_by 62 = .ok (.iload_n 1, 1) := by decide +kernel
theorem dX7_by_63 : decode cX7_by 63 = .ok (.iload_n 2, 1) := by decide +kernel
theorem dX7_by_64 : decode cX7_by 64 = .ok (.invokevirtual 229, 3) := by decide +kernel
theorem dX7_by_67 : decode cX7_by 67 = .ok (.ireturn, 1) := by decide +kernel
theorem dX7_hold_0 : decode cX7_hold 0 = .ok (.iconst 0, 1) := by decide +kernel
theorem dX7_hold_1 : decode cX7_hold 1 = .ok (.istore_n 1, 1) := by decide +kernel
theorem dX7_hold_2 : decode cX7_hold 2 = .ok (.iconst 0, 1) := by decide +kernel
theorem dX7_hold_3 : decode cX7_hold 3 = .ok (.istore_n 2, 1) := by decide +kernel
theorem dX7_hold_4 : decode cX7_hold 4 = .ok (.iload_n 2, 1) := by decide +kernel
theorem dX7_hold_5 : decode cX7_hold 5 = .ok (.aload_n 0, 1) := by decide +kernel
theorem dX7_hold_6 : decode cX7_hold 6 = .ok (.getfield 92, 3) := by decide +kernel
theorem dX7_hold_9 : decode cX7_hold 9 = .ok (.if_icmp .ge 27, 3) := by decide +kernel
theorem dX7_hold_12 : decode cX7_hold 12 = .ok (.aload_n 0, 1) := by decide +kernel
theorem dX7_hold_13 : decode cX7_hold 13 = .ok (.getfield 32, 3) := by decide +kernel
theorem dX7_hold_16 : decode cX7_hold 16 = .ok (.iload_n 2, 1) := by decide +kernel
theorem dX7_hold_17 : decode cX7_hold 17 = .ok (.iaload, 1) := by decide +kernel
theorem dX7_hold_18 : decode cX7_hold 18 = .ok (.ifCond .ne 12, 3) := by decide +kernel
theorem dX7_hold_21 : decode cX7_hold 21 = .ok (.iload_n 1, 1) := by decide +kernel
theorem dX7_hold_22 : decode cX7_hold 22 = .ok (.aload_n 0, 1) := by decide +kernel
theorem dX7_hold_23 : decode cX7_hold 23 = .ok (.getfield 29, 3) := by decide +kernel
theorem dX7_hold_26 : decode cX7_hold 26 = .ok (.iload_n 2, 1) := by decide +kernel
theorem dX7_hold_27 : decode cX7_hold 27 = .ok (.iaload, 1) := by decide +kernel
theorem dX7_hold_28 : decode cX7_hold 28 = .ok (.iadd, 1) := by decide +kernel
theorem dX7_hold_29 : decode cX7_hold 29 = .ok (.istore_n 1, 1) := by decide +kernel
theorem dX7_hold_30 : decode cX7_hold 30 = .ok (.iinc 2 1, 3) := by decide +kernel
theorem dX7_hold_33 : decode cX7_hold 33 = .ok (.goto (-29), 3) := by decide +kernel
theorem dX7_hold_36 : decode cX7_hold 36 = .ok (.iload_n 1, 1) := by decide +kernel
theorem dX7_hold_37 : decode cX7_hold 37 = .ok (.aload_n 0, 1) := by decide +kernel
theorem dX7_hold_38 : decode cX7_hold 38 = .ok (.invokevirtual 211, 3) := by decide +kernel
theorem dX7_hold_41 : decode cX7_hold 41 = .ok (.invokestatic 214, 3) := by decide +kernel
theorem dX7_hold_44 : decode cX7_hold 44 = .ok (.ireturn, 1) := by decide +kernel
theorem dX7_wrongOf_0 : decode cX7_wrongOf 0 = .ok (.aload_n 0, 1) := by decide +kernel
theorem dX7_wrongOf_1 : decode cX7_wrongOf 1 = .ok (.getfield 20, 3) := by decide +kernel
theorem dX7_wrongOf_4 : decode cX7_wrongOf 4 = .ok (.iload_n 1, 1) := by decide +kernel
theorem dX7_wrongOf_5 : decode cX7_wrongOf 5 = .ok (.iaload, 1) := by decide +kernel
theorem dX7_wrongOf_6 : decode cX7_wrongOf 6 = .ok (.iconst 2, 1) := by decide +kernel
theorem dX7_wrongOf_7 : decode cX7_wrongOf 7 = .ok (.invokestatic 108, 3) := by decide +kernel
theorem dX7_wrongOf_10 : decode cX7_wrongOf 10 = .ok (.ifCond .eq 15, 3) := by decide +kernel
theorem dX7_wrongOf_13 : decode cX7_wrongOf 13 = .ok (.sipush 1000, 3) := by decide +kernel
theorem dX7_wrongOf_16 : decode cX7_wrongOf 16 = .ok (.aload_n 0, 1) := by decide +kernel
theorem dX7_wrongOf_17 : decode cX7_wrongOf 17 = .ok (.iload_n 1, 1) := by decide +kernel
theorem dX7_wrongOf_18 : decode cX7_wrongOf 18 = .ok (.invokevirtual 112, 3) := by decide +kernel
theorem dX7_wrongOf_21 : decode cX7_wrongOf 21 = .ok (.isub, 1) := by decide +kernel
theorem dX7_wrongOf_22 : decode cX7_wrongOf 22 = .ok (.goto 8, 3) := by decide +kernel
theorem dX7_wrongOf_25 : decode cX7_wrongOf 25 = .ok (.aload_n 0, 1) := by decide +kernel
theorem dX7_wrongOf_26 : decode cX7_wrongOf 26 = .ok (.iload_n 1, 1) := by decide +kernel
theorem dX7_wrongOf_27 : decode cX7_wrongOf 27 = .ok (.invokevirtual 112, 3) := by decide +kernel
theorem dX7_wrongOf_30 : decode cX7_wrongOf 30 = .ok (.istore_n 2, 1) := by decide +kernel
theorem dX7_wrongOf_31 : decode cX7_wrongOf 31 = .ok (.iload_n 2, 1) := by decide +kernel
theorem dX7_wrongOf_32 : decode cX7_wrongOf 32 = .ok (.aload_n 0, 1) := by decide +kernel
theorem dX7_wrongOf_33 : decode cX7_wrongOf 33 = .ok (.invokevirtual 232, 3) := by decide +kernel
theorem dX7_wrongOf_36 : decode cX7_wrongOf 36 = .ok (.isub, 1) := by decide +kernel
theorem dX7_wrongOf_37 : decode cX7_wrongOf 37 = .ok (.ireturn, 1) := by decide +kernel
theorem dX7_shareIn_0 : decode cX7_shareIn 0 = .ok (.iconst 0, 1) := by decide +kernel
theorem dX7_shareIn_1 : decode cX7_shareIn 1 = .ok (.istore_n 3, 1) := by decide +kernel
theorem dX7_shareIn_2 : decode cX7_shareIn 2 = .ok (.iconst 0, 1) := by decide +kernel
theorem dX7_shareIn_3 : decode cX7_shareIn 3 = .ok (.istore 4, 2) := by decide +kernel
theorem dX7_shareIn_5 : decode cX7_shareIn 5 = .ok (.iload 4, 2) := by decide +kernel
theorem dX7_shareIn_7 : decode cX7_shareIn 7 = .ok (.iload_n 2, 1) := by decide +kernel
theorem dX7_shareIn_8 : decode cX7_shareIn 8 = .ok (.if_icmp .ge 28, 3) := by decide +kernel
theorem dX7_shareIn_11 : decode cX7_shareIn 11 = .ok (.iload_n 3, 1) := by decide +kernel
theorem dX7_shareIn_12 : decode cX7_shareIn 12 = .ok (.aload_n 0, 1) := by decide +kernel
theorem dX7_shareIn_13 : decode cX7_shareIn 13 = .ok (.getfield 26, 3) := by decide +kernel
theorem dX7_shareIn_16 : decode cX7_shareIn 16 = .ok (.bipush 8, 2) := by decide +kernel
theorem dX7_shareIn_18 : decode cX7_shareIn 18 = .ok (.aload_n 1, 1) := by decide +kernel
theorem dX7_shareIn_19 : decode cX7_shareIn 19 = .ok (.iload 4, 2) := by decide +kernel
theorem dX7_shareIn_21 : decode cX7_shareIn 21 = .ok (.iaload, 1) := by decide +kernel
theorem dX7_shareIn_22 : decode cX7_shareIn 22 = .ok (.imul, 1) := by decide +kernel
theorem dX7_shareIn_23 : decode cX7_shareIn 23 = .ok (.aload_n 1, 1) := by decide +kernel
theorem dX7_shareIn_24 : decode cX7_shareIn 24 = .ok (.iload_n 2, 1) := by decide +kernel
theorem dX7_shareIn_25 : decode cX7_shareIn 25 = .ok (.iaload, 1) := by decide +kernel
theorem dX7_shareIn_26 : decode cX7_shareIn 26 = .ok (.iadd, 1) := by decide +kernel
theorem dX7_shareIn_27 : decode cX7_shareIn 27 = .ok (.iaload, 1) := by decide +kernel
theorem dX7_shareIn_28 : decode cX7_shareIn 28 = .ok (.iadd, 1) := by decide +kernel
theorem dX7_shareIn_29 : decode cX7_shareIn 29 = .ok (.istore_n 3, 1) := by decide +kernel
theorem dX7_shareIn_30 : decode cX7_shareIn 30 = .ok (.iinc 4 1, 3) := by decide +kernel
theorem dX7_shareIn_33 : decode cX7_shareIn 33 = .ok (.goto (-28), 3) := by decide +kernel
theorem dX7_shareIn_36 : decode cX7_shareIn 36 = .ok (.iconst 0, 1) := by decide +kernel
theorem dX7_shareIn_37 : decode cX7_shareIn 37 = .ok (.sipush 1000, 3) := by decide +kernel
theorem dX7_shareIn_40 : decode cX7_shareIn 40 = .ok (.aload_n 0, 1) := by decide +kernel
theorem dX7_shareIn_41 : decode cX7_shareIn 41 = .ok (.aload_n 1, 1) := by decide +kernel
theorem dX7_shareIn_42 : decode cX7_shareIn 42 = .ok (.iload_n 2, 1) := by decide +kernel
theorem dX7_shareIn_43 : decode cX7_shareIn 43 = .ok (.iaload, 1) := by decide +kernel
theorem dX7_shareIn_44 : decode cX7_shareIn 44 = .ok (.invokevirtual 112, 3) := by decide +kernel
theorem dX7_shareIn_47 : decode cX7_shareIn 47 = .ok (.bipush 10, 2) := by decide +kernel
theorem dX7_shareIn_49 : decode cX7_shareIn 49 = .ok (.iload_n 3, 1) := by decide +kernel
theorem dX7_shareIn_50 : decode cX7_shareIn 50 = .ok (.imul, 1) := by decide +kernel
theorem dX7_shareIn_51 : decode cX7_shareIn 51 = .ok (.iadd, 1) := by decide +kernel
theorem dX7_shareIn_52 : decode cX7_shareIn 52 = .ok (.invokestatic 202, 3) := by decide +kernel
theorem dX7_shareIn_55 : decode cX7_shareIn 55 = .ok (.invokestatic 235, 3) := by decide +kernel
theorem dX7_shareIn_58 : decode cX7_shareIn 58 = .ok (.ireturn, 1) := by decide +kernel
theorem dX7_leansOf_0 : decode cX7_leansOf 0 = .ok (.iconst 0, 1) := by decide +kernel
theorem dX7_leansOf_1 : decode cX7_leansOf 1 = .ok (.istore_n 3, 1) := by decide +kernel
theorem dX7_leansOf_2 : decode cX7_leansOf 2 = .ok (.iconst 0, 1) := by decide +kernel
theorem dX7_leansOf_3 : decode cX7_leansOf 3 = .ok (.istore 4, 2) := by decide +kernel
theorem dX7_leansOf_5 : decode cX7_leansOf 5 = .ok (.iload 4, 2) := by decide +kernel
theorem dX7_leansOf_7 : decode cX7_leansOf 7 = .ok (.iload_n 2, 1) := by decide +kernel
theorem dX7_leansOf_8 : decode cX7_leansOf 8 = .ok (.if_icmp .ge 31, 3) := by decide +kernel
theorem dX7_leansOf_11 : decode cX7_leansOf 11 = .ok (.iload_n 3, 1) := by decide +kernel
theorem dX7_leansOf_12 : decode cX7_leansOf 12 = .ok (.aload_n 0, 1) := by decide +kernel
theorem dX7_leansOf_13 : decode cX7_leansOf 13 = .ok (.aload_n 1, 1) := by decide +kernel
theorem dX7_leansOf_14 : decode cX7_leansOf 14 = .ok (.iload 4, 2) := by decide +kernel
theorem dX7_leansOf_16 : decode cX7_leansOf 16 = .ok (.invokevirtual 238, 3) := by decide +kernel
theorem dX7_leansOf_19 : decode cX7_leansOf 19 = .ok (.aload_n 0, 1) := by decide +kernel
theorem dX7_leansOf_20 : decode cX7_leansOf 20 = .ok (.aload_n 1, 1) := by decide +kernel
theorem dX7_leansOf_21 : decode cX7_leansOf 21 = .ok (.iload 4, 2) := by decide +kernel
theorem dX7_leansOf_23 : decode cX7_leansOf 23 = .ok (.iaload, 1) := by decide +kernel
theorem dX7_leansOf_24 : decode cX7_leansOf 24 = .ok (.invokevirtual 112, 3) := by decide +kernel
theorem dX7_leansOf_27 : decode cX7_leansOf 27 = .ok (.isub, 1) := by decide +kernel
theorem dX7_leansOf_28 : decode cX7_leansOf 28 = .ok (.invokestatic 242, 3) := by decide +kernel
theorem dX7_leansOf_31 : decode cX7_leansOf 31 = .ok (.iadd, 1) := by decide +kernel
theorem dX7_leansOf_32 : decode cX7_leansOf 32 = .ok (.istore_n 3, 1) := by decide +kernel
theorem dX7_leansOf_33 : decode cX7_leansOf 33 = .ok (.iinc 4 1, 3) := by decide +kernel
theorem dX7_leansOf_36 : decode cX7_leansOf 36 = .ok (.goto (-31), 3) := by decide +kernel
theorem dX7_leansOf_39 : decode cX7_leansOf 39 = .ok (.iload_n 3, 1) := by decide +kernel
theorem dX7_leansOf_40 : decode cX7_leansOf 40 = .ok (.ireturn, 1) := by decide +kernel
theorem dX7_next_0 : decode cX7_next 0 = .ok (.aload_n 0, 1) := by decide +kernel
theorem dX7_next_1 : decode cX7_next 1 = .ok (.getfield 245, 3) := by decide +kernel
theorem dX7_next_4 : decode cX7_next 4 = .ok (.iconst 2, 1) := by decide +kernel
theorem dX7_next_5 : decode cX7_next 5 = .ok (.isub, 1) := by decide +kernel
theorem dX7_next_6 : decode cX7_next 6 = .ok (.istore_n 1, 1) := by decide +kernel
theorem dX7_next_7 : decode cX7_next 7 = .ok (.iload_n 1, 1) := by decide +kernel
theorem dX7_next_8 : decode cX7_next 8 = .ok (.ifCond .lt 26, 3) := by decide +kernel
theorem dX7_next_11 : decode cX7_next 11 = .ok (.aload_n 0, 1) := by decide +kernel
theorem dX7_next_12 : decode cX7_next 12 = .ok (.getfield 65, 3) := by decide +kernel
theorem dX7_next_15 : decode cX7_next 15 = .ok (.iload_n 1, 1) := by decide +kernel
theorem dX7_next_16 : decode cX7_next 16 = .ok (.iaload, 1) := by decide +kernel
theorem dX7_next_17 : decode cX7_next 17 = .ok (.aload_n 0, 1) := by decide +kernel
theorem dX7_next_18 : decode cX7_next 18 = .ok (.getfield 65, 3) := by decide +kernel
theorem dX7_next_21 : decode cX7_next 21 = .ok (.iload_n 1, 1) := by decide +kernel
theorem dX7_next_22 : decode cX7_next 22 = .ok (.iconst 1, 1) := by decide +kernel
theorem dX7_next_23 : decode cX7_next 23 = .ok (.iadd, 1) := by decide +kernel
theorem dX7_next_24 : decode cX7_next 24 = .ok (.iaload, 1) := by decide +kernel
theorem dX7_next_25 : decode cX7_next 25 = .ok (.if_icmp .le 9, 3) := by decide +kernel
theorem dX7_next_28 : decode cX7_next 28 = .ok (.iinc 1 (-1), 3) := by decide +kernel
theorem dX7_next_31 : decode cX7_next 31 = .ok (.goto (-24), 3) := by decide +kernel
theorem dX7_next_34 : decode cX7_next 34 = .ok (.iload_n 1, 1) := by decide +kernel
theorem dX7_next_35 : decode cX7_next 35 = .ok (.ifCond .ge 5, 3) := by decide +kernel
theorem dX7_next_38 : decode cX7_next 38 = .ok (.iconst 0, 1) := by decide +kernel
theorem dX7_next_39 : decode cX7_next 39 = .ok (.ireturn, 1) := by decide +kernel
theorem dX7_next_40 : decode cX7_next 40 = .ok (.aload_n 0, 1) := by decide +kernel
theorem dX7_next_41 : decode cX7_next 41 = .ok (.getfield 245, 3) := by decide +kernel
theorem dX7_next_44 : decode cX7_next 44 = .ok (.iconst 1, 1) := by decide +kernel
theorem dX7_next_45 : decode cX7_next 45 = .ok (.isub, 1) := by decide +kernel
theorem dX7_next_46 : decode cX7_next 46 = .ok (.istore_n 2, 1) := by decide +kernel
theorem dX7_next_47 : decode cX7_next 47 = .ok (.aload_n 0, 1) := by decide +kernel
theorem dX7_next_48 : decode cX7_next 48 = .ok (.getfield 65, 3) := by decide +kernel
theorem dX7_next_51 : decode cX7_next 51 = .ok (.iload_n 2, 1) := by decide +kernel
theorem dX7_next_52 : decode cX7_next 52 = .ok (.iaload, 1) := by decide +kernel
theorem dX7_next_53 : decode cX7_next 53 = .ok (.aload_n 0, 1) := by decide +kernel
theorem dX7_next_54 : decode cX7_next 54 = .ok (.getfield 65, 3) := by decide +kernel
theorem dX7_next_57 : decode cX7_next 57 = .ok (.iload_n 1, 1) := by decide +kernel
theorem dX7_next_58 : decode cX7_next 58 = .ok (.iaload, 1) := by decide +kernel
theorem dX7_next_59 : decode cX7_next 59 = .ok (.if_icmp .ge 9, 3) := by decide +kernel
theorem dX7_next_62 : decode cX7_next 62 = .ok (.iinc 2 (-1), 3) := by decide +kernel
theorem dX7_next_65 : decode cX7_next 65 = .ok (.goto (-18), 3) := by decide +kernel
theorem dX7_next_68 : decode cX7_next 68 = .ok (.aload_n 0, 1) := by decide +kernel
theorem dX7_next_69 : decode cX7_next 69 = .ok (.iload_n 1, 1) := by decide +kernel
theorem dX7_next_70 : decode cX7_next 70 = .ok (.iload_n 2, 1) := by decide +kernel
theorem dX7_next_71 : decode cX7_next 71 = .ok (.invokevirtual 248, 3) := by decide +kernel
theorem dX7_next_74 : decode cX7_next 74 = .ok (.iload_n 1, 1) := by decide +kernel
theorem dX7_next_75 : decode cX7_next 75 = .ok (.iconst 1, 1) := by decide +kernel
theorem dX7_next_76 : decode cX7_next 76 = .ok (.iadd, 1) := by decide +kernel
theorem dX7_next_77 : decode cX7_next 77 = .ok (.istore_n 3, 1) := by decide +kernel
theorem dX7_next_78 : decode cX7_next 78 = .ok (.aload_n 0, 1) := by decide +kernel
theorem dX7_next_79 : decode cX7_next 79 = .ok (.getfield 245, 3) := by decide +kernel
theorem dX7_next_82 : decode cX7_next 82 = .ok (.iconst 1, 1) := by decide +kernel
theorem dX7_next_83 : decode cX7_next 83 = .ok (.isub, 1) := by decide +kernel
theorem dX7_next_84 : decode cX7_next 84 = .ok (.istore 4, 2) := by decide +kernel
theorem dX7_next_86 : decode cX7_next 86 = .ok (.iload_n 3, 1) := by decide +kernel
theorem dX7_next_87 : decode cX7_next 87 = .ok (.iload 4, 2) := by decide +kernel
theorem dX7_next_89 : decode cX7_next 89 = .ok (.if_icmp .ge 19, 3) := by decide +kernel
theorem dX7_next_92 : decode cX7_next 92 = .ok (.aload_n 0, 1) := by decide +kernel
theorem dX7_next_93 : decode cX7_next 93 = .ok (.iload_n 3, 1) := by decide +kernel
theorem dX7_next_94 : decode cX7_next 94 = .ok (.iload 4, 2) := by decide +kernel
theorem dX7_next_96 : decode cX7_next 96 = .ok (.invokevirtual 248, 3) := by decide +kernel
theorem dX7_next_99 : decode cX7_next 99 = .ok (.iinc 3 1, 3) := by decide +kernel
theorem dX7_next_102 : decode cX7_next 102 = .ok (.iinc 4 (-1), 3) := by decide +kernel
theorem dX7_next_105 : decode cX7_next 105 = .ok (.goto (-19), 3) := by decide +kernel
theorem dX7_next_108 : decode cX7_next 108 = .ok (.iconst 1, 1) := by decide +kernel
theorem dX7_next_109 : decode cX7_next 109 = .ok (.ireturn, 1) := by decide +kernel
theorem dX7_swap_0 : decode cX7_swap 0 = .ok (.aload_n 0, 1) := by decide +kernel
theorem dX7_swap_1 : decode cX7_swap 1 = .ok (.getfield 65, 3) := by decide +kernel
theorem dX7_swap_4 : decode cX7_swap 4 = .ok (.iload_n 1, 1) := by decide +kernel
theorem dX7_swap_5 : decode cX7_swap 5 = .ok (.iaload, 1) := by decide +kernel
theorem dX7_swap_6 : decode cX7_swap 6 = .ok (.istore_n 3, 1) := by decide +kernel
theorem dX7_swap_7 : decode cX7_swap 7 = .ok (.aload_n 0, 1) := by decide +kernel
theorem dX7_swap_8 : decode cX7_swap 8 = .ok (.getfield 65, 3) := by decide +kernel
theorem dX7_swap_11 : decode cX7_swap 11 = .ok (.iload_n 1, 1) := by decide +kernel
theorem dX7_swap_12 : decode cX7_swap 12 = .ok (.aload_n 0, 1) := by decide +kernel
theorem dX7_swap_13 : decode cX7_swap 13 = .ok (.getfield 65, 3) := by decide +kernel
theorem dX7_swap_16 : decode cX7_swap 16 = .ok (.iload_n 2, 1) := by decide +kernel
theorem dX7_swap_17 : decode cX7_swap 17 = .ok (.iaload, 1) := by decide +kernel
theorem dX7_swap_18 : decode cX7_swap 18 = .ok (.iastore, 1) := by decide +kernel
theorem dX7_swap_19 : decode cX7_swap 19 = .ok (.aload_n 0, 1) := by decide +kernel
theorem dX7_swap_20 : decode cX7_swap 20 = .ok (.getfield 65, 3) := by decide +kernel
theorem dX7_swap_23 : decode cX7_swap 23 = .ok (.iload_n 2, 1) := by decide +kernel
theorem dX7_swap_24 : decode cX7_swap 24 = .ok (.iload_n 3, 1) := by decide +kernel
theorem dX7_swap_25 : decode cX7_swap 25 = .ok (.iastore, 1) := by decide +kernel
theorem dX7_swap_26 : decode cX7_swap 26 = .ok (.return_, 1) := by decide +kernel
theorem dX7_order_0 : decode cX7_order 0 = .ok (.iload_n 2, 1) := by decide +kernel
theorem dX7_order_1 : decode cX7_order 1 = .ok (.iconst (-1), 1) := by decide +kernel
theorem dX7_order_2 : decode cX7_order 2 = .ok (.iload_n 1, 1) := by decide +kernel
theorem dX7_order_3 : decode cX7_order 3 = .ok (.invokestatic 252, 3) := by decide +kernel
theorem dX7_order_6 : decode cX7_order 6 = .ok (.iconst 1, 1) := by decide +kernel
theorem dX7_order_7 : decode cX7_order 7 = .ok (.isub, 1) := by decide +kernel
theorem dX7_order_8 : decode cX7_order 8 = .ok (.invokestatic 88, 3) := by decide +kernel
theorem dX7_order_11 : decode cX7_order 11 = .ok (.ifCond .ne 10, 3) := by decide +kernel
theorem dX7_order_14 : decode cX7_order 14 = .ok (.aload_n 0, 1) := by decide +kernel
theorem dX7_order_15 : decode cX7_order 15 = .ok (.bipush (-5), 2) := by decide +kernel
theorem dX7_order_17 : decode cX7_order 17 = .ok (.invokevirtual 81, 3) := by decide +kernel
theorem dX7_order_20 : decode cX7_order 20 = .ok (.ireturn, 1) := by decide +kernel
theorem dX7_order_21 : decode cX7_order 21 = .ok (.iload_n 1, 1) := by decide +kernel
theorem dX7_order_22 : decode cX7_order 22 = .ok (.ifCond .lt 22, 3) := by decide +kernel
theorem dX7_order_25 : decode cX7_order 25 = .ok (.iload_n 1, 1) := by decide +kernel
theorem dX7_order_26 : decode cX7_order 26 = .ok (.iconst 1, 1) := by decide +kernel
theorem dX7_order_27 : decode cX7_order 27 = .ok (.aload_n 0, 1) := by decide +kernel
theorem dX7_order_28 : decode cX7_order 28 = .ok (.getfield 85, 3) := by decide +kernel
theorem dX7_order_31 : decode cX7_order 31 = .ok (.ishl, 1) := by decide +kernel
theorem dX7_order_32 : decode cX7_order 32 = .ok (.if_icmp .ge 12, 3) := by decide +kernel
theorem dX7_order_35 : decode cX7_order 35 = .ok (.iload_n 1, 1) := by decide +kernel
theorem dX7_order_36 : decode cX7_order 36 = .ok (.invokestatic 252, 3) := by decide +kernel
theorem dX7_order_39 : decode cX7_order 39 = .ok (.bipush 6, 2) := by decide +kernel
theorem dX7_order_41 : decode cX7_order 41 = .ok (.if_icmp .le 10, 3) := by decide +kernel
theorem dX7_order_44 : decode cX7_order 44 = .ok (.aload_n 0, 1) := by decide +kernel
theorem dX7_order_45 : decode cX7_order 45 = .ok (.bipush (-6), 2) := by decide +kernel
theorem dX7_order_47 : decode cX7_order 47 = .ok (.invokevirtual 81, 3) := by decide +kernel
theorem dX7_order_50 : decode cX7_order 50 = .ok (.ireturn, 1) := by decide +kernel
theorem dX7_order_51 : decode cX7_order 51 = .ok (.aload_n 0, 1) := by decide +kernel
theorem dX7_order_52 : decode cX7_order 52 = .ok (.iconst 0, 1) := by decide +kernel
theorem dX7_order_53 : decode cX7_order 53 = .ok (.putfield 245, 3) := by decide +kernel
theorem dX7_order_56 : decode cX7_order 56 = .ok (.iconst 0, 1) := by decide +kernel
theorem dX7_order_57 : decode cX7_order 57 = .ok (.istore_n 3, 1) := by decide +kernel
theorem dX7_order_58 : decode cX7_order 58 = .ok (.iload_n 3, 1) := by decide +kernel
theorem dX7_order_59 : decode cX7_order 59 = .ok (.aload_n 0, 1) := by decide +kernel
theorem dX7_order_60 : decode cX7_order 60 = .ok (.getfield 85, 3) := by decide +kernel
theorem dX7_order_63 : decode cX7_order 63 = .ok (.if_icmp .ge 34, 3) := by decide +kernel
theorem dX7_order_66 : decode cX7_order 66 = .ok (.iload_n 1, 1) := by decide +kernel
theorem dX7_order_67 : decode cX7_order 67 = .ok (.iload_n 3, 1) := by decide +kernel
theorem dX7_order_68 : decode cX7_order 68 = .ok (.invokestatic 257, 3) := by decide +kernel
theorem dX7_order_71 : decode cX7_order 71 = .ok (.ifCond .eq 20, 3) := by decide +kernel
theorem dX7_order_74 : decode cX7_order 74 = .ok (.aload_n 0, 1) := by decide +kernel
theorem dX7_order_75 : decode cX7_order 75 = .ok (.getfield 65, 3) := by decide +kernel
theorem dX7_order_78 : decode cX7_order 78 = .ok (.aload_n 0, 1) := by decide +kernel
theorem dX7_order_79 : decode cX7_order 79 = .ok (.dup, 1) := by decide +kernel
theorem dX7_order_80 : decode cX7_order 80 = .ok (.getfield 245, 3) := by decide +kernel
theorem dX7_order_83 : decode cX7_order 83 = .ok (.dup_x1, 1) := by decide +kernel
theorem dX7_order_84 : decode cX7_order 84 = .ok (.iconst 1, 1) := by decide +kernel
theorem dX7_order_85 : decode cX7_order 85 = .ok (.iadd, 1) := by decide +kernel
theorem dX7_order_86 : decode cX7_order 86 = .ok (.putfield 245, 3) := by decide +kernel
theorem dX7_order_89 : decode cX7_order 89 = .ok (.iload_n 3, 1) := by decide +kernel
theorem dX7_order_90 : decode cX7_order 90 = .ok (.iastore, 1) := by decide +kernel
theorem dX7_order_91 : decode cX7_order 91 = .ok (.iinc 3 1, 3) := by decide +kernel
theorem dX7_order_94 : decode cX7_order 94 = .ok (.goto (-36), 3) := by decide +kernel
theorem dX7_order_97 : decode cX7_order 97 = .ok (.iconst (-1), 1) := by decide +kernel
theorem dX7_order_98 : decode cX7_order 98 = .ok (.istore_n 3, 1) := by decide +kernel
theorem dX7_order_99 : decode cX7_order 99 = .ok (.iconst 1, 1) := by decide +kernel
theorem dX7_order_100 : decode cX7_order 100 = .ok (.istore 4, 2) := by decide +kernel
theorem dX7_order_102 : decode cX7_order 102 = .ok (.iload 4, 2) := by decide +kernel
theorem dX7_order_104 : decode cX7_order 104 = .ok (.ifCond .eq 72, 3) := by decide +kernel
theorem dX7_order_107 : decode cX7_order 107 = .ok (.aload_n 0, 1) := by decide +kernel
theorem dX7_order_108 : decode cX7_order 108 = .ok (.aload_n 0, 1) := by decide +kernel
theorem dX7_order_109 : decode cX7_order 109 = .ok (.getfield 65, 3) := by decide +kernel
theorem dX7_order_112 : decode cX7_order 112 = .ok (.aload_n 0, 1) := by decide +kernel
theorem dX7_order_113 : decode cX7_order 113 = .ok (.getfield 245, 3) := by decide +kernel
theorem dX7_order_116 : decode cX7_order 116 = .ok (.invokevirtual 260, 3) := by decide +kernel
theorem dX7_order_119 : decode cX7_order 119 = .ok (.istore 5, 2) := by decide +kernel
theorem dX7_order_121 : decode cX7_order 121 = .ok (.iload_n 3, 1) := by decide +kernel
theorem dX7_order_122 : decode cX7_order 122 = .ok (.iconst (-1), 1) := by decide +kernel
theorem dX7_order_123 : decode cX7_order 123 = .ok (.if_icmp .eq 9, 3) := by decide +kernel
theorem dX7_order_126 : decode cX7_order 126 = .ok (.iload 5, 2) := by decide +kernel
theorem dX7_order_128 : decode cX7_order 128 = .ok (.iload_n 3, 1) := by decide +kernel
theorem dX7_order_129 : decode cX7_order 129 = .ok (.if_icmp .ge 38, 3) := by decide +kernel
theorem dX7_order_132 : decode cX7_order 132 = .ok (.iload 5, 2) := by decide +kernel
theorem dX7_order_134 : decode cX7_order 134 = .ok (.istore_n 3, 1) := by decide +kernel
theorem dX7_order_135 : decode cX7_order 135 = .ok (.iconst 0, 1) := by decide +kernel
theorem dX7_order_136 : decode cX7_order 136 = .ok (.istore 6, 2) := by decide +kernel
theorem dX7_order_138 : decode cX7_order 138 = .ok (.iload 6, 2) := by decide +kernel
theorem dX7_order_140 : decode cX7_order 140 = .ok (.aload_n 0, 1) := by decide +kernel
theorem dX7_order_141 : decode cX7_order 141 = .ok (.getfield 245, 3) := by decide +kernel
theorem dX7_order_144 : decode cX7_order 144 = .ok (.if_icmp .ge 23, 3) := by decide +kernel
theorem dX7_order_147 : decode cX7_order 147 = .ok (.aload_n 0, 1) := by decide +kernel
theorem dX7_order_148 : decode cX7_order 148 = .ok (.getfield 68, 3) := by decide +kernel
theorem dX7_order_151 : decode cX7_order 151 = .ok (.iload 6, 2) := by decide +kernel
theorem dX7_order_153 : decode cX7_order 153 = .ok (.aload_n 0, 1) := by decide +kernel
theorem dX7_order_154 : decode cX7_order 154 = .ok (.getfield 65, 3) := by decide +kernel
theorem dX7_order_157 : decode cX7_order 157 = .ok (.iload 6, 2) := by decide +kernel
theorem dX7_order_159 : decode cX7_order 159 = .ok (.iaload, 1) := by decide +kernel
theorem dX7_order_160 : decode cX7_order 160 = .ok (.iastore, 1) := by decide +kernel
theorem dX7_order_161 : decode cX7_order 161 = .ok (.iinc 6 1, 3) := by decide +kernel
theorem dX7_order_164 : decode cX7_order 164 = .ok (.goto (-26), 3) := by decide +kernel
theorem dX7_order_167 : decode cX7_order 167 = .ok (.aload_n 0, 1) := by decide +kernel
theorem dX7_order_168 : decode cX7_order 168 = .ok (.invokevirtual 263, 3) := by decide +kernel
theorem dX7_order_171 : decode cX7_order 171 = .ok (.istore 4, 2) := by decide +kernel
theorem dX7_order_173 : decode cX7_order 173 = .ok (.goto (-71), 3) := by decide +kernel
theorem dX7_order_176 : decode cX7_order 176 = .ok (.iload_n 2, 1) := by decide +kernel
theorem dX7_order_177 : decode cX7_order 177 = .ok (.iconst (-1), 1) := by decide +kernel
theorem dX7_order_178 : decode cX7_order 178 = .ok (.if_icmp .ne 7, 3) := by decide +kernel
theorem dX7_order_181 : decode cX7_order 181 = .ok (.iload_n 3, 1) := by decide +kernel
theorem dX7_order_182 : decode cX7_order 182 = .ok (.goto 9, 3) := by decide +kernel
theorem dX7_order_185 : decode cX7_order 185 = .ok (.aload_n 0, 1) := by decide +kernel
theorem dX7_order_186 : decode cX7_order 186 = .ok (.getfield 68, 3) := by decide +kernel
theorem dX7_order_189 : decode cX7_order 189 = .ok (.iload_n 2, 1) := by decide +kernel
theorem dX7_order_190 : decode cX7_order 190 = .ok (.iaload, 1) := by decide +kernel
theorem dX7_order_191 : decode cX7_order 191 = .ok (.ireturn, 1) := by decide +kernel
theorem dX7_blame_0 : decode cX7_blame 0 = .ok (.iconst (-1), 1) := by decide +kernel
theorem dX7_blame_1 : decode cX7_blame 1 = .ok (.istore_n 1, 1) := by decide +kernel
theorem dX7_blame_2 : decode cX7_blame 2 = .ok (.iconst 0, 1) := by decide +kernel
theorem dX7_blame_3 : decode cX7_blame 3 = .ok (.istore_n 2, 1) := by decide +kernel
theorem dX7_blame_4 : decode cX7_blame 4 = .ok (.iconst 0, 1) := by decide +kernel
theorem dX7_blame_5 : decode cX7_blame 5 = .ok (.istore_n 3, 1) := by decide +kernel
theorem dX7_blame_6 : decode cX7_blame 6 = .ok (.iload_n 3, 1) := by decide +kernel
theorem dX7_blame_7 : decode cX7_blame 7 = .ok (.aload_n 0, 1) := by decide +kernel
theorem dX7_blame_8 : decode cX7_blame 8 = .ok (.getfield 85, 3) := by decide +kernel
theorem dX7_blame_11 : decode cX7_blame 11 = .ok (.if_icmp .ge 64, 3) := by decide +kernel
theorem dX7_blame_14 : decode cX7_blame 14 = .ok (.iconst 0, 1) := by decide +kernel
theorem dX7_blame_15 : decode cX7_blame 15 = .ok (.istore 4, 2) := by decide +kernel
theorem dX7_blame_17 : decode cX7_blame 17 = .ok (.iload 4, 2) := by decide +kernel
theorem dX7_blame_19 : decode cX7_blame 19 = .ok (.aload_n 0, 1) := by decide +kernel
theorem dX7_blame_20 : decode cX7_blame 20 = .ok (.getfield 85, 3) := by decide +kernel
theorem dX7_blame_23 : decode cX7_blame 23 = .ok (.if_icmp .ge 46, 3) := by decide +kernel
theorem dX7_blame_26 : decode cX7_blame 26 = .ok (.aload_n 0, 1) := by decide +kernel
theorem dX7_blame_27 : decode cX7_blame 27 = .ok (.getfield 26, 3) := by decide +kernel
theorem dX7_blame_30 : decode cX7_blame 30 = .ok (.bipush 8, 2) := by decide +kernel
theorem dX7_blame_32 : decode cX7_blame 32 = .ok (.iload_n 3, 1) := by decide +kernel
theorem dX7_blame_33 : decode cX7_blame 33 = .ok (.imul, 1) := by decide +kernel
theorem dX7_blame_34 : decode cX7_blame 34 = .ok (.iload 4, 2) := by decide +kernel
theorem dX7_blame_36 : decode cX7_blame 36 = .ok (.iadd, 1) := by decide +kernel
theorem dX7_blame_37 : decode cX7_blame 37 = .ok (.iaload, 1) := by decide +kernel
theorem dX7_blame_38 : decode cX7_blame 38 = .ok (.invokestatic 242, 3) := by decide +kernel
theorem dX7_blame_41 : decode cX7_blame 41 = .ok (.istore 5, 2) := by decide +kernel
theorem dX7_blame_43 : decode cX7_blame 43 = .ok (.iload 5, 2) := by decide +kernel
theorem dX7_blame_45 : decode cX7_blame 45 = .ok (.iload_n 2, 1) := by decide +kernel
theorem dX7_blame_46 : decode cX7_blame 46 = .ok (.if_icmp .gt 6, 3) := by decide +kernel
theorem dX7_blame_49 : decode cX7_blame 49 = .ok (.goto 14, 3) := by decide +kernel
theorem dX7_blame_52 : decode cX7_blame 52 = .ok (.iload 5, 2) := by decide +kernel
theorem dX7_blame_54 : decode cX7_blame 54 = .ok (.istore_n 2, 1) := by decide +kernel
theorem dX7_blame_55 : decode cX7_blame 55 = .ok (.bipush 100, 2) := by decide +kernel
theorem dX7_blame_57 : decode cX7_blame 57 = .ok (.iload_n 3, 1) := by decide +kernel
theorem dX7_blame_58 : decode cX7_blame 58 = .ok (.imul, 1) := by decide +kernel
theorem dX7_blame_59 : decode cX7_blame 59 = .ok (.iload 4, 2) := by decide +kernel
theorem dX7_blame_61 : decode cX7_blame 61 = .ok (.iadd, 1) := by decide +kernel
theorem dX7_blame_62 : decode cX7_blame 62 = .ok (.istore_n 1, 1) := by decide +kernel
theorem dX7_blame_63 : decode cX7_blame 63 = .ok (.iinc 4 1, 3) := by decide +kernel
theorem dX7_blame_66 : decode cX7_blame 66 = .ok (.goto (-49), 3) := by decide +kernel
theorem dX7_blame_69 : decode cX7_blame 69 = .ok (.iinc 3 1, 3) := by decide +kernel
theorem dX7_blame_72 : decode cX7_blame 72 = .ok (.goto (-66), 3) := by decide +kernel
theorem dX7_blame_75 : decode cX7_blame 75 = .ok (.iload_n 1, 1) := by decide +kernel
theorem dX7_blame_76 : decode cX7_blame 76 = .ok (.ireturn, 1) := by decide +kernel
theorem dX7_nothing_0 : decode cX7_nothing 0 = .ok (.aload_n 0, 1) := by decide +kernel
theorem dX7_nothing_1 : decode cX7_nothing 1 = .ok (.iload_n 1, 1) := by decide +kernel
theorem dX7_nothing_2 : decode cX7_nothing 2 = .ok (.invokevirtual 102, 3) := by decide +kernel
theorem dX7_nothing_5 : decode cX7_nothing 5 = .ok (.ifCond .eq 11, 3) := by decide +kernel
theorem dX7_nothing_8 : decode cX7_nothing 8 = .ok (.aload_n 0, 1) := by decide +kernel
theorem dX7_nothing_9 : decode cX7_nothing 9 = .ok (.iload_n 2, 1) := by decide +kernel
theorem dX7_nothing_10 : decode cX7_nothing 10 = .ok (.invokevirtual 102, 3) := by decide +kernel
theorem dX7_nothing_13 : decode cX7_nothing 13 = .ok (.ifCond .ne 9, 3) := by decide +kernel
theorem dX7_nothing_16 : decode cX7_nothing 16 = .ok (.aload_n 0, 1) := by decide +kernel
theorem dX7_nothing_17 : decode cX7_nothing 17 = .ok (.iconst (-1), 1) := by decide +kernel
theorem dX7_nothing_18 : decode cX7_nothing 18 = .ok (.invokevirtual 127, 3) := by decide +kernel
theorem dX7_nothing_21 : decode cX7_nothing 21 = .ok (.ireturn, 1) := by decide +kernel
theorem dX7_nothing_22 : decode cX7_nothing 22 = .ok (.sipush 1000, 3) := by decide +kernel
theorem dX7_nothing_25 : decode cX7_nothing 25 = .ok (.aload_n 0, 1) := by decide +kernel
theorem dX7_nothing_26 : decode cX7_nothing 26 = .ok (.iload_n 1, 1) := by decide +kernel
theorem dX7_nothing_27 : decode cX7_nothing 27 = .ok (.invokevirtual 112, 3) := by decide +kernel
theorem dX7_nothing_30 : decode cX7_nothing 30 = .ok (.isub, 1) := by decide +kernel
theorem dX7_nothing_31 : decode cX7_nothing 31 = .ok (.aload_n 0, 1) := by decide +kernel
theorem dX7_nothing_32 : decode cX7_nothing 32 = .ok (.iload_n 2, 1) := by decide +kernel
theorem dX7_nothing_33 : decode cX7_nothing 33 = .ok (.invokevirtual 112, 3) := by decide +kernel
theorem dX7_nothing_36 : decode cX7_nothing 36 = .ok (.isub, 1) := by decide +kernel
theorem dX7_nothing_37 : decode cX7_nothing 37 = .ok (.ireturn, 1) := by decide +kernel
theorem dX7_enough_0 : decode cX7_enough 0 = .ok (.aload_n 0, 1) := by decide +kernel
theorem dX7_enough_1 : decode cX7_enough 1 = .ok (.iload_n 1, 1) := by decide +kernel
theorem dX7_enough_2 : decode cX7_enough 2 = .ok (.invokevirtual 102, 3) := by decide +kernel
theorem dX7_enough_5 : decode cX7_enough 5 = .ok (.ifCond .ne 9, 3) := by decide +kernel
theorem dX7_enough_8 : decode cX7_enough 8 = .ok (.aload_n 0, 1) := by decide +kernel
theorem dX7_enough_9 : decode cX7_enough 9 = .ok (.iconst (-1), 1) := by decide +kernel
theorem dX7_enough_10 : decode cX7_enough 10 = .ok (.invokevirtual 266, 3) := by decide +kernel
theorem dX7_enough_13 : decode cX7_enough 13 = .ok (.ireturn, 1) := by decide +kernel
theorem dX7_enough_14 : decode cX7_enough 14 = .ok (.iload_n 2, 1) := by decide +kernel
theorem dX7_enough_15 : decode cX7_enough 15 = .ok (.iconst 0, 1) := by decide +kernel
theorem dX7_enough_16 : decode cX7_enough 16 = .ok (.sipush 1000, 3) := by decide +kernel
theorem dX7_enough_19 : decode cX7_enough 19 = .ok (.invokestatic 88, 3) := by decide +kernel
theorem dX7_enough_22 : decode cX7_enough 22 = .ok (.ifCond .ne 10, 3) := by decide +kernel
theorem dX7_enough_25 : decode cX7_enough 25 = .ok (.aload_n 0, 1) := by decide +kernel
theorem dX7_enough_26 : decode cX7_enough 26 = .ok (.bipush (-6), 2) := by decide +kernel
theorem dX7_enough_28 : decode cX7_enough 28 = .ok (.invokevirtual 266, 3) := by decide +kernel
theorem dX7_enough_31 : decode cX7_enough 31 = .ok (.ireturn, 1) := by decide +kernel
theorem dX7_enough_32 : decode cX7_enough 32 = .ok (.iconst 0, 1) := by decide +kernel
theorem dX7_enough_33 : decode cX7_enough 33 = .ok (.istore_n 3, 1) := by decide +kernel
theorem dX7_enough_34 : decode cX7_enough 34 = .ok (.iload_n 3, 1) := by decide +kernel
theorem dX7_enough_35 : decode cX7_enough 35 = .ok (.bipush 10, 2) := by decide +kernel
theorem dX7_enough_37 : decode cX7_enough 37 = .ok (.if_icmp .ge 24, 3) := by decide +kernel
theorem dX7_enough_40 : decode cX7_enough 40 = .ok (.aload_n 0, 1) := by decide +kernel
theorem dX7_enough_41 : decode cX7_enough 41 = .ok (.iload_n 1, 1) := by decide +kernel
theorem dX7_enough_42 : decode cX7_enough 42 = .ok (.iload_n 3, 1) := by decide +kernel
theorem dX7_enough_43 : decode cX7_enough 43 = .ok (.invokevirtual 229, 3) := by decide +kernel
theorem dX7_enough_46 : decode cX7_enough 46 = .ok (.invokestatic 242, 3) := by decide +kernel
theorem dX7_enough_49 : decode cX7_enough 49 = .ok (.iload_n 2, 1) := by decide +kernel
theorem dX7_enough_50 : decode cX7_enough 50 = .ok (.if_icmp .gt 5, 3) := by decide +kernel
theorem dX7_enough_53 : decode cX7_enough 53 = .ok (.iload_n 3, 1) := by decide +kernel
theorem dX7_enough_54 : decode cX7_enough 54 = .ok (.ireturn, 1) := by decide +kernel
theorem dX7_enough_55 : decode cX7_enough 55 = .ok (.iinc 3 1, 3) := by decide +kernel
theorem dX7_enough_58 : decode cX7_enough 58 = .ok (.goto (-24), 3) := by decide +kernel
theorem dX7_enough_61 : decode cX7_enough 61 = .ok (.iconst (-1), 1) := by decide +kernel
theorem dX7_enough_62 : decode cX7_enough 62 = .ok (.ireturn, 1) := by decide +kernel
theorem dX7_costOf_0 : decode cX7_costOf 0 = .ok (.iconst 0, 1) := by decide +kernel
theorem dX7_costOf_1 : decode cX7_costOf 1 = .ok (.istore_n 2, 1) := by decide +kernel
theorem dX7_costOf_2 : decode cX7_costOf 2 = .ok (.iconst 0, 1) := by decide +kernel
theorem dX7_costOf_3 : decode cX7_costOf 3 = .ok (.istore_n 3, 1) := by decide +kernel
theorem dX7_costOf_4 : decode cX7_costOf 4 = .ok (.iload_n 3, 1) := by decide +kernel
theorem dX7_costOf_5 : decode cX7_costOf 5 = .ok (.iload_n 1, 1) := by decide +kernel
theorem dX7_costOf_6 : decode cX7_costOf 6 = .ok (.if_icmp .ge 48, 3) := by decide +kernel
theorem dX7_costOf_9 : decode cX7_costOf 9 = .ok (.aload_n 0, 1) := by decide +kernel
theorem dX7_costOf_10 : decode cX7_costOf 10 = .ok (.iload_n 3, 1) := by decide +kernel
theorem dX7_costOf_11 : decode cX7_costOf 11 = .ok (.invokevirtual 220, 3) := by decide +kernel
theorem dX7_costOf_14 : decode cX7_costOf 14 = .ok (.pop, 1) := by decide +kernel
theorem dX7_costOf_15 : decode cX7_costOf 15 = .ok (.iconst 0, 1) := by decide +kernel
theorem dX7_costOf_16 : decode cX7_costOf 16 = .ok (.istore 4, 2) := by decide +kernel
theorem dX7_costOf_18 : decode cX7_costOf 18 = .ok (.iload 4, 2) := by decide +kernel
theorem dX7_costOf_20 : decode cX7_costOf 20 = .ok (.aload_n 0, 1) := by decide +kernel
theorem dX7_costOf_21 : decode cX7_costOf 21 = .ok (.getfield 92, 3) := by decide +kernel
theorem dX7_costOf_24 : decode cX7_costOf 24 = .ok (.if_icmp .ge 24, 3) := by decide +kernel
theorem dX7_costOf_27 : decode cX7_costOf 27 = .ok (.iload_n 2, 1) := by decide +kernel
theorem dX7_costOf_28 : decode cX7_costOf 28 = .ok (.aload_n 0, 1) := by decide +kernel
theorem dX7_costOf_29 : decode cX7_costOf 29 = .ok (.getfield 71, 3) := by decide +kernel
theorem dX7_costOf_32 : decode cX7_costOf 32 = .ok (.aload_n 0, 1) := by decide +kernel
theorem dX7_costOf_33 : decode cX7_costOf 33 = .ok (.getfield 62, 3) := by decide +kernel
theorem dX7_costOf_36 : decode cX7_costOf 36 = .ok (.iload 4, 2) := by decide +kernel
theorem dX7_costOf_38 : decode cX7_costOf 38 = .ok (.iaload, 1) := by decide +kernel
theorem dX7_costOf_39 : decode cX7_costOf 39 = .ok (.imul, 1) := by decide +kernel
theorem dX7_costOf_40 : decode cX7_costOf 40 = .ok (.iadd, 1) := by decide +kernel
theorem dX7_costOf_41 : decode cX7_costOf 41 = .ok (.istore_n 2, 1) := by decide +kernel
theorem dX7_costOf_42 : decode cX7_costOf 42 = .ok (.iinc 4 1, 3) := by decide +kernel
theorem dX7_costOf_45 : decode cX7_costOf 45 = .ok (.goto (-27), 3) := by decide +kernel
theorem dX7_costOf_48 : decode cX7_costOf 48 = .ok (.iinc 3 1, 3) := by decide +kernel
theorem dX7_costOf_51 : decode cX7_costOf 51 = .ok (.goto (-47), 3) := by decide +kernel
theorem dX7_costOf_54 : decode cX7_costOf 54 = .ok (.iload_n 2, 1) := by decide +kernel
theorem dX7_costOf_55 : decode cX7_costOf 55 = .ok (.ireturn, 1) := by decide +kernel
theorem dX7_cost_0 : decode cX7_cost 0 = .ok (.iload_n 1, 1) := by decide +kernel
theorem dX7_cost_1 : decode cX7_cost 1 = .ok (.invokestatic 223, 3) := by decide +kernel
theorem dX7_cost_4 : decode cX7_cost 4 = .ok (.ifCond .eq 11, 3) := by decide +kernel
theorem dX7_cost_7 : decode cX7_cost 7 = .ok (.aload_n 0, 1) := by decide +kernel
theorem dX7_cost_8 : decode cX7_cost 8 = .ok (.iload_n 1, 1) := by decide +kernel
theorem dX7_cost_9 : decode cX7_cost 9 = .ok (.invokevirtual 269, 3) := by decide +kernel
theorem dX7_cost_12 : decode cX7_cost 12 = .ok (.goto 9, 3) := by decide +kernel
theorem dX7_cost_15 : decode cX7_cost 15 = .ok (.aload_n 0, 1) := by decide +kernel
theorem dX7_cost_16 : decode cX7_cost 16 = .ok (.bipush (-6), 2) := by decide +kernel
theorem dX7_cost_18 : decode cX7_cost 18 = .ok (.invokevirtual 81, 3) := by decide +kernel
theorem dX7_cost_21 : decode cX7_cost 21 = .ok (.ireturn, 1) := by decide +kernel
theorem dX7_fine_0 : decode cX7_fine 0 = .ok (.aload_n 0, 1) := by decide +kernel
theorem dX7_fine_1 : decode cX7_fine 1 = .ok (.iload_n 1, 1) := by decide +kernel
theorem dX7_fine_2 : decode cX7_fine 2 = .ok (.invokevirtual 102, 3) := by decide +kernel
theorem dX7_fine_5 : decode cX7_fine 5 = .ok (.ifCond .ne 9, 3) := by decide +kernel
theorem dX7_fine_8 : decode cX7_fine 8 = .ok (.aload_n 0, 1) := by decide +kernel
theorem dX7_fine_9 : decode cX7_fine 9 = .ok (.iconst (-1), 1) := by decide +kernel
theorem dX7_fine_10 : decode cX7_fine 10 = .ok (.invokevirtual 81, 3) := by decide +kernel
theorem dX7_fine_13 : decode cX7_fine 13 = .ok (.ireturn, 1) := by decide +kernel
theorem dX7_fine_14 : decode cX7_fine 14 = .ok (.iload_n 2, 1) := by decide +kernel
theorem dX7_fine_15 : decode cX7_fine 15 = .ok (.ifCond .ge 10, 3) := by decide +kernel
theorem dX7_fine_18 : decode cX7_fine 18 = .ok (.aload_n 0, 1) := by decide +kernel
theorem dX7_fine_19 : decode cX7_fine 19 = .ok (.bipush (-6), 2) := by decide +kernel
theorem dX7_fine_21 : decode cX7_fine 21 = .ok (.invokevirtual 81, 3) := by decide +kernel
theorem dX7_fine_24 : decode cX7_fine 24 = .ok (.ireturn, 1) := by decide +kernel
theorem dX7_fine_25 : decode cX7_fine 25 = .ok (.iconst 0, 1) := by decide +kernel
theorem dX7_fine_26 : decode cX7_fine 26 = .ok (.istore_n 3, 1) := by decide +kernel
theorem dX7_fine_27 : decode cX7_fine 27 = .ok (.iconst 1, 1) := by decide +kernel
theorem dX7_fine_28 : decode cX7_fine 28 = .ok (.istore 4, 2) := by decide +kernel
theorem dX7_fine_30 : decode cX7_fine 30 = .ok (.iload 4, 2) := by decide +kernel
theorem dX7_fine_32 : decode cX7_fine 32 = .ok (.bipush 10, 2) := by decide +kernel
theorem dX7_fine_34 : decode cX7_fine 34 = .ok (.if_icmp .ge 44, 3) := by decide +kernel
theorem dX7_fine_37 : decode cX7_fine 37 = .ok (.aload_n 0, 1) := by decide +kernel
theorem dX7_fine_38 : decode cX7_fine 38 = .ok (.iload 4, 2) := by decide +kernel
theorem dX7_fine_40 : decode cX7_fine 40 = .ok (.invokevirtual 269, 3) := by decide +kernel
theorem dX7_fine_43 : decode cX7_fine 43 = .ok (.iload_n 2, 1) := by decide +kernel
theorem dX7_fine_44 : decode cX7_fine 44 = .ok (.if_icmp .gt 28, 3) := by decide +kernel
theorem dX7_fine_47 : decode cX7_fine 47 = .ok (.aload_n 0, 1) := by decide +kernel
theorem dX7_fine_48 : decode cX7_fine 48 = .ok (.iload_n 1, 1) := by decide +kernel
theorem dX7_fine_49 : decode cX7_fine 49 = .ok (.iload 4, 2) := by decide +kernel
theorem dX7_fine_51 : decode cX7_fine 51 = .ok (.invokevirtual 229, 3) := by decide +kernel
theorem dX7_fine_54 : decode cX7_fine 54 = .ok (.invokestatic 242, 3) := by decide +kernel
theorem dX7_fine_57 : decode cX7_fine 57 = .ok (.aload_n 0, 1) := by decide +kernel
theorem dX7_fine_58 : decode cX7_fine 58 = .ok (.iload_n 1, 1) := by decide +kernel
theorem dX7_fine_59 : decode cX7_fine 59 = .ok (.iload_n 3, 1) := by decide +kernel
theorem dX7_fine_60 : decode cX7_fine 60 = .ok (.invokevirtual 229, 3) := by decide +kernel
theorem dX7_fine_63 : decode cX7_fine 63 = .ok (.invokestatic 242, 3) := by decide +kernel
theorem dX7_fine_66 : decode cX7_fine 66 = .ok (.if_icmp .ge 6, 3) := by decide +kernel
theorem dX7_fine_69 : decode cX7_fine 69 = .ok (.iload 4, 2) := by decide +kernel
theorem dX7_fine_71 : decode cX7_fine 71 = .ok (.istore_n 3, 1) := by decide +kernel
theorem dX7_fine_72 : decode cX7_fine 72 = .ok (.iinc 4 1, 3) := by decide +kernel
theorem dX7_fine_75 : decode cX7_fine 75 = .ok (.goto (-45), 3) := by decide +kernel
theorem dX7_fine_78 : decode cX7_fine 78 = .ok (.iload_n 3, 1) := by decide +kernel
theorem dX7_fine_79 : decode cX7_fine 79 = .ok (.ireturn, 1) := by decide +kernel
theorem dX7_never_0 : decode cX7_never 0 = .ok (.aload_n 0, 1) := by decide +kernel
theorem dX7_never_1 : decode cX7_never 1 = .ok (.bipush 9, 2) := by decide +kernel
theorem dX7_never_3 : decode cX7_never 3 = .ok (.invokevirtual 220, 3) := by decide +kernel
theorem dX7_never_6 : decode cX7_never 6 = .ok (.pop, 1) := by decide +kernel
theorem dX7_never_7 : decode cX7_never 7 = .ok (.iconst 0, 1) := by decide +kernel
theorem dX7_never_8 : decode cX7_never 8 = .ok (.istore_n 1, 1) := by decide +kernel
theorem dX7_never_9 : decode cX7_never 9 = .ok (.iconst 0, 1) := by decide +kernel
theorem dX7_never_10 : decode cX7_never 10 = .ok (.istore_n 2, 1) := by decide +kernel
theorem dX7_never_11 : decode cX7_never 11 = .ok (.iload_n 2, 1) := by decide +kernel
theorem dX7_never_12 : decode cX7_never 12 = .ok (.aload_n 0, 1) := by decide +kernel
theorem dX7_never_13 : decode cX7_never 13 = .ok (.getfield 92, 3) := by decide +kernel
theorem dX7_never_16 : decode cX7_never 16 = .ok (.if_icmp .ge 24, 3) := by decide +kernel
theorem dX7_never_19 : decode cX7_never 19 = .ok (.aload_n 0, 1) := by decide +kernel
theorem dX7_never_20 : decode cX7_never 20 = .ok (.getfield 59, 3) := by decide +kernel
theorem dX7_never_23 : decode cX7_never 23 = .ok (.iload_n 2, 1) := by decide +kernel
theorem dX7_never_24 : decode cX7_never 24 = .ok (.iaload, 1) := by decide +kernel
theorem dX7_never_25 : decode cX7_never 25 = .ok (.ifCond .ne 9, 3) := by decide +kernel
theorem dX7_never_28 : decode cX7_never 28 = .ok (.iload_n 1, 1) := by decide +kernel
theorem dX7_never_29 : decode cX7_never 29 = .ok (.iconst 1, 1) := by decide +kernel
theorem dX7_never_30 : decode cX7_never 30 = .ok (.iload_n 2, 1) := by decide +kernel
theorem dX7_never_31 : decode cX7_never 31 = .ok (.ishl, 1) := by decide +kernel
theorem dX7_never_32 : decode cX7_never 32 = .ok (.ior, 1) := by decide +kernel
theorem dX7_never_33 : decode cX7_never 33 = .ok (.istore_n 1, 1) := by decide +kernel
theorem dX7_never_34 : decode cX7_never 34 = .ok (.iinc 2 1, 3) := by decide +kernel
theorem dX7_never_37 : decode cX7_never 37 = .ok (.goto (-26), 3) := by decide +kernel
theorem dX7_never_40 : decode cX7_never 40 = .ok (.iload_n 1, 1) := by decide +kernel
theorem dX7_never_41 : decode cX7_never 41 = .ok (.ireturn, 1) := by decide +kernel
theorem dX7_late_0 : decode cX7_late 0 = .ok (.iload_n 1, 1) := by decide +kernel
theorem dX7_late_1 : decode cX7_late 1 = .ok (.iconst (-1), 1) := by decide +kernel
theorem dX7_late_2 : decode cX7_late 2 = .ok (.if_icmp .eq 17, 3) := by decide +kernel
theorem dX7_late_5 : decode cX7_late 5 = .ok (.aload_n 0, 1) := by decide +kernel
theorem dX7_late_6 : decode cX7_late 6 = .ok (.iload_n 1, 1) := by decide +kernel
theorem dX7_late_7 : decode cX7_late 7 = .ok (.invokevirtual 102, 3) := by decide +kernel
theorem dX7_late_10 : decode cX7_late 10 = .ok (.ifCond .ne 9, 3) := by decide +kernel
theorem dX7_late_13 : decode cX7_late 13 = .ok (.aload_n 0, 1) := by decide +kernel
theorem dX7_late_14 : decode cX7_late 14 = .ok (.iconst (-1), 1) := by decide +kernel
theorem dX7_late_15 : decode cX7_late 15 = .ok (.invokevirtual 81, 3) := by decide +kernel
theorem dX7_late_18 : decode cX7_late 18 = .ok (.ireturn, 1) := by decide +kernel
theorem dX7_late_19 : decode cX7_late 19 = .ok (.iload_n 2, 1) := by decide +kernel
theorem dX7_late_20 : decode cX7_late 20 = .ok (.iconst 1, 1) := by decide +kernel
theorem dX7_late_21 : decode cX7_late 21 = .ok (.bipush 9, 2) := by decide +kernel
theorem dX7_late_23 : decode cX7_late 23 = .ok (.invokestatic 88, 3) := by decide +kernel
theorem dX7_late_26 : decode cX7_late 26 = .ok (.ifCond .ne 10, 3) := by decide +kernel
theorem dX7_late_29 : decode cX7_late 29 = .ok (.aload_n 0, 1) := by decide +kernel
theorem dX7_late_30 : decode cX7_late 30 = .ok (.bipush (-6), 2) := by decide +kernel
theorem dX7_late_32 : decode cX7_late 32 = .ok (.invokevirtual 81, 3) := by decide +kernel
theorem dX7_late_35 : decode cX7_late 35 = .ok (.ireturn, 1) := by decide +kernel
theorem dX7_late_36 : decode cX7_late 36 = .ok (.aload_n 0, 1) := by decide +kernel
theorem dX7_late_37 : decode cX7_late 37 = .ok (.iload_n 2, 1) := by decide +kernel
theorem dX7_late_38 : decode cX7_late 38 = .ok (.invokevirtual 272, 3) := by decide +kernel
theorem dX7_late_41 : decode cX7_late 41 = .ok (.istore_n 3, 1) := by decide +kernel
theorem dX7_late_42 : decode cX7_late 42 = .ok (.iload_n 1, 1) := by decide +kernel
theorem dX7_late_43 : decode cX7_late 43 = .ok (.iconst (-1), 1) := by decide +kernel
theorem dX7_late_44 : decode cX7_late 44 = .ok (.if_icmp .ne 7, 3) := by decide +kernel
theorem dX7_late_47 : decode cX7_late 47 = .ok (.iload_n 3, 1) := by decide +kernel
theorem dX7_late_48 : decode cX7_late 48 = .ok (.goto 9, 3) := by decide +kernel
theorem dX7_late_51 : decode cX7_late 51 = .ok (.aload_n 0, 1) := by decide +kernel
theorem dX7_late_52 : decode cX7_late 52 = .ok (.iload_n 1, 1) := by decide +kernel
theorem dX7_late_53 : decode cX7_late 53 = .ok (.iload_n 3, 1) := by decide +kernel
theorem dX7_late_54 : decode cX7_late 54 = .ok (.invokevirtual 226, 3) := by decide +kernel
theorem dX7_late_57 : decode cX7_late 57 = .ok (.ireturn, 1) := by decide +kernel
theorem dX7_fits_0 : decode cX7_fits 0 = .ok (.iload_n 1, 1) := by decide +kernel
theorem dX7_fits_1 : decode cX7_fits 1 = .ok (.iconst 0, 1) := by decide +kernel
theorem dX7_fits_2 : decode cX7_fits 2 = .ok (.sipush 1000, 3) := by decide +kernel
theorem dX7_fits_5 : decode cX7_fits 5 = .ok (.invokestatic 88, 3) := by decide +kernel
theorem dX7_fits_8 : decode cX7_fits 8 = .ok (.ifCond .eq 14, 3) := by decide +kernel
theorem dX7_fits_11 : decode cX7_fits 11 = .ok (.iload_n 2, 1) := by decide +kernel
theorem dX7_fits_12 : decode cX7_fits 12 = .ok (.iconst 0, 1) := by decide +kernel
theorem dX7_fits_13 : decode cX7_fits 13 = .ok (.sipush 1000, 3) := by decide +kernel
theorem dX7_fits_16 : decode cX7_fits 16 = .ok (.invokestatic 88, 3) := by decide +kernel
theorem dX7_fits_19 : decode cX7_fits 19 = .ok (.ifCond .ne 10, 3) := by decide +kernel
theorem dX7_fits_22 : decode cX7_fits 22 = .ok (.aload_n 0, 1) := by decide +kernel
theorem dX7_fits_23 : decode cX7_fits 23 = .ok (.bipush (-6), 2) := by decide +kernel
theorem dX7_fits_25 : decode cX7_fits 25 = .ok (.invokevirtual 81, 3) := by decide +kernel
end
section
theorem dX7_fits_28 : decode cX7_fits 28 = .ok (.ireturn, 1) := by decide +kernel
theorem dX7_fits_29 : decode cX7_fits 29 = .ok (.iconst 0, 1) := by decide +kernel
theorem dX7_fits_30 : decode cX7_fits 30 = .ok (.istore_n 3, 1) := by decide +kernel
theorem dX7_fits_31 : decode cX7_fits 31 = .ok (.iconst 0, 1) := by decide +kernel
theorem dX7_fits_32 : decode cX7_fits 32 = .ok (.istore 4, 2) := by decide +kernel
theorem dX7_fits_34 : decode cX7_fits 34 = .ok (.iload 4, 2) := by decide +kernel
theorem dX7_fits_36 : decode cX7_fits 36 = .ok (.aload_n 0, 1) := by decide +kernel
theorem dX7_fits_37 : decode cX7_fits 37 = .ok (.getfield 85, 3) := by decide +kernel
theorem dX7_fits_40 : decode cX7_fits 40 = .ok (.if_icmp .ge 31, 3) := by decide +kernel
theorem dX7_fits_43 : decode cX7_fits 43 = .ok (.aload_n 0, 1) := by decide +kernel
theorem dX7_fits_44 : decode cX7_fits 44 = .ok (.iload 4, 2) := by decide +kernel
theorem dX7_fits_46 : decode cX7_fits 46 = .ok (.invokevirtual 112, 3) := by decide +kernel
theorem dX7_fits_49 : decode cX7_fits 49 = .ok (.iload_n 1, 1) := by decide +kernel
theorem dX7_fits_50 : decode cX7_fits 50 = .ok (.isub, 1) := by decide +kernel
theorem dX7_fits_51 : decode cX7_fits 51 = .ok (.invokestatic 242, 3) := by decide +kernel
theorem dX7_fits_54 : decode cX7_fits 54 = .ok (.iload_n 2, 1) := by decide +kernel
theorem dX7_fits_55 : decode cX7_fits 55 = .ok (.if_icmp .gt 10, 3) := by decide +kernel
theorem dX7_fits_58 : decode cX7_fits 58 = .ok (.iload_n 3, 1) := by decide +kernel
theorem dX7_fits_59 : decode cX7_fits 59 = .ok (.iconst 1, 1) := by decide +kernel
theorem dX7_fits_60 : decode cX7_fits 60 = .ok (.iload 4, 2) := by decide +kernel
theorem dX7_fits_62 : decode cX7_fits 62 = .ok (.ishl, 1) := by decide +kernel
theorem dX7_fits_63 : decode cX7_fits 63 = .ok (.ior, 1) := by decide +kernel
theorem dX7_fits_64 : decode cX7_fits 64 = .ok (.istore_n 3, 1) := by decide +kernel
theorem dX7_fits_65 : decode cX7_fits 65 = .ok (.iinc 4 1, 3) := by decide +kernel
theorem dX7_fits_68 : decode cX7_fits 68 = .ok (.goto (-34), 3) := by decide +kernel
theorem dX7_fits_71 : decode cX7_fits 71 = .ok (.iload_n 3, 1) := by decide +kernel
theorem dX7_fits_72 : decode cX7_fits 72 = .ok (.ireturn, 1) := by decide +kernel
theorem dX7_shareOfHalf_0 : decode cX7_shareOfHalf 0 = .ok (.iconst 0, 1) := by decide +kernel
theorem dX7_shareOfHalf_1 : decode cX7_shareOfHalf 1 = .ok (.istore_n 3, 1) := by decide +kernel
theorem dX7_shareOfHalf_2 : decode cX7_shareOfHalf 2 = .ok (.iconst 0, 1) := by decide +kernel
theorem dX7_shareOfHalf_3 : decode cX7_shareOfHalf 3 = .ok (.istore 4, 2) := by decide +kernel
theorem dX7_shareOfHalf_5 : decode cX7_shareOfHalf 5 = .ok (.iload_n 2, 1) := by decide +kernel
theorem dX7_shareOfHalf_6 : decode cX7_shareOfHalf 6 = .ok (.istore 5, 2) := by decide +kernel
theorem dX7_shareOfHalf_8 : decode cX7_shareOfHalf 8 = .ok (.iload 5, 2) := by decide +kernel
theorem dX7_shareOfHalf_10 : decode cX7_shareOfHalf 10 = .ok (.aload_n 0, 1) := by decide +kernel
theorem dX7_shareOfHalf_11 : decode cX7_shareOfHalf 11 = .ok (.getfield 92, 3) := by decide +kernel
theorem dX7_shareOfHalf_14 : decode cX7_shareOfHalf 14 = .ok (.if_icmp .ge 38, 3) := by decide +kernel
theorem dX7_shareOfHalf_17 : decode cX7_shareOfHalf 17 = .ok (.iload_n 3, 1) := by decide +kernel
theorem dX7_shareOfHalf_18 : decode cX7_shareOfHalf 18 = .ok (.aload_n 0, 1) := by decide +kernel
theorem dX7_shareOfHalf_19 : decode cX7_shareOfHalf 19 = .ok (.getfield 29, 3) := by decide +kernel
theorem dX7_shareOfHalf_22 : decode cX7_shareOfHalf 22 = .ok (.iload 5, 2) := by decide +kernel
theorem dX7_shareOfHalf_24 : decode cX7_shareOfHalf 24 = .ok (.iaload, 1) := by decide +kernel
theorem dX7_shareOfHalf_25 : decode cX7_shareOfHalf 25 = .ok (.iadd, 1) := by decide +kernel
theorem dX7_shareOfHalf_26 : decode cX7_shareOfHalf 26 = .ok (.istore_n 3, 1) := by decide +kernel
theorem dX7_shareOfHalf_27 : decode cX7_shareOfHalf 27 = .ok (.iload 4, 2) := by decide +kernel
theorem dX7_shareOfHalf_29 : decode cX7_shareOfHalf 29 = .ok (.aload_n 0, 1) := by decide +kernel
theorem dX7_shareOfHalf_30 : decode cX7_shareOfHalf 30 = .ok (.iload_n 1, 1) := by decide +kernel
theorem dX7_shareOfHalf_31 : decode cX7_shareOfHalf 31 = .ok (.iload 5, 2) := by decide +kernel
theorem dX7_shareOfHalf_33 : decode cX7_shareOfHalf 33 = .ok (.aload_n 0, 1) := by decide +kernel
theorem dX7_shareOfHalf_34 : decode cX7_shareOfHalf 34 = .ok (.getfield 29, 3) := by decide +kernel
theorem dX7_shareOfHalf_37 : decode cX7_shareOfHalf 37 = .ok (.iload 5, 2) := by decide +kernel
theorem dX7_shareOfHalf_39 : decode cX7_shareOfHalf 39 = .ok (.iaload, 1) := by decide +kernel
theorem dX7_shareOfHalf_40 : decode cX7_shareOfHalf 40 = .ok (.invokevirtual 207, 3) := by decide +kernel
theorem dX7_shareOfHalf_43 : decode cX7_shareOfHalf 43 = .ok (.iadd, 1) := by decide +kernel
theorem dX7_shareOfHalf_44 : decode cX7_shareOfHalf 44 = .ok (.istore 4, 2) := by decide +kernel
theorem dX7_shareOfHalf_46 : decode cX7_shareOfHalf 46 = .ok (.iinc 5 2, 3) := by decide +kernel
theorem dX7_shareOfHalf_49 : decode cX7_shareOfHalf 49 = .ok (.goto (-41), 3) := by decide +kernel
theorem dX7_shareOfHalf_52 : decode cX7_shareOfHalf 52 = .ok (.iload 4, 2) := by decide +kernel
theorem dX7_shareOfHalf_54 : decode cX7_shareOfHalf 54 = .ok (.iload_n 3, 1) := by decide +kernel
theorem dX7_shareOfHalf_55 : decode cX7_shareOfHalf 55 = .ok (.invokestatic 214, 3) := by decide +kernel
theorem dX7_shareOfHalf_58 : decode cX7_shareOfHalf 58 = .ok (.ireturn, 1) := by decide +kernel
theorem dX7_halves_0 : decode cX7_halves 0 = .ok (.aload_n 0, 1) := by decide +kernel
theorem dX7_halves_1 : decode cX7_halves 1 = .ok (.iload_n 1, 1) := by decide +kernel
theorem dX7_halves_2 : decode cX7_halves 2 = .ok (.invokevirtual 102, 3) := by decide +kernel
theorem dX7_halves_5 : decode cX7_halves 5 = .ok (.ifCond .eq 14, 3) := by decide +kernel
theorem dX7_halves_8 : decode cX7_halves 8 = .ok (.aload_n 0, 1) := by decide +kernel
theorem dX7_halves_9 : decode cX7_halves 9 = .ok (.aload_n 0, 1) := by decide +kernel
theorem dX7_halves_10 : decode cX7_halves 10 = .ok (.getfield 139, 3) := by decide +kernel
theorem dX7_halves_13 : decode cX7_halves 13 = .ok (.invokevirtual 102, 3) := by decide +kernel
theorem dX7_halves_16 : decode cX7_halves 16 = .ok (.ifCond .ne 9, 3) := by decide +kernel
theorem dX7_halves_19 : decode cX7_halves 19 = .ok (.aload_n 0, 1) := by decide +kernel
theorem dX7_halves_20 : decode cX7_halves 20 = .ok (.iconst (-1), 1) := by decide +kernel
theorem dX7_halves_21 : decode cX7_halves 21 = .ok (.invokevirtual 127, 3) := by decide +kernel
theorem dX7_halves_24 : decode cX7_halves 24 = .ok (.ireturn, 1) := by decide +kernel
theorem dX7_halves_25 : decode cX7_halves 25 = .ok (.aload_n 0, 1) := by decide +kernel
theorem dX7_halves_26 : decode cX7_halves 26 = .ok (.iload_n 1, 1) := by decide +kernel
theorem dX7_halves_27 : decode cX7_halves 27 = .ok (.iconst 0, 1) := by decide +kernel
theorem dX7_halves_28 : decode cX7_halves 28 = .ok (.invokevirtual 275, 3) := by decide +kernel
theorem dX7_halves_31 : decode cX7_halves 31 = .ok (.aload_n 0, 1) := by decide +kernel
theorem dX7_halves_32 : decode cX7_halves 32 = .ok (.aload_n 0, 1) := by decide +kernel
theorem dX7_halves_33 : decode cX7_halves 33 = .ok (.getfield 139, 3) := by decide +kernel
theorem dX7_halves_36 : decode cX7_halves 36 = .ok (.iconst 1, 1) := by decide +kernel
theorem dX7_halves_37 : decode cX7_halves 37 = .ok (.invokevirtual 275, 3) := by decide +kernel
theorem dX7_halves_40 : decode cX7_halves 40 = .ok (.isub, 1) := by decide +kernel
theorem dX7_halves_41 : decode cX7_halves 41 = .ok (.ireturn, 1) := by decide +kernel
theorem dX7_twin_0 : decode cX7_twin 0 = .ok (.aload_n 0, 1) := by decide +kernel
theorem dX7_twin_1 : decode cX7_twin 1 = .ok (.iload_n 1, 1) := by decide +kernel
theorem dX7_twin_2 : decode cX7_twin 2 = .ok (.invokevirtual 102, 3) := by decide +kernel
theorem dX7_twin_5 : decode cX7_twin 5 = .ok (.ifCond .ne 9, 3) := by decide +kernel
theorem dX7_twin_8 : decode cX7_twin 8 = .ok (.aload_n 0, 1) := by decide +kernel
theorem dX7_twin_9 : decode cX7_twin 9 = .ok (.iconst (-1), 1) := by decide +kernel
theorem dX7_twin_10 : decode cX7_twin 10 = .ok (.invokevirtual 266, 3) := by decide +kernel
theorem dX7_twin_13 : decode cX7_twin 13 = .ok (.ireturn, 1) := by decide +kernel
theorem dX7_twin_14 : decode cX7_twin 14 = .ok (.iconst (-1), 1) := by decide +kernel
theorem dX7_twin_15 : decode cX7_twin 15 = .ok (.istore_n 2, 1) := by decide +kernel
theorem dX7_twin_16 : decode cX7_twin 16 = .ok (.iconst 0, 1) := by decide +kernel
theorem dX7_twin_17 : decode cX7_twin 17 = .ok (.istore_n 3, 1) := by decide +kernel
theorem dX7_twin_18 : decode cX7_twin 18 = .ok (.iconst 0, 1) := by decide +kernel
theorem dX7_twin_19 : decode cX7_twin 19 = .ok (.istore 4, 2) := by decide +kernel
theorem dX7_twin_21 : decode cX7_twin 21 = .ok (.iload 4, 2) := by decide +kernel
theorem dX7_twin_23 : decode cX7_twin 23 = .ok (.aload_n 0, 1) := by decide +kernel
theorem dX7_twin_24 : decode cX7_twin 24 = .ok (.getfield 85, 3) := by decide +kernel
theorem dX7_twin_27 : decode cX7_twin 27 = .ok (.if_icmp .ge 56, 3) := by decide +kernel
theorem dX7_twin_30 : decode cX7_twin 30 = .ok (.aload_n 0, 1) := by decide +kernel
theorem dX7_twin_31 : decode cX7_twin 31 = .ok (.iload_n 1, 1) := by decide +kernel
theorem dX7_twin_32 : decode cX7_twin 32 = .ok (.invokevirtual 112, 3) := by decide +kernel
theorem dX7_twin_35 : decode cX7_twin 35 = .ok (.aload_n 0, 1) := by decide +kernel
theorem dX7_twin_36 : decode cX7_twin 36 = .ok (.iload 4, 2) := by decide +kernel
theorem dX7_twin_38 : decode cX7_twin 38 = .ok (.invokevirtual 112, 3) := by decide +kernel
theorem dX7_twin_41 : decode cX7_twin 41 = .ok (.iadd, 1) := by decide +kernel
theorem dX7_twin_42 : decode cX7_twin 42 = .ok (.sipush 1000, 3) := by decide +kernel
theorem dX7_twin_45 : decode cX7_twin 45 = .ok (.isub, 1) := by decide +kernel
theorem dX7_twin_46 : decode cX7_twin 46 = .ok (.invokestatic 242, 3) := by decide +kernel
theorem dX7_twin_49 : decode cX7_twin 49 = .ok (.istore 5, 2) := by decide +kernel
theorem dX7_twin_51 : decode cX7_twin 51 = .ok (.iload 4, 2) := by decide +kernel
theorem dX7_twin_53 : decode cX7_twin 53 = .ok (.iload_n 1, 1) := by decide +kernel
theorem dX7_twin_54 : decode cX7_twin 54 = .ok (.if_icmp .eq 23, 3) := by decide +kernel
theorem dX7_twin_57 : decode cX7_twin 57 = .ok (.iload_n 2, 1) := by decide +kernel
theorem dX7_twin_58 : decode cX7_twin 58 = .ok (.iconst (-1), 1) := by decide +kernel
theorem dX7_twin_59 : decode cX7_twin 59 = .ok (.if_icmp .eq 12, 3) := by decide +kernel
theorem dX7_twin_62 : decode cX7_twin 62 = .ok (.iload 5, 2) := by decide +kernel
theorem dX7_twin_64 : decode cX7_twin 64 = .ok (.iload_n 3, 1) := by decide +kernel
theorem dX7_twin_65 : decode cX7_twin 65 = .ok (.if_icmp .lt 6, 3) := by decide +kernel
theorem dX7_twin_68 : decode cX7_twin 68 = .ok (.goto 9, 3) := by decide +kernel
theorem dX7_twin_71 : decode cX7_twin 71 = .ok (.iload 4, 2) := by decide +kernel
theorem dX7_twin_73 : decode cX7_twin 73 = .ok (.istore_n 2, 1) := by decide +kernel
theorem dX7_twin_74 : decode cX7_twin 74 = .ok (.iload 5, 2) := by decide +kernel
theorem dX7_twin_76 : decode cX7_twin 76 = .ok (.istore_n 3, 1) := by decide +kernel
theorem dX7_twin_77 : decode cX7_twin 77 = .ok (.iinc 4 1, 3) := by decide +kernel
theorem dX7_twin_80 : decode cX7_twin 80 = .ok (.goto (-59), 3) := by decide +kernel
theorem dX7_twin_83 : decode cX7_twin 83 = .ok (.iload_n 2, 1) := by decide +kernel
theorem dX7_twin_84 : decode cX7_twin 84 = .ok (.ireturn, 1) := by decide +kernel
theorem dX7_nearest_0 : decode cX7_nearest 0 = .ok (.aload_n 0, 1) := by decide +kernel
theorem dX7_nearest_1 : decode cX7_nearest 1 = .ok (.getfield 85, 3) := by decide +kernel
theorem dX7_nearest_4 : decode cX7_nearest 4 = .ok (.ifCond .ne 10, 3) := by decide +kernel
theorem dX7_nearest_7 : decode cX7_nearest 7 = .ok (.aload_n 0, 1) := by decide +kernel
theorem dX7_nearest_8 : decode cX7_nearest 8 = .ok (.bipush (-5), 2) := by decide +kernel
theorem dX7_nearest_10 : decode cX7_nearest 10 = .ok (.invokevirtual 81, 3) := by decide +kernel
theorem dX7_nearest_13 : decode cX7_nearest 13 = .ok (.ireturn, 1) := by decide +kernel
theorem dX7_nearest_14 : decode cX7_nearest 14 = .ok (.iconst 0, 1) := by decide +kernel
theorem dX7_nearest_15 : decode cX7_nearest 15 = .ok (.istore_n 1, 1) := by decide +kernel
theorem dX7_nearest_16 : decode cX7_nearest 16 = .ok (.iconst 1, 1) := by decide +kernel
theorem dX7_nearest_17 : decode cX7_nearest 17 = .ok (.istore_n 2, 1) := by decide +kernel
theorem dX7_nearest_18 : decode cX7_nearest 18 = .ok (.iload_n 2, 1) := by decide +kernel
theorem dX7_nearest_19 : decode cX7_nearest 19 = .ok (.aload_n 0, 1) := by decide +kernel
theorem dX7_nearest_20 : decode cX7_nearest 20 = .ok (.getfield 85, 3) := by decide +kernel
theorem dX7_nearest_23 : decode cX7_nearest 23 = .ok (.if_icmp .ge 30, 3) := by decide +kernel
theorem dX7_nearest_26 : decode cX7_nearest 26 = .ok (.aload_n 0, 1) := by decide +kernel
theorem dX7_nearest_27 : decode cX7_nearest 27 = .ok (.iload_n 2, 1) := by decide +kernel
theorem dX7_nearest_28 : decode cX7_nearest 28 = .ok (.invokevirtual 133, 3) := by decide +kernel
theorem dX7_nearest_31 : decode cX7_nearest 31 = .ok (.invokestatic 242, 3) := by decide +kernel
theorem dX7_nearest_34 : decode cX7_nearest 34 = .ok (.aload_n 0, 1) := by decide +kernel
theorem dX7_nearest_35 : decode cX7_nearest 35 = .ok (.iload_n 1, 1) := by decide +kernel
theorem dX7_nearest_36 : decode cX7_nearest 36 = .ok (.invokevirtual 133, 3) := by decide +kernel
theorem dX7_nearest_39 : decode cX7_nearest 39 = .ok (.invokestatic 242, 3) := by decide +kernel
theorem dX7_nearest_42 : decode cX7_nearest 42 = .ok (.if_icmp .ge 5, 3) := by decide +kernel
theorem dX7_nearest_45 : decode cX7_nearest 45 = .ok (.iload_n 2, 1) := by decide +kernel
theorem dX7_nearest_46 : decode cX7_nearest 46 = .ok (.istore_n 1, 1) := by decide +kernel
theorem dX7_nearest_47 : decode cX7_nearest 47 = .ok (.iinc 2 1, 3) := by decide +kernel
theorem dX7_nearest_50 : decode cX7_nearest 50 = .ok (.goto (-32), 3) := by decide +kernel
theorem dX7_nearest_53 : decode cX7_nearest 53 = .ok (.iload_n 1, 1) := by decide +kernel
theorem dX7_nearest_54 : decode cX7_nearest 54 = .ok (.ireturn, 1) := by decide +kernel
theorem dX7_shareMoved_0 : decode cX7_shareMoved 0 = .ok (.iconst 0, 1) := by decide +kernel
theorem dX7_shareMoved_1 : decode cX7_shareMoved 1 = .ok (.istore_n 3, 1) := by decide +kernel
theorem dX7_shareMoved_2 : decode cX7_shareMoved 2 = .ok (.iload_n 2, 1) := by decide +kernel
theorem dX7_shareMoved_3 : decode cX7_shareMoved 3 = .ok (.istore 4, 2) := by decide +kernel
theorem dX7_shareMoved_5 : decode cX7_shareMoved 5 = .ok (.iconst 0, 1) := by decide +kernel
theorem dX7_shareMoved_6 : decode cX7_shareMoved 6 = .ok (.istore 5, 2) := by decide +kernel
theorem dX7_shareMoved_8 : decode cX7_shareMoved 8 = .ok (.iload 5, 2) := by decide +kernel
theorem dX7_shareMoved_10 : decode cX7_shareMoved 10 = .ok (.aload_n 0, 1) := by decide +kernel
theorem dX7_shareMoved_11 : decode cX7_shareMoved 11 = .ok (.getfield 92, 3) := by decide +kernel
theorem dX7_shareMoved_14 : decode cX7_shareMoved 14 = .ok (.if_icmp .ge 81, 3) := by decide +kernel
theorem dX7_shareMoved_17 : decode cX7_shareMoved 17 = .ok (.aload_n 0, 1) := by decide +kernel
theorem dX7_shareMoved_18 : decode cX7_shareMoved 18 = .ok (.getfield 32, 3) := by decide +kernel
theorem dX7_shareMoved_21 : decode cX7_shareMoved 21 = .ok (.iload 5, 2) := by decide +kernel
theorem dX7_shareMoved_23 : decode cX7_shareMoved 23 = .ok (.iaload, 1) := by decide +kernel
theorem dX7_shareMoved_24 : decode cX7_shareMoved 24 = .ok (.iconst 2, 1) := by decide +kernel
theorem dX7_shareMoved_25 : decode cX7_shareMoved 25 = .ok (.if_icmp .ne 18, 3) := by decide +kernel
theorem dX7_shareMoved_28 : decode cX7_shareMoved 28 = .ok (.iload 4, 2) := by decide +kernel
theorem dX7_shareMoved_30 : decode cX7_shareMoved 30 = .ok (.aload_n 0, 1) := by decide +kernel
theorem dX7_shareMoved_31 : decode cX7_shareMoved 31 = .ok (.getfield 29, 3) := by decide +kernel
theorem dX7_shareMoved_34 : decode cX7_shareMoved 34 = .ok (.iload 5, 2) := by decide +kernel
theorem dX7_shareMoved_36 : decode cX7_shareMoved 36 = .ok (.iaload, 1) := by decide +kernel
theorem dX7_shareMoved_37 : decode cX7_shareMoved 37 = .ok (.invokestatic 202, 3) := by decide +kernel
theorem dX7_shareMoved_40 : decode cX7_shareMoved 40 = .ok (.goto 4, 3) := by decide +kernel
theorem dX7_shareMoved_43 : decode cX7_shareMoved 43 = .ok (.iconst 0, 1) := by decide +kernel
theorem dX7_shareMoved_44 : decode cX7_shareMoved 44 = .ok (.istore 6, 2) := by decide +kernel
theorem dX7_shareMoved_46 : decode cX7_shareMoved 46 = .ok (.iload 4, 2) := by decide +kernel
theorem dX7_shareMoved_48 : decode cX7_shareMoved 48 = .ok (.iload 6, 2) := by decide +kernel
theorem dX7_shareMoved_50 : decode cX7_shareMoved 50 = .ok (.isub, 1) := by decide +kernel
theorem dX7_shareMoved_51 : decode cX7_shareMoved 51 = .ok (.istore 4, 2) := by decide +kernel
theorem dX7_shareMoved_53 : decode cX7_shareMoved 53 = .ok (.iload_n 3, 1) := by decide +kernel
theorem dX7_shareMoved_54 : decode cX7_shareMoved 54 = .ok (.aload_n 0, 1) := by decide +kernel
theorem dX7_shareMoved_55 : decode cX7_shareMoved 55 = .ok (.iload_n 1, 1) := by decide +kernel
theorem dX7_shareMoved_56 : decode cX7_shareMoved 56 = .ok (.iload 5, 2) := by decide +kernel
theorem dX7_shareMoved_58 : decode cX7_shareMoved 58 = .ok (.aload_n 0, 1) := by decide +kernel
theorem dX7_shareMoved_59 : decode cX7_shareMoved 59 = .ok (.getfield 29, 3) := by decide +kernel
theorem dX7_shareMoved_62 : decode cX7_shareMoved 62 = .ok (.iload 5, 2) := by decide +kernel
theorem dX7_shareMoved_64 : decode cX7_shareMoved 64 = .ok (.iaload, 1) := by decide +kernel
theorem dX7_shareMoved_65 : decode cX7_shareMoved 65 = .ok (.iload 6, 2) := by decide +kernel
theorem dX7_shareMoved_67 : decode cX7_shareMoved 67 = .ok (.isub, 1) := by decide +kernel
theorem dX7_shareMoved_68 : decode cX7_shareMoved 68 = .ok (.invokevirtual 207, 3) := by decide +kernel
theorem dX7_shareMoved_71 : decode cX7_shareMoved 71 = .ok (.aload_n 0, 1) := by decide +kernel
theorem dX7_shareMoved_72 : decode cX7_shareMoved 72 = .ok (.iload_n 1, 1) := by decide +kernel
theorem dX7_shareMoved_73 : decode cX7_shareMoved 73 = .ok (.iconst 0, 1) := by decide +kernel
theorem dX7_shareMoved_74 : decode cX7_shareMoved 74 = .ok (.aload_n 0, 1) := by decide +kernel
theorem dX7_shareMoved_75 : decode cX7_shareMoved 75 = .ok (.getfield 35, 3) := by decide +kernel
theorem dX7_shareMoved_78 : decode cX7_shareMoved 78 = .ok (.iload 5, 2) := by decide +kernel
theorem dX7_shareMoved_80 : decode cX7_shareMoved 80 = .ok (.iaload, 1) := by decide +kernel
theorem dX7_shareMoved_81 : decode cX7_shareMoved 81 = .ok (.iload 6, 2) := by decide +kernel
theorem dX7_shareMoved_83 : decode cX7_shareMoved 83 = .ok (.invokevirtual 115, 3) := by decide +kernel
theorem dX7_shareMoved_86 : decode cX7_shareMoved 86 = .ok (.iadd, 1) := by decide +kernel
theorem dX7_shareMoved_87 : decode cX7_shareMoved 87 = .ok (.iadd, 1) := by decide +kernel
theorem dX7_shareMoved_88 : decode cX7_shareMoved 88 = .ok (.istore_n 3, 1) := by decide +kernel
theorem dX7_shareMoved_89 : decode cX7_shareMoved 89 = .ok (.iinc 5 1, 3) := by decide +kernel
theorem dX7_shareMoved_92 : decode cX7_shareMoved 92 = .ok (.goto (-84), 3) := by decide +kernel
theorem dX7_shareMoved_95 : decode cX7_shareMoved 95 = .ok (.iload_n 3, 1) := by decide +kernel
theorem dX7_shareMoved_96 : decode cX7_shareMoved 96 = .ok (.aload_n 0, 1) := by decide +kernel
theorem dX7_shareMoved_97 : decode cX7_shareMoved 97 = .ok (.invokevirtual 211, 3) := by decide +kernel
theorem dX7_shareMoved_100 : decode cX7_shareMoved 100 = .ok (.invokestatic 214, 3) := by decide +kernel
theorem dX7_shareMoved_103 : decode cX7_shareMoved 103 = .ok (.ireturn, 1) := by decide +kernel
theorem dX7_move_0 : decode cX7_move 0 = .ok (.aload_n 0, 1) := by decide +kernel
theorem dX7_move_1 : decode cX7_move 1 = .ok (.iload_n 1, 1) := by decide +kernel
theorem dX7_move_2 : decode cX7_move 2 = .ok (.invokevirtual 102, 3) := by decide +kernel
theorem dX7_move_5 : decode cX7_move 5 = .ok (.ifCond .ne 9, 3) := by decide +kernel
theorem dX7_move_8 : decode cX7_move 8 = .ok (.aload_n 0, 1) := by decide +kernel
theorem dX7_move_9 : decode cX7_move 9 = .ok (.iconst (-1), 1) := by decide +kernel
theorem dX7_move_10 : decode cX7_move 10 = .ok (.invokevirtual 266, 3) := by decide +kernel
theorem dX7_move_13 : decode cX7_move 13 = .ok (.ireturn, 1) := by decide +kernel
theorem dX7_move_14 : decode cX7_move 14 = .ok (.iload_n 2, 1) := by decide +kernel
theorem dX7_move_15 : decode cX7_move 15 = .ok (.iconst 0, 1) := by decide +kernel
theorem dX7_move_16 : decode cX7_move 16 = .ok (.sipush 1000, 3) := by decide +kernel
theorem dX7_move_19 : decode cX7_move 19 = .ok (.invokestatic 88, 3) := by decide +kernel
theorem dX7_move_22 : decode cX7_move 22 = .ok (.ifCond .ne 10, 3) := by decide +kernel
theorem dX7_move_25 : decode cX7_move 25 = .ok (.aload_n 0, 1) := by decide +kernel
theorem dX7_move_26 : decode cX7_move 26 = .ok (.bipush (-6), 2) := by decide +kernel
theorem dX7_move_28 : decode cX7_move 28 = .ok (.invokevirtual 266, 3) := by decide +kernel
theorem dX7_move_31 : decode cX7_move 31 = .ok (.ireturn, 1) := by decide +kernel
theorem dX7_move_32 : decode cX7_move 32 = .ok (.iconst 0, 1) := by decide +kernel
theorem dX7_move_33 : decode cX7_move 33 = .ok (.istore_n 3, 1) := by decide +kernel
theorem dX7_move_34 : decode cX7_move 34 = .ok (.iconst 0, 1) := by decide +kernel
theorem dX7_move_35 : decode cX7_move 35 = .ok (.istore 4, 2) := by decide +kernel
theorem dX7_move_37 : decode cX7_move 37 = .ok (.iload 4, 2) := by decide +kernel
theorem dX7_move_39 : decode cX7_move 39 = .ok (.aload_n 0, 1) := by decide +kernel
theorem dX7_move_40 : decode cX7_move 40 = .ok (.getfield 92, 3) := by decide +kernel
theorem dX7_move_43 : decode cX7_move 43 = .ok (.if_icmp .ge 30, 3) := by decide +kernel
theorem dX7_move_46 : decode cX7_move 46 = .ok (.aload_n 0, 1) := by decide +kernel
theorem dX7_move_47 : decode cX7_move 47 = .ok (.getfield 32, 3) := by decide +kernel
theorem dX7_move_50 : decode cX7_move 50 = .ok (.iload 4, 2) := by decide +kernel
theorem dX7_move_52 : decode cX7_move 52 = .ok (.iaload, 1) := by decide +kernel
theorem dX7_move_53 : decode cX7_move 53 = .ok (.iconst 2, 1) := by decide +kernel
theorem dX7_move_54 : decode cX7_move 54 = .ok (.if_icmp .ne 13, 3) := by decide +kernel
theorem dX7_move_57 : decode cX7_move 57 = .ok (.iload_n 3, 1) := by decide +kernel
theorem dX7_move_58 : decode cX7_move 58 = .ok (.aload_n 0, 1) := by decide +kernel
theorem dX7_move_59 : decode cX7_move 59 = .ok (.getfield 29, 3) := by decide +kernel
theorem dX7_move_62 : decode cX7_move 62 = .ok (.iload 4, 2) := by decide +kernel
theorem dX7_move_64 : decode cX7_move 64 = .ok (.iaload, 1) := by decide +kernel
theorem dX7_move_65 : decode cX7_move 65 = .ok (.iadd, 1) := by decide +kernel
theorem dX7_move_66 : decode cX7_move 66 = .ok (.istore_n 3, 1) := by decide +kernel
theorem dX7_move_67 : decode cX7_move 67 = .ok (.iinc 4 1, 3) := by decide +kernel
theorem dX7_move_70 : decode cX7_move 70 = .ok (.goto (-33), 3) := by decide +kernel
theorem dX7_move_73 : decode cX7_move 73 = .ok (.iconst 0, 1) := by decide +kernel
theorem dX7_move_74 : decode cX7_move 74 = .ok (.istore 4, 2) := by decide +kernel
theorem dX7_move_76 : decode cX7_move 76 = .ok (.iload 4, 2) := by decide +kernel
theorem dX7_move_78 : decode cX7_move 78 = .ok (.iload_n 3, 1) := by decide +kernel
theorem dX7_move_79 : decode cX7_move 79 = .ok (.if_icmp .gt 23, 3) := by decide +kernel
theorem dX7_move_82 : decode cX7_move 82 = .ok (.aload_n 0, 1) := by decide +kernel
theorem dX7_move_83 : decode cX7_move 83 = .ok (.iload_n 1, 1) := by decide +kernel
theorem dX7_move_84 : decode cX7_move 84 = .ok (.iload 4, 2) := by decide +kernel
theorem dX7_move_86 : decode cX7_move 86 = .ok (.invokevirtual 278, 3) := by decide +kernel
theorem dX7_move_89 : decode cX7_move 89 = .ok (.iload_n 2, 1) := by decide +kernel
theorem dX7_move_90 : decode cX7_move 90 = .ok (.if_icmp .lt 6, 3) := by decide +kernel
theorem dX7_move_93 : decode cX7_move 93 = .ok (.iload 4, 2) := by decide +kernel
theorem dX7_move_95 : decode cX7_move 95 = .ok (.ireturn, 1) := by decide +kernel
theorem dX7_move_96 : decode cX7_move 96 = .ok (.iinc 4 1, 3) := by decide +kernel
theorem dX7_move_99 : decode cX7_move 99 = .ok (.goto (-23), 3) := by decide +kernel
theorem dX7_move_102 : decode cX7_move 102 = .ok (.iconst (-1), 1) := by decide +kernel
theorem dX7_move_103 : decode cX7_move 103 = .ok (.ireturn, 1) := by decide +kernel
theorem dX7_told_0 : decode cX7_told 0 = .ok (.aload_n 0, 1) := by decide +kernel
theorem dX7_told_1 : decode cX7_told 1 = .ok (.getfield 16, 3) := by decide +kernel
theorem dX7_told_4 : decode cX7_told 4 = .ok (.sipush 160, 3) := by decide +kernel
theorem dX7_told_7 : decode cX7_told 7 = .ok (.iload_n 1, 1) := by decide +kernel
theorem dX7_told_8 : decode cX7_told 8 = .ok (.imul, 1) := by decide +kernel
theorem dX7_told_9 : decode cX7_told 9 = .ok (.iload_n 2, 1) := by decide +kernel
theorem dX7_told_10 : decode cX7_told 10 = .ok (.iadd, 1) := by decide +kernel
theorem dX7_told_11 : decode cX7_told 11 = .ok (.laload, 1) := by decide +kernel
theorem dX7_told_12 : decode cX7_told 12 = .ok (.l2i, 1) := by decide +kernel
theorem dX7_told_13 : decode cX7_told 13 = .ok (.ireturn, 1) := by decide +kernel
theorem dX7_noRound_0 : decode cX7_noRound 0 = .ok (.aload_n 0, 1) := by decide +kernel
theorem dX7_noRound_1 : decode cX7_noRound 1 = .ok (.iload_n 1, 1) := by decide +kernel
theorem dX7_noRound_2 : decode cX7_noRound 2 = .ok (.invokevirtual 99, 3) := by decide +kernel
theorem dX7_noRound_5 : decode cX7_noRound 5 = .ok (.istore_n 3, 1) := by decide +kernel
theorem dX7_noRound_6 : decode cX7_noRound 6 = .ok (.iload_n 3, 1) := by decide +kernel
theorem dX7_noRound_7 : decode cX7_noRound 7 = .ok (.ifCond .ge 5, 3) := by decide +kernel
theorem dX7_noRound_10 : decode cX7_noRound 10 = .ok (.iload_n 3, 1) := by decide +kernel
theorem dX7_noRound_11 : decode cX7_noRound 11 = .ok (.ireturn, 1) := by decide +kernel
theorem dX7_noRound_12 : decode cX7_noRound 12 = .ok (.iload_n 2, 1) := by decide +kernel
theorem dX7_noRound_13 : decode cX7_noRound 13 = .ok (.ifCond .ge 6, 3) := by decide +kernel
theorem dX7_noRound_16 : decode cX7_noRound 16 = .ok (.bipush (-4), 2) := by decide +kernel
theorem dX7_noRound_18 : decode cX7_noRound 18 = .ok (.ireturn, 1) := by decide +kernel
theorem dX7_noRound_19 : decode cX7_noRound 19 = .ok (.iload_n 2, 1) := by decide +kernel
theorem dX7_noRound_20 : decode cX7_noRound 20 = .ok (.aload_n 0, 1) := by decide +kernel
theorem dX7_noRound_21 : decode cX7_noRound 21 = .ok (.getfield 13, 3) := by decide +kernel
theorem dX7_noRound_24 : decode cX7_noRound 24 = .ok (.iload_n 1, 1) := by decide +kernel
theorem dX7_noRound_25 : decode cX7_noRound 25 = .ok (.iaload, 1) := by decide +kernel
theorem dX7_noRound_26 : decode cX7_noRound 26 = .ok (.if_icmp .le 6, 3) := by decide +kernel
theorem dX7_noRound_29 : decode cX7_noRound 29 = .ok (.bipush (-5), 2) := by decide +kernel
theorem dX7_noRound_31 : decode cX7_noRound 31 = .ok (.ireturn, 1) := by decide +kernel
theorem dX7_noRound_32 : decode cX7_noRound 32 = .ok (.iload_n 2, 1) := by decide +kernel
theorem dX7_noRound_33 : decode cX7_noRound 33 = .ok (.bipush 20, 2) := by decide +kernel
theorem dX7_noRound_35 : decode cX7_noRound 35 = .ok (.if_icmp .le 8, 3) := by decide +kernel
theorem dX7_noRound_38 : decode cX7_noRound 38 = .ok (.bipush (-6), 2) := by decide +kernel
theorem dX7_noRound_40 : decode cX7_noRound 40 = .ok (.goto 4, 3) := by decide +kernel
theorem dX7_noRound_43 : decode cX7_noRound 43 = .ok (.iconst 0, 1) := by decide +kernel
theorem dX7_noRound_44 : decode cX7_noRound 44 = .ok (.ireturn, 1) := by decide +kernel
theorem dX7_wrong_0 : decode cX7_wrong 0 = .ok (.iconst 0, 1) := by decide +kernel
theorem dX7_wrong_1 : decode cX7_wrong 1 = .ok (.istore_n 3, 1) := by decide +kernel
theorem dX7_wrong_2 : decode cX7_wrong 2 = .ok (.iconst 0, 1) := by decide +kernel
theorem dX7_wrong_3 : decode cX7_wrong 3 = .ok (.istore 4, 2) := by decide +kernel
theorem dX7_wrong_5 : decode cX7_wrong 5 = .ok (.iload 4, 2) := by decide +kernel
theorem dX7_wrong_7 : decode cX7_wrong 7 = .ok (.iload_n 2, 1) := by decide +kernel
theorem dX7_wrong_8 : decode cX7_wrong 8 = .ok (.if_icmp .ge 52, 3) := by decide +kernel
theorem dX7_wrong_11 : decode cX7_wrong 11 = .ok (.aload_n 0, 1) := by decide +kernel
theorem dX7_wrong_12 : decode cX7_wrong 12 = .ok (.aload_n 0, 1) := by decide +kernel
theorem dX7_wrong_13 : decode cX7_wrong 13 = .ok (.iload_n 1, 1) := by decide +kernel
theorem dX7_wrong_14 : decode cX7_wrong 14 = .ok (.iload 4, 2) := by decide +kernel
theorem dX7_wrong_16 : decode cX7_wrong 16 = .ok (.invokevirtual 281, 3) := by decide +kernel
theorem dX7_wrong_19 : decode cX7_wrong 19 = .ok (.invokevirtual 102, 3) := by decide +kernel
theorem dX7_wrong_22 : decode cX7_wrong 22 = .ok (.ifCond .eq 17, 3) := by decide +kernel
theorem dX7_wrong_25 : decode cX7_wrong 25 = .ok (.iload_n 3, 1) := by decide +kernel
theorem dX7_wrong_26 : decode cX7_wrong 26 = .ok (.aload_n 0, 1) := by decide +kernel
theorem dX7_wrong_27 : decode cX7_wrong 27 = .ok (.iload_n 1, 1) := by decide +kernel
theorem dX7_wrong_28 : decode cX7_wrong 28 = .ok (.iload 4, 2) := by decide +kernel
theorem dX7_wrong_30 : decode cX7_wrong 30 = .ok (.invokevirtual 281, 3) := by decide +kernel
theorem dX7_wrong_33 : decode cX7_wrong 33 = .ok (.invokestatic 257, 3) := by decide +kernel
theorem dX7_wrong_36 : decode cX7_wrong 36 = .ok (.ifCond .eq 6, 3) := by decide +kernel
theorem dX7_wrong_39 : decode cX7_wrong 39 = .ok (.iload 4, 2) := by decide +kernel
theorem dX7_wrong_41 : decode cX7_wrong 41 = .ok (.ireturn, 1) := by decide +kernel
theorem dX7_wrong_42 : decode cX7_wrong 42 = .ok (.iload_n 3, 1) := by decide +kernel
theorem dX7_wrong_43 : decode cX7_wrong 43 = .ok (.iconst 1, 1) := by decide +kernel
theorem dX7_wrong_44 : decode cX7_wrong 44 = .ok (.aload_n 0, 1) := by decide +kernel
theorem dX7_wrong_45 : decode cX7_wrong 45 = .ok (.iload_n 1, 1) := by decide +kernel
theorem dX7_wrong_46 : decode cX7_wrong 46 = .ok (.iload 4, 2) := by decide +kernel
theorem dX7_wrong_48 : decode cX7_wrong 48 = .ok (.invokevirtual 281, 3) := by decide +kernel
theorem dX7_wrong_51 : decode cX7_wrong 51 = .ok (.ishl, 1) := by decide +kernel
theorem dX7_wrong_52 : decode cX7_wrong 52 = .ok (.ior, 1) := by decide +kernel
theorem dX7_wrong_53 : decode cX7_wrong 53 = .ok (.istore_n 3, 1) := by decide +kernel
theorem dX7_wrong_54 : decode cX7_wrong 54 = .ok (.iinc 4 1, 3) := by decide +kernel
theorem dX7_wrong_57 : decode cX7_wrong 57 = .ok (.goto (-52), 3) := by decide +kernel
theorem dX7_wrong_60 : decode cX7_wrong 60 = .ok (.iconst (-1), 1) := by decide +kernel
theorem dX7_wrong_61 : decode cX7_wrong 61 = .ok (.ireturn, 1) := by decide +kernel
theorem dX7_judge_0 : decode cX7_judge 0 = .ok (.aload_n 0, 1) := by decide +kernel
theorem dX7_judge_1 : decode cX7_judge 1 = .ok (.iload_n 1, 1) := by decide +kernel
theorem dX7_judge_2 : decode cX7_judge 2 = .ok (.iload_n 2, 1) := by decide +kernel
theorem dX7_judge_3 : decode cX7_judge 3 = .ok (.invokevirtual 284, 3) := by decide +kernel
theorem dX7_judge_6 : decode cX7_judge 6 = .ok (.istore_n 3, 1) := by decide +kernel
theorem dX7_judge_7 : decode cX7_judge 7 = .ok (.iload_n 3, 1) := by decide +kernel
theorem dX7_judge_8 : decode cX7_judge 8 = .ok (.ifCond .ge 11, 3) := by decide +kernel
theorem dX7_judge_11 : decode cX7_judge 11 = .ok (.aload_n 0, 1) := by decide +kernel
theorem dX7_judge_12 : decode cX7_judge 12 = .ok (.iload_n 3, 1) := by decide +kernel
theorem dX7_judge_13 : decode cX7_judge 13 = .ok (.invokevirtual 266, 3) := by decide +kernel
theorem dX7_judge_16 : decode cX7_judge 16 = .ok (.goto 9, 3) := by decide +kernel
theorem dX7_judge_19 : decode cX7_judge 19 = .ok (.aload_n 0, 1) := by decide +kernel
theorem dX7_judge_20 : decode cX7_judge 20 = .ok (.iload_n 1, 1) := by decide +kernel
theorem dX7_judge_21 : decode cX7_judge 21 = .ok (.iload_n 2, 1) := by decide +kernel
theorem dX7_judge_22 : decode cX7_judge 22 = .ok (.invokevirtual 287, 3) := by decide +kernel
theorem dX7_judge_25 : decode cX7_judge 25 = .ok (.ireturn, 1) := by decide +kernel
theorem dX7_round_0 : decode cX7_round 0 = .ok (.aload_n 0, 1) := by decide +kernel
theorem dX7_round_1 : decode cX7_round 1 = .ok (.iload_n 1, 1) := by decide +kernel
theorem dX7_round_2 : decode cX7_round 2 = .ok (.iload_n 2, 1) := by decide +kernel
theorem dX7_round_3 : decode cX7_round 3 = .ok (.invokevirtual 284, 3) := by decide +kernel
theorem dX7_round_6 : decode cX7_round 6 = .ok (.istore 4, 2) := by decide +kernel
theorem dX7_round_8 : decode cX7_round 8 = .ok (.iload 4, 2) := by decide +kernel
theorem dX7_round_10 : decode cX7_round 10 = .ok (.ifCond .ge 17, 3) := by decide +kernel
theorem dX7_round_13 : decode cX7_round 13 = .ok (.iload 4, 2) := by decide +kernel
theorem dX7_round_15 : decode cX7_round 15 = .ok (.bipush (-5), 2) := by decide +kernel
theorem dX7_round_17 : decode cX7_round 17 = .ok (.if_icmp .le 10, 3) := by decide +kernel
theorem dX7_round_20 : decode cX7_round 20 = .ok (.aload_n 0, 1) := by decide +kernel
theorem dX7_round_21 : decode cX7_round 21 = .ok (.iload 4, 2) := by decide +kernel
theorem dX7_round_23 : decode cX7_round 23 = .ok (.invokevirtual 81, 3) := by decide +kernel
theorem dX7_round_26 : decode cX7_round 26 = .ok (.ireturn, 1) := by decide +kernel
theorem dX7_round_27 : decode cX7_round 27 = .ok (.iload 4, 2) := by decide +kernel
theorem dX7_round_29 : decode cX7_round 29 = .ok (.bipush (-5), 2) := by decide +kernel
theorem dX7_round_31 : decode cX7_round 31 = .ok (.if_icmp .eq 14, 3) := by decide +kernel
theorem dX7_round_34 : decode cX7_round 34 = .ok (.iload_n 3, 1) := by decide +kernel
theorem dX7_round_35 : decode cX7_round 35 = .ok (.iconst (-1), 1) := by decide +kernel
theorem dX7_round_36 : decode cX7_round 36 = .ok (.iload_n 2, 1) := by decide +kernel
theorem dX7_round_37 : decode cX7_round 37 = .ok (.iconst 1, 1) := by decide +kernel
theorem dX7_round_38 : decode cX7_round 38 = .ok (.isub, 1) := by decide +kernel
theorem dX7_round_39 : decode cX7_round 39 = .ok (.invokestatic 88, 3) := by decide +kernel
theorem dX7_round_42 : decode cX7_round 42 = .ok (.ifCond .ne 10, 3) := by decide +kernel
theorem dX7_round_45 : decode cX7_round 45 = .ok (.aload_n 0, 1) := by decide +kernel
theorem dX7_round_46 : decode cX7_round 46 = .ok (.bipush (-5), 2) := by decide +kernel
theorem dX7_round_48 : decode cX7_round 48 = .ok (.invokevirtual 81, 3) := by decide +kernel
theorem dX7_round_51 : decode cX7_round 51 = .ok (.ireturn, 1) := by decide +kernel
theorem dX7_round_52 : decode cX7_round 52 = .ok (.iload 4, 2) := by decide +kernel
theorem dX7_round_54 : decode cX7_round 54 = .ok (.ifCond .lt 13, 3) := by decide +kernel
theorem dX7_round_57 : decode cX7_round 57 = .ok (.aload_n 0, 1) := by decide +kernel
theorem dX7_round_58 : decode cX7_round 58 = .ok (.iload_n 1, 1) := by decide +kernel
theorem dX7_round_59 : decode cX7_round 59 = .ok (.iload_n 2, 1) := by decide +kernel
theorem dX7_round_60 : decode cX7_round 60 = .ok (.invokevirtual 287, 3) := by decide +kernel
theorem dX7_round_63 : decode cX7_round 63 = .ok (.iconst (-1), 1) := by decide +kernel
theorem dX7_round_64 : decode cX7_round 64 = .ok (.if_icmp .eq 10, 3) := by decide +kernel
theorem dX7_round_67 : decode cX7_round 67 = .ok (.aload_n 0, 1) := by decide +kernel
theorem dX7_round_68 : decode cX7_round 68 = .ok (.bipush (-6), 2) := by decide +kernel
theorem dX7_round_70 : decode cX7_round 70 = .ok (.invokevirtual 81, 3) := by decide +kernel
theorem dX7_round_73 : decode cX7_round 73 = .ok (.ireturn, 1) := by decide +kernel
theorem dX7_round_74 : decode cX7_round 74 = .ok (.bipush 8, 2) := by decide +kernel
theorem dX7_round_76 : decode cX7_round 76 = .ok (.newarray .int, 2) := by decide +kernel
theorem dX7_round_78 : decode cX7_round 78 = .ok (.astore 5, 2) := by decide +kernel
theorem dX7_round_80 : decode cX7_round 80 = .ok (.iconst 0, 1) := by decide +kernel
theorem dX7_round_81 : decode cX7_round 81 = .ok (.istore 6, 2) := by decide +kernel
theorem dX7_round_83 : decode cX7_round 83 = .ok (.iload 6, 2) := by decide +kernel
theorem dX7_round_85 : decode cX7_round 85 = .ok (.iload_n 2, 1) := by decide +kernel
theorem dX7_round_86 : decode cX7_round 86 = .ok (.if_icmp .ge 21, 3) := by decide +kernel
theorem dX7_round_89 : decode cX7_round 89 = .ok (.aload 5, 2) := by decide +kernel
theorem dX7_round_91 : decode cX7_round 91 = .ok (.iload 6, 2) := by decide +kernel
theorem dX7_round_93 : decode cX7_round 93 = .ok (.aload_n 0, 1) := by decide +kernel
theorem dX7_round_94 : decode cX7_round 94 = .ok (.iload_n 1, 1) := by decide +kernel
theorem dX7_round_95 : decode cX7_round 95 = .ok (.iload 6, 2) := by decide +kernel
theorem dX7_round_97 : decode cX7_round 97 = .ok (.invokevirtual 281, 3) := by decide +kernel
theorem dX7_round_100 : decode cX7_round 100 = .ok (.iastore, 1) := by decide +kernel
theorem dX7_round_101 : decode cX7_round 101 = .ok (.iinc 6 1, 3) := by decide +kernel
theorem dX7_round_104 : decode cX7_round 104 = .ok (.goto (-21), 3) := by decide +kernel
theorem dX7_round_107 : decode cX7_round 107 = .ok (.iload_n 3, 1) := by decide +kernel
theorem dX7_round_108 : decode cX7_round 108 = .ok (.iconst (-1), 1) := by decide +kernel
theorem dX7_round_109 : decode cX7_round 109 = .ok (.if_icmp .ne 13, 3) := by decide +kernel
theorem dX7_round_112 : decode cX7_round 112 = .ok (.aload_n 0, 1) := by decide +kernel
theorem dX7_round_113 : decode cX7_round 113 = .ok (.aload 5, 2) := by decide +kernel
theorem dX7_round_115 : decode cX7_round 115 = .ok (.iload_n 2, 1) := by decide +kernel
theorem dX7_round_116 : decode cX7_round 116 = .ok (.invokevirtual 260, 3) := by decide +kernel
theorem dX7_round_119 : decode cX7_round 119 = .ok (.goto 10, 3) := by decide +kernel
theorem dX7_round_122 : decode cX7_round 122 = .ok (.aload_n 0, 1) := by decide +kernel
theorem dX7_round_123 : decode cX7_round 123 = .ok (.aload 5, 2) := by decide +kernel
theorem dX7_round_125 : decode cX7_round 125 = .ok (.iload_n 3, 1) := by decide +kernel
theorem dX7_round_126 : decode cX7_round 126 = .ok (.invokevirtual 238, 3) := by decide +kernel
theorem dX7_round_129 : decode cX7_round 129 = .ok (.ireturn, 1) := by decide +kernel
theorem dX7_change_0 : decode cX7_change 0 = .ok (.aload_n 0, 1) := by decide +kernel
theorem dX7_change_1 : decode cX7_change 1 = .ok (.iload_n 1, 1) := by decide +kernel
theorem dX7_change_2 : decode cX7_change 2 = .ok (.invokevirtual 136, 3) := by decide +kernel
theorem dX7_change_5 : decode cX7_change 5 = .ok (.ifCond .ne 9, 3) := by decide +kernel
theorem dX7_change_8 : decode cX7_change 8 = .ok (.aload_n 0, 1) := by decide +kernel
theorem dX7_change_9 : decode cX7_change 9 = .ok (.iconst (-1), 1) := by decide +kernel
theorem dX7_change_10 : decode cX7_change 10 = .ok (.invokevirtual 81, 3) := by decide +kernel
theorem dX7_change_13 : decode cX7_change 13 = .ok (.ireturn, 1) := by decide +kernel
theorem dX7_change_14 : decode cX7_change 14 = .ok (.iload_n 2, 1) := by decide +kernel
theorem dX7_change_15 : decode cX7_change 15 = .ok (.iconst 0, 1) := by decide +kernel
theorem dX7_change_16 : decode cX7_change 16 = .ok (.iconst 2, 1) := by decide +kernel
theorem dX7_change_17 : decode cX7_change 17 = .ok (.invokestatic 88, 3) := by decide +kernel
theorem dX7_change_20 : decode cX7_change 20 = .ok (.ifCond .eq 27, 3) := by decide +kernel
theorem dX7_change_23 : decode cX7_change 23 = .ok (.iload_n 2, 1) := by decide +kernel
theorem dX7_change_24 : decode cX7_change 24 = .ok (.aload_n 0, 1) := by decide +kernel
theorem dX7_change_25 : decode cX7_change 25 = .ok (.getfield 32, 3) := by decide +kernel
theorem dX7_change_28 : decode cX7_change 28 = .ok (.iload_n 1, 1) := by decide +kernel
theorem dX7_change_29 : decode cX7_change 29 = .ok (.iaload, 1) := by decide +kernel
theorem dX7_change_30 : decode cX7_change 30 = .ok (.if_icmp .eq 17, 3) := by decide +kernel
theorem dX7_change_33 : decode cX7_change 33 = .ok (.iload_n 3, 1) := by decide +kernel
theorem dX7_change_34 : decode cX7_change 34 = .ok (.iconst 1, 1) := by decide +kernel
theorem dX7_change_35 : decode cX7_change 35 = .ok (.aload_n 0, 1) := by decide +kernel
theorem dX7_change_36 : decode cX7_change 36 = .ok (.getfield 29, 3) := by decide +kernel
theorem dX7_change_39 : decode cX7_change 39 = .ok (.iload_n 1, 1) := by decide +kernel
theorem dX7_change_40 : decode cX7_change 40 = .ok (.iaload, 1) := by decide +kernel
theorem dX7_change_41 : decode cX7_change 41 = .ok (.invokestatic 88, 3) := by decide +kernel
theorem dX7_change_44 : decode cX7_change 44 = .ok (.ifCond .ne 10, 3) := by decide +kernel
theorem dX7_change_47 : decode cX7_change 47 = .ok (.aload_n 0, 1) := by decide +kernel
theorem dX7_change_48 : decode cX7_change 48 = .ok (.bipush (-6), 2) := by decide +kernel
theorem dX7_change_50 : decode cX7_change 50 = .ok (.invokevirtual 81, 3) := by decide +kernel
theorem dX7_change_53 : decode cX7_change 53 = .ok (.ireturn, 1) := by decide +kernel
theorem dX7_change_54 : decode cX7_change 54 = .ok (.iload_n 3, 1) := by decide +kernel
theorem dX7_change_55 : decode cX7_change 55 = .ok (.aload_n 0, 1) := by decide +kernel
theorem dX7_change_56 : decode cX7_change 56 = .ok (.getfield 29, 3) := by decide +kernel
theorem dX7_change_59 : decode cX7_change 59 = .ok (.iload_n 1, 1) := by decide +kernel
theorem dX7_change_60 : decode cX7_change 60 = .ok (.iaload, 1) := by decide +kernel
theorem dX7_change_61 : decode cX7_change 61 = .ok (.if_icmp .ne 12, 3) := by decide +kernel
theorem dX7_change_64 : decode cX7_change 64 = .ok (.aload_n 0, 1) := by decide +kernel
theorem dX7_change_65 : decode cX7_change 65 = .ok (.getfield 32, 3) := by decide +kernel
theorem dX7_change_68 : decode cX7_change 68 = .ok (.iload_n 1, 1) := by decide +kernel
theorem dX7_change_69 : decode cX7_change 69 = .ok (.iload_n 2, 1) := by decide +kernel
theorem dX7_change_70 : decode cX7_change 70 = .ok (.iastore, 1) := by decide +kernel
theorem dX7_change_71 : decode cX7_change 71 = .ok (.iload_n 1, 1) := by decide +kernel
theorem dX7_change_72 : decode cX7_change 72 = .ok (.ireturn, 1) := by decide +kernel
theorem dX7_change_73 : decode cX7_change 73 = .ok (.aload_n 0, 1) := by decide +kernel
theorem dX7_change_74 : decode cX7_change 74 = .ok (.getfield 92, 3) := by decide +kernel
theorem dX7_change_77 : decode cX7_change 77 = .ok (.bipush 10, 2) := by decide +kernel
theorem dX7_change_79 : decode cX7_change 79 = .ok (.if_icmp .ne 10, 3) := by decide +kernel
theorem dX7_change_82 : decode cX7_change 82 = .ok (.aload_n 0, 1) := by decide +kernel
theorem dX7_change_83 : decode cX7_change 83 = .ok (.bipush (-7), 2) := by decide +kernel
theorem dX7_change_85 : decode cX7_change 85 = .ok (.invokevirtual 81, 3) := by decide +kernel
theorem dX7_change_88 : decode cX7_change 88 = .ok (.ireturn, 1) := by decide +kernel
theorem dX7_change_89 : decode cX7_change 89 = .ok (.aload_n 0, 1) := by decide +kernel
theorem dX7_change_90 : decode cX7_change 90 = .ok (.getfield 29, 3) := by decide +kernel
theorem dX7_change_93 : decode cX7_change 93 = .ok (.iload_n 1, 1) := by decide +kernel
theorem dX7_change_94 : decode cX7_change 94 = .ok (.dup2, 1) := by decide +kernel
theorem dX7_change_95 : decode cX7_change 95 = .ok (.iaload, 1) := by decide +kernel
theorem dX7_change_96 : decode cX7_change 96 = .ok (.iload_n 3, 1) := by decide +kernel
theorem dX7_change_97 : decode cX7_change 97 = .ok (.isub, 1) := by decide +kernel
theorem dX7_change_98 : decode cX7_change 98 = .ok (.iastore, 1) := by decide +kernel
theorem dX7_change_99 : decode cX7_change 99 = .ok (.aload_n 0, 1) := by decide +kernel
theorem dX7_change_100 : decode cX7_change 100 = .ok (.iload_n 3, 1) := by decide +kernel
theorem dX7_change_101 : decode cX7_change 101 = .ok (.iload_n 2, 1) := by decide +kernel
theorem dX7_change_102 : decode cX7_change 102 = .ok (.aload_n 0, 1) := by decide +kernel
theorem dX7_change_103 : decode cX7_change 103 = .ok (.getfield 35, 3) := by decide +kernel
theorem dX7_change_106 : decode cX7_change 106 = .ok (.iload_n 1, 1) := by decide +kernel
theorem dX7_change_107 : decode cX7_change 107 = .ok (.iaload, 1) := by decide +kernel
theorem dX7_change_108 : decode cX7_change 108 = .ok (.aload_n 0, 1) := by decide +kernel
theorem dX7_change_109 : decode cX7_change 109 = .ok (.getfield 38, 3) := by decide +kernel
theorem dX7_change_112 : decode cX7_change 112 = .ok (.iload_n 1, 1) := by decide +kernel
theorem dX7_change_113 : decode cX7_change 113 = .ok (.iaload, 1) := by decide +kernel
theorem dX7_change_114 : decode cX7_change 114 = .ok (.aload_n 0, 1) := by decide +kernel
theorem dX7_change_115 : decode cX7_change 115 = .ok (.getfield 41, 3) := by decide +kernel
theorem dX7_change_118 : decode cX7_change 118 = .ok (.iload_n 1, 1) := by decide +kernel
theorem dX7_change_119 : decode cX7_change 119 = .ok (.iaload, 1) := by decide +kernel
theorem dX7_change_120 : decode cX7_change 120 = .ok (.invokevirtual 123, 3) := by decide +kernel
theorem dX7_change_123 : decode cX7_change 123 = .ok (.ireturn, 1) := by decide +kernel
theorem dX7_draw_0 : decode cX7_draw 0 = .ok (.aload_n 0, 1) := by decide +kernel
theorem dX7_draw_1 : decode cX7_draw 1 = .ok (.aload_n 0, 1) := by decide +kernel
theorem dX7_draw_2 : decode cX7_draw 2 = .ok (.getfield 75, 3) := by decide +kernel
theorem dX7_draw_5 : decode cX7_draw 5 = .ok (.ldc_w 290, 3) := by decide +kernel
theorem dX7_draw_8 : decode cX7_draw 8 = .ok (.imul, 1) := by decide +kernel
theorem dX7_draw_9 : decode cX7_draw 9 = .ok (.sipush 12345, 3) := by decide +kernel
theorem dX7_draw_12 : decode cX7_draw 12 = .ok (.iadd, 1) := by decide +kernel
theorem dX7_draw_13 : decode cX7_draw 13 = .ok (.putfield 75, 3) := by decide +kernel
theorem dX7_draw_16 : decode cX7_draw 16 = .ok (.aload_n 0, 1) := by decide +kernel
theorem dX7_draw_17 : decode cX7_draw 17 = .ok (.getfield 75, 3) := by decide +kernel
theorem dX7_draw_20 : decode cX7_draw 20 = .ok (.bipush 16, 2) := by decide +kernel
theorem dX7_draw_22 : decode cX7_draw 22 = .ok (.iushr, 1) := by decide +kernel
theorem dX7_draw_23 : decode cX7_draw 23 = .ok (.iload_n 1, 1) := by decide +kernel
theorem dX7_draw_24 : decode cX7_draw 24 = .ok (.irem, 1) := by decide +kernel
theorem dX7_draw_25 : decode cX7_draw 25 = .ok (.ireturn, 1) := by decide +kernel
theorem dX7_doors_0 : decode cX7_doors 0 = .ok (.aload_n 0, 1) := by decide +kernel
theorem dX7_doors_1 : decode cX7_doors 1 = .ok (.getfield 92, 3) := by decide +kernel
theorem dX7_doors_4 : decode cX7_doors 4 = .ok (.ifCond .eq 10, 3) := by decide +kernel
theorem dX7_doors_7 : decode cX7_doors 7 = .ok (.aload_n 0, 1) := by decide +kernel
theorem dX7_doors_8 : decode cX7_doors 8 = .ok (.getfield 85, 3) := by decide +kernel
theorem dX7_doors_11 : decode cX7_doors 11 = .ok (.ifCond .ne 10, 3) := by decide +kernel
theorem dX7_doors_14 : decode cX7_doors 14 = .ok (.aload_n 0, 1) := by decide +kernel
theorem dX7_doors_15 : decode cX7_doors 15 = .ok (.bipush (-5), 2) := by decide +kernel
theorem dX7_doors_17 : decode cX7_doors 17 = .ok (.invokevirtual 81, 3) := by decide +kernel
theorem dX7_doors_20 : decode cX7_doors 20 = .ok (.ireturn, 1) := by decide +kernel
theorem dX7_doors_21 : decode cX7_doors 21 = .ok (.iload_n 1, 1) := by decide +kernel
theorem dX7_doors_22 : decode cX7_doors 22 = .ok (.iconst 1, 1) := by decide +kernel
theorem dX7_doors_23 : decode cX7_doors 23 = .ok (.sipush 200, 3) := by decide +kernel
theorem dX7_doors_26 : decode cX7_doors 26 = .ok (.invokestatic 88, 3) := by decide +kernel
theorem dX7_doors_29 : decode cX7_doors 29 = .ok (.ifCond .ne 10, 3) := by decide +kernel
theorem dX7_doors_32 : decode cX7_doors 32 = .ok (.aload_n 0, 1) := by decide +kernel
theorem dX7_doors_33 : decode cX7_doors 33 = .ok (.bipush (-6), 2) := by decide +kernel
theorem dX7_doors_35 : decode cX7_doors 35 = .ok (.invokevirtual 81, 3) := by decide +kernel
theorem dX7_doors_38 : decode cX7_doors 38 = .ok (.ireturn, 1) := by decide +kernel
theorem dX7_doors_39 : decode cX7_doors 39 = .ok (.aload_n 0, 1) := by decide +kernel
theorem dX7_doors_40 : decode cX7_doors 40 = .ok (.getfield 291, 3) := by decide +kernel
theorem dX7_doors_43 : decode cX7_doors 43 = .ok (.istore_n 2, 1) := by decide +kernel
theorem dX7_doors_44 : decode cX7_doors 44 = .ok (.iconst 0, 1) := by decide +kernel
theorem dX7_doors_45 : decode cX7_doors 45 = .ok (.istore_n 3, 1) := by decide +kernel
theorem dX7_doors_46 : decode cX7_doors 46 = .ok (.iload_n 3, 1) := by decide +kernel
theorem dX7_doors_47 : decode cX7_doors 47 = .ok (.iload_n 1, 1) := by decide +kernel
theorem dX7_doors_48 : decode cX7_doors 48 = .ok (.if_icmp .ge 113, 3) := by decide +kernel
theorem dX7_doors_51 : decode cX7_doors 51 = .ok (.aload_n 0, 1) := by decide +kernel
theorem dX7_doors_52 : decode cX7_doors 52 = .ok (.aload_n 0, 1) := by decide +kernel
theorem dX7_doors_53 : decode cX7_doors 53 = .ok (.getfield 92, 3) := by decide +kernel
theorem dX7_doors_56 : decode cX7_doors 56 = .ok (.invokevirtual 294, 3) := by decide +kernel
theorem dX7_doors_59 : decode cX7_doors 59 = .ok (.istore 4, 2) := by decide +kernel
theorem dX7_doors_61 : decode cX7_doors 61 = .ok (.aload_n 0, 1) := by decide +kernel
theorem dX7_doors_62 : decode cX7_doors 62 = .ok (.bipush 10, 2) := by decide +kernel
theorem dX7_doors_64 : decode cX7_doors 64 = .ok (.invokevirtual 294, 3) := by decide +kernel
theorem dX7_doors_67 : decode cX7_doors 67 = .ok (.aload_n 0, 1) := by decide +kernel
theorem dX7_doors_68 : decode cX7_doors 68 = .ok (.getfield 38, 3) := by decide +kernel
theorem dX7_doors_71 : decode cX7_doors 71 = .ok (.iload 4, 2) := by decide +kernel
theorem dX7_doors_73 : decode cX7_doors 73 = .ok (.iaload, 1) := by decide +kernel
theorem dX7_doors_74 : decode cX7_doors 74 = .ok (.if_icmp .ge 81, 3) := by decide +kernel
theorem dX7_doors_77 : decode cX7_doors 77 = .ok (.aload_n 0, 1) := by decide +kernel
theorem dX7_doors_78 : decode cX7_doors 78 = .ok (.bipush 10, 2) := by decide +kernel
theorem dX7_doors_80 : decode cX7_doors 80 = .ok (.invokevirtual 294, 3) := by decide +kernel
theorem dX7_doors_83 : decode cX7_doors 83 = .ok (.aload_n 0, 1) := by decide +kernel
theorem dX7_doors_84 : decode cX7_doors 84 = .ok (.getfield 41, 3) := by decide +kernel
theorem dX7_doors_87 : decode cX7_doors 87 = .ok (.iload 4, 2) := by decide +kernel
theorem dX7_doors_89 : decode cX7_doors 89 = .ok (.iaload, 1) := by decide +kernel
theorem dX7_doors_90 : decode cX7_doors 90 = .ok (.if_icmp .lt 6, 3) := by decide +kernel
theorem dX7_doors_93 : decode cX7_doors 93 = .ok (.goto 62, 3) := by decide +kernel
theorem dX7_doors_96 : decode cX7_doors 96 = .ok (.aload_n 0, 1) := by decide +kernel
theorem dX7_doors_97 : decode cX7_doors 97 = .ok (.aload_n 0, 1) := by decide +kernel
theorem dX7_doors_98 : decode cX7_doors 98 = .ok (.getfield 85, 3) := by decide +kernel
theorem dX7_doors_101 : decode cX7_doors 101 = .ok (.invokevirtual 294, 3) := by decide +kernel
theorem dX7_doors_104 : decode cX7_doors 104 = .ok (.istore 5, 2) := by decide +kernel
theorem dX7_doors_106 : decode cX7_doors 106 = .ok (.aload_n 0, 1) := by decide +kernel
theorem dX7_doors_107 : decode cX7_doors 107 = .ok (.dup, 1) := by decide +kernel
theorem dX7_doors_108 : decode cX7_doors 108 = .ok (.getfield 297, 3) := by decide +kernel
theorem dX7_doors_111 : decode cX7_doors 111 = .ok (.iconst 1, 1) := by decide +kernel
theorem dX7_doors_112 : decode cX7_doors 112 = .ok (.iadd, 1) := by decide +kernel
theorem dX7_doors_113 : decode cX7_doors 113 = .ok (.putfield 297, 3) := by decide +kernel
theorem dX7_doors_116 : decode cX7_doors 116 = .ok (.aload_n 0, 1) := by decide +kernel
theorem dX7_doors_117 : decode cX7_doors 117 = .ok (.aload_n 0, 1) := by decide +kernel
theorem dX7_doors_118 : decode cX7_doors 118 = .ok (.getfield 29, 3) := by decide +kernel
theorem dX7_doors_121 : decode cX7_doors 121 = .ok (.iload 4, 2) := by decide +kernel
theorem dX7_doors_123 : decode cX7_doors 123 = .ok (.iaload, 1) := by decide +kernel
theorem dX7_doors_124 : decode cX7_doors 124 = .ok (.invokevirtual 294, 3) := by decide +kernel
theorem dX7_doors_127 : decode cX7_doors 127 = .ok (.aload_n 0, 1) := by decide +kernel
theorem dX7_doors_128 : decode cX7_doors 128 = .ok (.iload 5, 2) := by decide +kernel
theorem dX7_doors_130 : decode cX7_doors 130 = .ok (.iload 4, 2) := by decide +kernel
theorem dX7_doors_132 : decode cX7_doors 132 = .ok (.aload_n 0, 1) := by decide +kernel
theorem dX7_doors_133 : decode cX7_doors 133 = .ok (.getfield 29, 3) := by decide +kernel
theorem dX7_doors_136 : decode cX7_doors 136 = .ok (.iload 4, 2) := by decide +kernel
theorem dX7_doors_138 : decode cX7_doors 138 = .ok (.iaload, 1) := by decide +kernel
theorem dX7_doors_139 : decode cX7_doors 139 = .ok (.invokevirtual 207, 3) := by decide +kernel
theorem dX7_doors_142 : decode cX7_doors 142 = .ok (.if_icmp .ge 13, 3) := by decide +kernel
theorem dX7_doors_145 : decode cX7_doors 145 = .ok (.aload_n 0, 1) := by decide +kernel
theorem dX7_doors_146 : decode cX7_doors 146 = .ok (.dup, 1) := by decide +kernel
theorem dX7_doors_147 : decode cX7_doors 147 = .ok (.getfield 291, 3) := by decide +kernel
theorem dX7_doors_150 : decode cX7_doors 150 = .ok (.iconst 1, 1) := by decide +kernel
theorem dX7_doors_151 : decode cX7_doors 151 = .ok (.iadd, 1) := by decide +kernel
theorem dX7_doors_152 : decode cX7_doors 152 = .ok (.putfield 291, 3) := by decide +kernel
theorem dX7_doors_155 : decode cX7_doors 155 = .ok (.iinc 3 1, 3) := by decide +kernel
theorem dX7_doors_158 : decode cX7_doors 158 = .ok (.goto (-112), 3) := by decide +kernel
theorem dX7_doors_161 : decode cX7_doors 161 = .ok (.aload_n 0, 1) := by decide +kernel
theorem dX7_doors_162 : decode cX7_doors 162 = .ok (.getfield 291, 3) := by decide +kernel
theorem dX7_doors_165 : decode cX7_doors 165 = .ok (.iload_n 2, 1) := by decide +kernel
theorem dX7_doors_166 : decode cX7_doors 166 = .ok (.isub, 1) := by decide +kernel
theorem dX7_doors_167 : decode cX7_doors 167 = .ok (.ireturn, 1) := by decide +kernel
theorem dX7_seed_0 : decode cX7_seed 0 = .ok (.aload_n 0, 1) := by decide +kernel
theorem dX7_seed_1 : decode cX7_seed 1 = .ok (.getfield 75, 3) := by decide +kernel
theorem dX7_seed_4 : decode cX7_seed 4 = .ok (.istore_n 2, 1) := by decide +kernel
theorem dX7_seed_5 : decode cX7_seed 5 = .ok (.aload_n 0, 1) := by decide +kernel
theorem dX7_seed_6 : decode cX7_seed 6 = .ok (.iload_n 1, 1) := by decide +kernel
theorem dX7_seed_7 : decode cX7_seed 7 = .ok (.putfield 75, 3) := by decide +kernel
theorem dX7_seed_10 : decode cX7_seed 10 = .ok (.iload_n 2, 1) := by decide +kernel
theorem dX7_seed_11 : decode cX7_seed 11 = .ok (.ireturn, 1) := by decide +kernel
theorem dX7_ran_0 : decode cX7_ran 0 = .ok (.aload_n 0, 1) := by decide +kernel
theorem dX7_ran_1 : decode cX7_ran 1 = .ok (.getfield 300, 3) := by decide +kernel
theorem dX7_ran_4 : decode cX7_ran 4 = .ok (.bipush 20, 2) := by decide +kernel
theorem dX7_ran_6 : decode cX7_ran 6 = .ok (.if_icmp .ge 13, 3) := by decide +kernel
theorem dX7_ran_9 : decode cX7_ran 9 = .ok (.aload_n 0, 1) := by decide +kernel
theorem dX7_ran_10 : decode cX7_ran 10 = .ok (.getfield 47, 3) := by decide +kernel
theorem dX7_ran_13 : decode cX7_ran 13 = .ok (.aload_n 0, 1) := by decide +kernel
theorem dX7_ran_14 : decode cX7_ran 14 = .ok (.getfield 300, 3) := by decide +kernel
theorem dX7_ran_17 : decode cX7_ran 17 = .ok (.iload_n 1, 1) := by decide +kernel
theorem dX7_ran_18 : decode cX7_ran 18 = .ok (.iastore, 1) := by decide +kernel
theorem dX7_ran_19 : decode cX7_ran 19 = .ok (.aload_n 0, 1) := by decide +kernel
theorem dX7_ran_20 : decode cX7_ran 20 = .ok (.dup, 1) := by decide +kernel
theorem dX7_ran_21 : decode cX7_ran 21 = .ok (.getfield 300, 3) := by decide +kernel
theorem dX7_ran_24 : decode cX7_ran 24 = .ok (.iconst 1, 1) := by decide +kernel
theorem dX7_ran_25 : decode cX7_ran 25 = .ok (.iadd, 1) := by decide +kernel
theorem dX7_ran_26 : decode cX7_ran 26 = .ok (.putfield 300, 3) := by decide +kernel
theorem dX7_ran_29 : decode cX7_ran 29 = .ok (.return_, 1) := by decide +kernel
theorem dX7_asksBy_0 : decode cX7_asksBy 0 = .ok (.aload_n 0, 1) := by decide +kernel
theorem dX7_asksBy_1 : decode cX7_asksBy 1 = .ok (.getfield 20, 3) := by decide +kernel
theorem dX7_asksBy_4 : decode cX7_asksBy 4 = .ok (.iload_n 1, 1) := by decide +kernel
theorem dX7_asksBy_5 : decode cX7_asksBy 5 = .ok (.iaload, 1) := by decide +kernel
theorem dX7_asksBy_6 : decode cX7_asksBy 6 = .ok (.istore_n 3, 1) := by decide +kernel
theorem dX7_asksBy_7 : decode cX7_asksBy 7 = .ok (.iload_n 3, 1) := by decide +kernel
theorem dX7_asksBy_8 : decode cX7_asksBy 8 = .ok (.bipush 6, 2) := by decide +kernel
theorem dX7_asksBy_10 : decode cX7_asksBy 10 = .ok (.if_icmp .ne 9, 3) := by decide +kernel
theorem dX7_asksBy_13 : decode cX7_asksBy 13 = .ok (.aload_n 0, 1) := by decide +kernel
theorem dX7_asksBy_14 : decode cX7_asksBy 14 = .ok (.bipush 70, 2) := by decide +kernel
theorem dX7_asksBy_16 : decode cX7_asksBy 16 = .ok (.invokevirtual 303, 3) := by decide +kernel
theorem dX7_asksBy_19 : decode cX7_asksBy 19 = .ok (.iload_n 3, 1) := by decide +kernel
theorem dX7_asksBy_20 : decode cX7_asksBy 20 = .ok (.iconst 4, 1) := by decide +kernel
theorem dX7_asksBy_21 : decode cX7_asksBy 21 = .ok (.if_icmp .eq 9, 3) := by decide +kernel
theorem dX7_asksBy_24 : decode cX7_asksBy 24 = .ok (.iload_n 3, 1) := by decide +kernel
theorem dX7_asksBy_25 : decode cX7_asksBy 25 = .ok (.bipush 6, 2) := by decide +kernel
theorem dX7_asksBy_27 : decode cX7_asksBy 27 = .ok (.if_icmp .ne 9, 3) := by decide +kernel
theorem dX7_asksBy_30 : decode cX7_asksBy 30 = .ok (.aload_n 0, 1) := by decide +kernel
theorem dX7_asksBy_31 : decode cX7_asksBy 31 = .ok (.bipush 51, 2) := by decide +kernel
theorem dX7_asksBy_33 : decode cX7_asksBy 33 = .ok (.invokevirtual 303, 3) := by decide +kernel
theorem dX7_asksBy_36 : decode cX7_asksBy 36 = .ok (.iload_n 3, 1) := by decide +kernel
theorem dX7_asksBy_37 : decode cX7_asksBy 37 = .ok (.iconst 1, 1) := by decide +kernel
theorem dX7_asksBy_38 : decode cX7_asksBy 38 = .ok (.if_icmp .eq 8, 3) := by decide +kernel
theorem dX7_asksBy_41 : decode cX7_asksBy 41 = .ok (.iload_n 3, 1) := by decide +kernel
theorem dX7_asksBy_42 : decode cX7_asksBy 42 = .ok (.iconst 3, 1) := by decide +kernel
theorem dX7_asksBy_43 : decode cX7_asksBy 43 = .ok (.if_icmp .ne 9, 3) := by decide +kernel
theorem dX7_asksBy_46 : decode cX7_asksBy 46 = .ok (.aload_n 0, 1) := by decide +kernel
theorem dX7_asksBy_47 : decode cX7_asksBy 47 = .ok (.bipush 20, 2) := by decide +kernel
theorem dX7_asksBy_49 : decode cX7_asksBy 49 = .ok (.invokevirtual 303, 3) := by decide +kernel
theorem dX7_asksBy_52 : decode cX7_asksBy 52 = .ok (.aload_n 0, 1) := by decide +kernel
theorem dX7_asksBy_53 : decode cX7_asksBy 53 = .ok (.bipush 10, 2) := by decide +kernel
theorem dX7_asksBy_55 : decode cX7_asksBy 55 = .ok (.invokevirtual 303, 3) := by decide +kernel
theorem dX7_asksBy_58 : decode cX7_asksBy 58 = .ok (.iload_n 2, 1) := by decide +kernel
theorem dX7_asksBy_59 : decode cX7_asksBy 59 = .ok (.iload_n 1, 1) := by decide +kernel
theorem dX7_asksBy_60 : decode cX7_asksBy 60 = .ok (.iadd, 1) := by decide +kernel
theorem dX7_asksBy_61 : decode cX7_asksBy 61 = .ok (.istore 4, 2) := by decide +kernel
theorem dX7_asksBy_63 : decode cX7_asksBy 63 = .ok (.iload_n 3, 1) := by decide +kernel
theorem dX7_asksBy_64 : decode cX7_asksBy 64 = .ok (.iconst 1, 1) := by decide +kernel
theorem dX7_asksBy_65 : decode cX7_asksBy 65 = .ok (.if_icmp .eq 8, 3) := by decide +kernel
theorem dX7_asksBy_68 : decode cX7_asksBy 68 = .ok (.iload_n 3, 1) := by decide +kernel
theorem dX7_asksBy_69 : decode cX7_asksBy 69 = .ok (.iconst 3, 1) := by decide +kernel
theorem dX7_asksBy_70 : decode cX7_asksBy 70 = .ok (.if_icmp .ne 13, 3) := by decide +kernel
theorem dX7_asksBy_73 : decode cX7_asksBy 73 = .ok (.iload 4, 2) := by decide +kernel
theorem dX7_asksBy_75 : decode cX7_asksBy 75 = .ok (.aload_n 0, 1) := by decide +kernel
theorem dX7_asksBy_76 : decode cX7_asksBy 76 = .ok (.getfield 23, 3) := by decide +kernel
theorem dX7_asksBy_79 : decode cX7_asksBy 79 = .ok (.iload_n 1, 1) := by decide +kernel
theorem dX7_asksBy_80 : decode cX7_asksBy 80 = .ok (.iaload, 1) := by decide +kernel
theorem dX7_asksBy_81 : decode cX7_asksBy 81 = .ok (.iadd, 1) := by decide +kernel
theorem dX7_asksBy_82 : decode cX7_asksBy 82 = .ok (.ireturn, 1) := by decide +kernel
theorem dX7_asksBy_83 : decode cX7_asksBy 83 = .ok (.iload_n 3, 1) := by decide +kernel
theorem dX7_asksBy_84 : decode cX7_asksBy 84 = .ok (.iconst 4, 1) := by decide +kernel
theorem dX7_asksBy_85 : decode cX7_asksBy 85 = .ok (.if_icmp .ne 10, 3) := by decide +kernel
theorem dX7_asksBy_88 : decode cX7_asksBy 88 = .ok (.iload 4, 2) := by decide +kernel
theorem dX7_asksBy_90 : decode cX7_asksBy 90 = .ok (.iload_n 1, 1) := by decide +kernel
theorem dX7_asksBy_91 : decode cX7_asksBy 91 = .ok (.isub, 1) := by decide +kernel
theorem dX7_asksBy_92 : decode cX7_asksBy 92 = .ok (.goto 20, 3) := by decide +kernel
theorem dX7_asksBy_95 : decode cX7_asksBy 95 = .ok (.iload_n 3, 1) := by decide +kernel
theorem dX7_asksBy_96 : decode cX7_asksBy 96 = .ok (.bipush 6, 2) := by decide +kernel
theorem dX7_asksBy_98 : decode cX7_asksBy 98 = .ok (.if_icmp .ne 12, 3) := by decide +kernel
theorem dX7_asksBy_101 : decode cX7_asksBy 101 = .ok (.iload 4, 2) := by decide +kernel
theorem dX7_asksBy_103 : decode cX7_asksBy 103 = .ok (.iload_n 1, 1) := by decide +kernel
theorem dX7_asksBy_104 : decode cX7_asksBy 104 = .ok (.isub, 1) := by decide +kernel
theorem dX7_asksBy_105 : decode cX7_asksBy 105 = .ok (.iconst 2, 1) := by decide +kernel
theorem dX7_asksBy_106 : decode cX7_asksBy 106 = .ok (.imul, 1) := by decide +kernel
theorem dX7_asksBy_107 : decode cX7_asksBy 107 = .ok (.goto 5, 3) := by decide +kernel
theorem dX7_asksBy_110 : decode cX7_asksBy 110 = .ok (.iload 4, 2) := by decide +kernel
theorem dX7_asksBy_112 : decode cX7_asksBy 112 = .ok (.ireturn, 1) := by decide +kernel
theorem dX7_leansBy_0 : decode cX7_leansBy 0 = .ok (.aload_n 0, 1) := by decide +kernel
theorem dX7_leansBy_1 : decode cX7_leansBy 1 = .ok (.getfield 20, 3) := by decide +kernel
theorem dX7_leansBy_4 : decode cX7_leansBy 4 = .ok (.iload_n 1, 1) := by decide +kernel
theorem dX7_leansBy_5 : decode cX7_leansBy 5 = .ok (.iaload, 1) := by decide +kernel
theorem dX7_leansBy_6 : decode cX7_leansBy 6 = .ok (.istore_n 3, 1) := by decide +kernel
theorem dX7_leansBy_7 : decode cX7_leansBy 7 = .ok (.iload_n 2, 1) := by decide +kernel
theorem dX7_leansBy_8 : decode cX7_leansBy 8 = .ok (.istore 4, 2) := by decide +kernel
theorem dX7_leansBy_10 : decode cX7_leansBy 10 = .ok (.iload_n 3, 1) := by decide +kernel
theorem dX7_leansBy_11 : decode cX7_leansBy 11 = .ok (.bipush 6, 2) := by decide +kernel
theorem dX7_leansBy_13 : decode cX7_leansBy 13 = .ok (.if_icmp .ne 19, 3) := by decide +kernel
theorem dX7_leansBy_16 : decode cX7_leansBy 16 = .ok (.aload_n 0, 1) := by decide +kernel
theorem dX7_leansBy_17 : decode cX7_leansBy 17 = .ok (.bipush 71, 2) := by decide +kernel
theorem dX7_leansBy_19 : decode cX7_leansBy 19 = .ok (.invokevirtual 303, 3) := by decide +kernel
theorem dX7_leansBy_22 : decode cX7_leansBy 22 = .ok (.iload_n 2, 1) := by decide +kernel
theorem dX7_leansBy_23 : decode cX7_leansBy 23 = .ok (.aload_n 0, 1) := by decide +kernel
theorem dX7_leansBy_24 : decode cX7_leansBy 24 = .ok (.getfield 23, 3) := by decide +kernel
theorem dX7_leansBy_27 : decode cX7_leansBy 27 = .ok (.iload_n 1, 1) := by decide +kernel
theorem dX7_leansBy_28 : decode cX7_leansBy 28 = .ok (.iaload, 1) := by decide +kernel
theorem dX7_leansBy_29 : decode cX7_leansBy 29 = .ok (.isub, 1) := by decide +kernel
theorem dX7_leansBy_30 : decode cX7_leansBy 30 = .ok (.istore 4, 2) := by decide +kernel
theorem dX7_leansBy_32 : decode cX7_leansBy 32 = .ok (.iload_n 3, 1) := by decide +kernel
theorem dX7_leansBy_33 : decode cX7_leansBy 33 = .ok (.iconst 3, 1) := by decide +kernel
theorem dX7_leansBy_34 : decode cX7_leansBy 34 = .ok (.if_icmp .ne 14, 3) := by decide +kernel
theorem dX7_leansBy_37 : decode cX7_leansBy 37 = .ok (.aload_n 0, 1) := by decide +kernel
theorem dX7_leansBy_38 : decode cX7_leansBy 38 = .ok (.bipush 40, 2) := by decide +kernel
theorem dX7_leansBy_40 : decode cX7_leansBy 40 = .ok (.invokevirtual 303, 3) := by decide +kernel
theorem dX7_leansBy_43 : decode cX7_leansBy 43 = .ok (.iload_n 2, 1) := by decide +kernel
theorem dX7_leansBy_44 : decode cX7_leansBy 44 = .ok (.iconst 1, 1) := by decide +kernel
theorem dX7_leansBy_45 : decode cX7_leansBy 45 = .ok (.iadd, 1) := by decide +kernel
theorem dX7_leansBy_46 : decode cX7_leansBy 46 = .ok (.istore 4, 2) := by decide +kernel
theorem dX7_leansBy_48 : decode cX7_leansBy 48 = .ok (.iload_n 3, 1) := by decide +kernel
theorem dX7_leansBy_49 : decode cX7_leansBy 49 = .ok (.iconst 2, 1) := by decide +kernel
theorem dX7_leansBy_50 : decode cX7_leansBy 50 = .ok (.if_icmp .eq 8, 3) := by decide +kernel
theorem dX7_leansBy_53 : decode cX7_leansBy 53 = .ok (.iload_n 3, 1) := by decide +kernel
theorem dX7_leansBy_54 : decode cX7_leansBy 54 = .ok (.iconst 5, 1) := by decide +kernel
theorem dX7_leansBy_55 : decode cX7_leansBy 55 = .ok (.if_icmp .ne 9, 3) := by decide +kernel
theorem dX7_leansBy_58 : decode cX7_leansBy 58 = .ok (.aload_n 0, 1) := by decide +kernel
theorem dX7_leansBy_59 : decode cX7_leansBy 59 = .ok (.bipush 30, 2) := by decide +kernel
theorem dX7_leansBy_61 : decode cX7_leansBy 61 = .ok (.invokevirtual 303, 3) := by decide +kernel
theorem dX7_leansBy_64 : decode cX7_leansBy 64 = .ok (.aload_n 0, 1) := by decide +kernel
theorem dX7_leansBy_65 : decode cX7_leansBy 65 = .ok (.bipush 11, 2) := by decide +kernel
theorem dX7_leansBy_67 : decode cX7_leansBy 67 = .ok (.invokevirtual 303, 3) := by decide +kernel
theorem dX7_leansBy_70 : decode cX7_leansBy 70 = .ok (.aload_n 0, 1) := by decide +kernel
theorem dX7_leansBy_71 : decode cX7_leansBy 71 = .ok (.iload_n 1, 1) := by decide +kernel
theorem dX7_leansBy_72 : decode cX7_leansBy 72 = .ok (.iload 4, 2) := by decide +kernel
theorem dX7_leansBy_74 : decode cX7_leansBy 74 = .ok (.invokevirtual 307, 3) := by decide +kernel
theorem dX7_leansBy_77 : decode cX7_leansBy 77 = .ok (.iconst 2, 1) := by decide +kernel
theorem dX7_leansBy_78 : decode cX7_leansBy 78 = .ok (.imul, 1) := by decide +kernel
theorem dX7_leansBy_79 : decode cX7_leansBy 79 = .ok (.istore 5, 2) := by decide +kernel
theorem dX7_leansBy_81 : decode cX7_leansBy 81 = .ok (.iload_n 3, 1) := by decide +kernel
theorem dX7_leansBy_82 : decode cX7_leansBy 82 = .ok (.iconst 2, 1) := by decide +kernel
theorem dX7_leansBy_83 : decode cX7_leansBy 83 = .ok (.if_icmp .eq 8, 3) := by decide +kernel
theorem dX7_leansBy_86 : decode cX7_leansBy 86 = .ok (.iload_n 3, 1) := by decide +kernel
theorem dX7_leansBy_87 : decode cX7_leansBy 87 = .ok (.iconst 5, 1) := by decide +kernel
theorem dX7_leansBy_88 : decode cX7_leansBy 88 = .ok (.if_icmp .ne 10, 3) := by decide +kernel
theorem dX7_leansBy_91 : decode cX7_leansBy 91 = .ok (.iload 5, 2) := by decide +kernel
theorem dX7_leansBy_93 : decode cX7_leansBy 93 = .ok (.iconst 3, 1) := by decide +kernel
theorem dX7_leansBy_94 : decode cX7_leansBy 94 = .ok (.imul, 1) := by decide +kernel
theorem dX7_leansBy_95 : decode cX7_leansBy 95 = .ok (.goto 5, 3) := by decide +kernel
theorem dX7_leansBy_98 : decode cX7_leansBy 98 = .ok (.iload 5, 2) := by decide +kernel
theorem dX7_leansBy_100 : decode cX7_leansBy 100 = .ok (.ireturn, 1) := by decide +kernel
theorem dX7_sumsBy_0 : decode cX7_sumsBy 0 = .ok (.aload_n 0, 1) := by decide +kernel
theorem dX7_sumsBy_1 : decode cX7_sumsBy 1 = .ok (.getfield 20, 3) := by decide +kernel
theorem dX7_sumsBy_4 : decode cX7_sumsBy 4 = .ok (.iload_n 1, 1) := by decide +kernel
theorem dX7_sumsBy_5 : decode cX7_sumsBy 5 = .ok (.iaload, 1) := by decide +kernel
theorem dX7_sumsBy_6 : decode cX7_sumsBy 6 = .ok (.istore_n 3, 1) := by decide +kernel
theorem dX7_sumsBy_7 : decode cX7_sumsBy 7 = .ok (.iload_n 3, 1) := by decide +kernel
theorem dX7_sumsBy_8 : decode cX7_sumsBy 8 = .ok (.iconst 4, 1) := by decide +kernel
theorem dX7_sumsBy_9 : decode cX7_sumsBy 9 = .ok (.if_icmp .eq 9, 3) := by decide +kernel
theorem dX7_sumsBy_12 : decode cX7_sumsBy 12 = .ok (.iload_n 3, 1) := by decide +kernel
theorem dX7_sumsBy_13 : decode cX7_sumsBy 13 = .ok (.bipush 6, 2) := by decide +kernel
theorem dX7_sumsBy_15 : decode cX7_sumsBy 15 = .ok (.if_icmp .ne 9, 3) := by decide +kernel
theorem dX7_sumsBy_18 : decode cX7_sumsBy 18 = .ok (.aload_n 0, 1) := by decide +kernel
theorem dX7_sumsBy_19 : decode cX7_sumsBy 19 = .ok (.bipush 50, 2) := by decide +kernel
theorem dX7_sumsBy_21 : decode cX7_sumsBy 21 = .ok (.invokevirtual 303, 3) := by decide +kernel
theorem dX7_sumsBy_24 : decode cX7_sumsBy 24 = .ok (.iload_n 3, 1) := by decide +kernel
theorem dX7_sumsBy_25 : decode cX7_sumsBy 25 = .ok (.iconst 5, 1) := by decide +kernel
theorem dX7_sumsBy_26 : decode cX7_sumsBy 26 = .ok (.if_icmp .ne 9, 3) := by decide +kernel
theorem dX7_sumsBy_29 : decode cX7_sumsBy 29 = .ok (.aload_n 0, 1) := by decide +kernel
theorem dX7_sumsBy_30 : decode cX7_sumsBy 30 = .ok (.bipush 60, 2) := by decide +kernel
theorem dX7_sumsBy_32 : decode cX7_sumsBy 32 = .ok (.invokevirtual 303, 3) := by decide +kernel
theorem dX7_sumsBy_35 : decode cX7_sumsBy 35 = .ok (.aload_n 0, 1) := by decide +kernel
theorem dX7_sumsBy_36 : decode cX7_sumsBy 36 = .ok (.bipush 12, 2) := by decide +kernel
theorem dX7_sumsBy_38 : decode cX7_sumsBy 38 = .ok (.invokevirtual 303, 3) := by decide +kernel
theorem dX7_sumsBy_41 : decode cX7_sumsBy 41 = .ok (.aload_n 0, 1) := by decide +kernel
theorem dX7_sumsBy_42 : decode cX7_sumsBy 42 = .ok (.iload_n 1, 1) := by decide +kernel
theorem dX7_sumsBy_43 : decode cX7_sumsBy 43 = .ok (.iload_n 2, 1) := by decide +kernel
theorem dX7_sumsBy_44 : decode cX7_sumsBy 44 = .ok (.invokevirtual 310, 3) := by decide +kernel
theorem dX7_sumsBy_47 : decode cX7_sumsBy 47 = .ok (.istore 4, 2) := by decide +kernel
theorem dX7_sumsBy_49 : decode cX7_sumsBy 49 = .ok (.iload 4, 2) := by decide +kernel
theorem dX7_sumsBy_51 : decode cX7_sumsBy 51 = .ok (.aload_n 0, 1) := by decide +kernel
theorem dX7_sumsBy_52 : decode cX7_sumsBy 52 = .ok (.iload_n 1, 1) := by decide +kernel
theorem dX7_sumsBy_53 : decode cX7_sumsBy 53 = .ok (.iload_n 2, 1) := by decide +kernel
theorem dX7_sumsBy_54 : decode cX7_sumsBy 54 = .ok (.aload_n 0, 1) := by decide +kernel
theorem dX7_sumsBy_55 : decode cX7_sumsBy 55 = .ok (.getfield 23, 3) := by decide +kernel
theorem dX7_sumsBy_58 : decode cX7_sumsBy 58 = .ok (.iload_n 1, 1) := by decide +kernel
theorem dX7_sumsBy_59 : decode cX7_sumsBy 59 = .ok (.iaload, 1) := by decide +kernel
theorem dX7_sumsBy_60 : decode cX7_sumsBy 60 = .ok (.isub, 1) := by decide +kernel
theorem dX7_sumsBy_61 : decode cX7_sumsBy 61 = .ok (.invokevirtual 307, 3) := by decide +kernel
theorem dX7_sumsBy_64 : decode cX7_sumsBy 64 = .ok (.ixor, 1) := by decide +kernel
theorem dX7_sumsBy_65 : decode cX7_sumsBy 65 = .ok (.istore 5, 2) := by decide +kernel
theorem dX7_sumsBy_67 : decode cX7_sumsBy 67 = .ok (.iload_n 3, 1) := by decide +kernel
theorem dX7_sumsBy_68 : decode cX7_sumsBy 68 = .ok (.iconst 4, 1) := by decide +kernel
theorem dX7_sumsBy_69 : decode cX7_sumsBy 69 = .ok (.if_icmp .eq 9, 3) := by decide +kernel
theorem dX7_sumsBy_72 : decode cX7_sumsBy 72 = .ok (.iload_n 3, 1) := by decide +kernel
theorem dX7_sumsBy_73 : decode cX7_sumsBy 73 = .ok (.bipush 6, 2) := by decide +kernel
theorem dX7_sumsBy_75 : decode cX7_sumsBy 75 = .ok (.if_icmp .ne 9, 3) := by decide +kernel
theorem dX7_sumsBy_78 : decode cX7_sumsBy 78 = .ok (.iload 5, 2) := by decide +kernel
theorem dX7_sumsBy_80 : decode cX7_sumsBy 80 = .ok (.ineg, 1) := by decide +kernel
theorem dX7_sumsBy_81 : decode cX7_sumsBy 81 = .ok (.goto 17, 3) := by decide +kernel
theorem dX7_sumsBy_84 : decode cX7_sumsBy 84 = .ok (.iload_n 3, 1) := by decide +kernel
theorem dX7_sumsBy_85 : decode cX7_sumsBy 85 = .ok (.iconst 5, 1) := by decide +kernel
theorem dX7_sumsBy_86 : decode cX7_sumsBy 86 = .ok (.if_icmp .ne 10, 3) := by decide +kernel
theorem dX7_sumsBy_89 : decode cX7_sumsBy 89 = .ok (.iload 5, 2) := by decide +kernel
theorem dX7_sumsBy_91 : decode cX7_sumsBy 91 = .ok (.iconst 5, 1) := by decide +kernel
theorem dX7_sumsBy_92 : decode cX7_sumsBy 92 = .ok (.ixor, 1) := by decide +kernel
theorem dX7_sumsBy_93 : decode cX7_sumsBy 93 = .ok (.goto 5, 3) := by decide +kernel
theorem dX7_sumsBy_96 : decode cX7_sumsBy 96 = .ok (.iload 5, 2) := by decide +kernel
theorem dX7_sumsBy_98 : decode cX7_sumsBy 98 = .ok (.ireturn, 1) := by decide +kernel
theorem dX7_act_0 : decode cX7_act 0 = .ok (.aload_n 0, 1) := by decide +kernel
theorem dX7_act_1 : decode cX7_act 1 = .ok (.iconst 0, 1) := by decide +kernel
theorem dX7_act_2 : decode cX7_act 2 = .ok (.putfield 300, 3) := by decide +kernel
theorem dX7_act_5 : decode cX7_act 5 = .ok (.aload_n 0, 1) := by decide +kernel
theorem dX7_act_6 : decode cX7_act 6 = .ok (.iload_n 1, 1) := by decide +kernel
theorem dX7_act_7 : decode cX7_act 7 = .ok (.invokevirtual 102, 3) := by decide +kernel
theorem dX7_act_10 : decode cX7_act 10 = .ok (.ifCond .eq 12, 3) := by decide +kernel
theorem dX7_act_13 : decode cX7_act 13 = .ok (.iload_n 2, 1) := by decide +kernel
theorem dX7_act_14 : decode cX7_act 14 = .ok (.iconst 0, 1) := by decide +kernel
theorem dX7_act_15 : decode cX7_act 15 = .ok (.iconst 2, 1) := by decide +kernel
theorem dX7_act_16 : decode cX7_act 16 = .ok (.invokestatic 88, 3) := by decide +kernel
theorem dX7_act_19 : decode cX7_act 19 = .ok (.ifCond .ne 5, 3) := by decide +kernel
theorem dX7_act_22 : decode cX7_act 22 = .ok (.iconst 0, 1) := by decide +kernel
theorem dX7_act_23 : decode cX7_act 23 = .ok (.ireturn, 1) := by decide +kernel
theorem dX7_act_24 : decode cX7_act 24 = .ok (.iload_n 2, 1) := by decide +kernel
theorem dX7_act_25 : decode cX7_act 25 = .ok (.ifCond .ne 12, 3) := by decide +kernel
theorem dX7_act_28 : decode cX7_act 28 = .ok (.aload_n 0, 1) := by decide +kernel
theorem dX7_act_29 : decode cX7_act 29 = .ok (.iload_n 1, 1) := by decide +kernel
theorem dX7_act_30 : decode cX7_act 30 = .ok (.iload_n 3, 1) := by decide +kernel
theorem dX7_act_31 : decode cX7_act 31 = .ok (.invokevirtual 307, 3) := by decide +kernel
theorem dX7_act_34 : decode cX7_act 34 = .ok (.goto 23, 3) := by decide +kernel
theorem dX7_act_37 : decode cX7_act 37 = .ok (.iload_n 2, 1) := by decide +kernel
theorem dX7_act_38 : decode cX7_act 38 = .ok (.iconst 1, 1) := by decide +kernel
theorem dX7_act_39 : decode cX7_act 39 = .ok (.if_icmp .ne 12, 3) := by decide +kernel
theorem dX7_act_42 : decode cX7_act 42 = .ok (.aload_n 0, 1) := by decide +kernel
theorem dX7_act_43 : decode cX7_act 43 = .ok (.iload_n 1, 1) := by decide +kernel
theorem dX7_act_44 : decode cX7_act 44 = .ok (.iload_n 3, 1) := by decide +kernel
theorem dX7_act_45 : decode cX7_act 45 = .ok (.invokevirtual 310, 3) := by decide +kernel
theorem dX7_act_48 : decode cX7_act 48 = .ok (.goto 9, 3) := by decide +kernel
theorem dX7_act_51 : decode cX7_act 51 = .ok (.aload_n 0, 1) := by decide +kernel
theorem dX7_act_52 : decode cX7_act 52 = .ok (.iload_n 1, 1) := by decide +kernel
theorem dX7_act_53 : decode cX7_act 53 = .ok (.iload_n 3, 1) := by decide +kernel
theorem dX7_act_54 : decode cX7_act 54 = .ok (.invokevirtual 313, 3) := by decide +kernel
theorem dX7_act_57 : decode cX7_act 57 = .ok (.ireturn, 1) := by decide +kernel
theorem dX7_trace_0 : decode cX7_trace 0 = .ok (.iload_n 1, 1) := by decide +kernel
theorem dX7_trace_1 : decode cX7_trace 1 = .ok (.ifCond .lt 26, 3) := by decide +kernel
theorem dX7_trace_4 : decode cX7_trace 4 = .ok (.iload_n 1, 1) := by decide +kernel
theorem dX7_trace_5 : decode cX7_trace 5 = .ok (.aload_n 0, 1) := by decide +kernel
theorem dX7_trace_6 : decode cX7_trace 6 = .ok (.getfield 300, 3) := by decide +kernel
theorem dX7_trace_9 : decode cX7_trace 9 = .ok (.if_icmp .ge 18, 3) := by decide +kernel
theorem dX7_trace_12 : decode cX7_trace 12 = .ok (.iload_n 1, 1) := by decide +kernel
theorem dX7_trace_13 : decode cX7_trace 13 = .ok (.bipush 20, 2) := by decide +kernel
theorem dX7_trace_15 : decode cX7_trace 15 = .ok (.if_icmp .ge 12, 3) := by decide +kernel
theorem dX7_trace_18 : decode cX7_trace 18 = .ok (.aload_n 0, 1) := by decide +kernel
theorem dX7_trace_19 : decode cX7_trace 19 = .ok (.getfield 47, 3) := by decide +kernel
theorem dX7_trace_22 : decode cX7_trace 22 = .ok (.iload_n 1, 1) := by decide +kernel
theorem dX7_trace_23 : decode cX7_trace 23 = .ok (.iaload, 1) := by decide +kernel
theorem dX7_trace_24 : decode cX7_trace 24 = .ok (.goto 4, 3) := by decide +kernel
theorem dX7_trace_27 : decode cX7_trace 27 = .ok (.iconst (-1), 1) := by decide +kernel
theorem dX7_trace_28 : decode cX7_trace 28 = .ok (.ireturn, 1) := by decide +kernel
theorem dX7_keep_0 : decode cX7_keep 0 = .ok (.iconst 0, 1) := by decide +kernel
theorem dX7_keep_1 : decode cX7_keep 1 = .ok (.istore_n 2, 1) := by decide +kernel
theorem dX7_keep_2 : decode cX7_keep 2 = .ok (.iload_n 2, 1) := by decide +kernel
theorem dX7_keep_3 : decode cX7_keep 3 = .ok (.bipush 8, 2) := by decide +kernel
theorem dX7_keep_5 : decode cX7_keep 5 = .ok (.if_icmp .ge 30, 3) := by decide +kernel
theorem dX7_keep_8 : decode cX7_keep 8 = .ok (.aload_n 1, 1) := by decide +kernel
theorem dX7_keep_9 : decode cX7_keep 9 = .ok (.iload_n 2, 1) := by decide +kernel
theorem dX7_keep_10 : decode cX7_keep 10 = .ok (.aload_n 0, 1) := by decide +kernel
theorem dX7_keep_11 : decode cX7_keep 11 = .ok (.getfield 20, 3) := by decide +kernel
theorem dX7_keep_14 : decode cX7_keep 14 = .ok (.iload_n 2, 1) := by decide +kernel
theorem dX7_keep_15 : decode cX7_keep 15 = .ok (.iaload, 1) := by decide +kernel
theorem dX7_keep_16 : decode cX7_keep 16 = .ok (.iastore, 1) := by decide +kernel
theorem dX7_keep_17 : decode cX7_keep 17 = .ok (.aload_n 1, 1) := by decide +kernel
theorem dX7_keep_18 : decode cX7_keep 18 = .ok (.bipush 8, 2) := by decide +kernel
theorem dX7_keep_20 : decode cX7_keep 20 = .ok (.iload_n 2, 1) := by decide +kernel
theorem dX7_keep_21 : decode cX7_keep 21 = .ok (.iadd, 1) := by decide +kernel
theorem dX7_keep_22 : decode cX7_keep 22 = .ok (.aload_n 0, 1) := by decide +kernel
theorem dX7_keep_23 : decode cX7_keep 23 = .ok (.getfield 23, 3) := by decide +kernel
theorem dX7_keep_26 : decode cX7_keep 26 = .ok (.iload_n 2, 1) := by decide +kernel
theorem dX7_keep_27 : decode cX7_keep 27 = .ok (.iaload, 1) := by decide +kernel
theorem dX7_keep_28 : decode cX7_keep 28 = .ok (.iastore, 1) := by decide +kernel
theorem dX7_keep_29 : decode cX7_keep 29 = .ok (.iinc 2 1, 3) := by decide +kernel
theorem dX7_keep_32 : decode cX7_keep 32 = .ok (.goto (-30), 3) := by decide +kernel
theorem dX7_keep_35 : decode cX7_keep 35 = .ok (.iconst 0, 1) := by decide +kernel
theorem dX7_keep_36 : decode cX7_keep 36 = .ok (.istore_n 2, 1) := by decide +kernel
theorem dX7_keep_37 : decode cX7_keep 37 = .ok (.iload_n 2, 1) := by decide +kernel
theorem dX7_keep_38 : decode cX7_keep 38 = .ok (.bipush 64, 2) := by decide +kernel
theorem dX7_keep_40 : decode cX7_keep 40 = .ok (.if_icmp .ge 21, 3) := by decide +kernel
theorem dX7_keep_43 : decode cX7_keep 43 = .ok (.aload_n 1, 1) := by decide +kernel
theorem dX7_keep_44 : decode cX7_keep 44 = .ok (.bipush 16, 2) := by decide +kernel
theorem dX7_keep_46 : decode cX7_keep 46 = .ok (.iload_n 2, 1) := by decide +kernel
theorem dX7_keep_47 : decode cX7_keep 47 = .ok (.iadd, 1) := by decide +kernel
theorem dX7_keep_48 : decode cX7_keep 48 = .ok (.aload_n 0, 1) := by decide +kernel
theorem dX7_keep_49 : decode cX7_keep 49 = .ok (.getfield 26, 3) := by decide +kernel
theorem dX7_keep_52 : decode cX7_keep 52 = .ok (.iload_n 2, 1) := by decide +kernel
theorem dX7_keep_53 : decode cX7_keep 53 = .ok (.iaload, 1) := by decide +kernel
theorem dX7_keep_54 : decode cX7_keep 54 = .ok (.iastore, 1) := by decide +kernel
theorem dX7_keep_55 : decode cX7_keep 55 = .ok (.iinc 2 1, 3) := by decide +kernel
theorem dX7_keep_58 : decode cX7_keep 58 = .ok (.goto (-21), 3) := by decide +kernel
theorem dX7_keep_61 : decode cX7_keep 61 = .ok (.iconst 0, 1) := by decide +kernel
theorem dX7_keep_62 : decode cX7_keep 62 = .ok (.istore_n 2, 1) := by decide +kernel
theorem dX7_keep_63 : decode cX7_keep 63 = .ok (.iload_n 2, 1) := by decide +kernel
theorem dX7_keep_64 : decode cX7_keep 64 = .ok (.bipush 10, 2) := by decide +kernel
theorem dX7_keep_66 : decode cX7_keep 66 = .ok (.if_icmp .ge 69, 3) := by decide +kernel
theorem dX7_keep_69 : decode cX7_keep 69 = .ok (.aload_n 1, 1) := by decide +kernel
theorem dX7_keep_70 : decode cX7_keep 70 = .ok (.bipush 80, 2) := by decide +kernel
theorem dX7_keep_72 : decode cX7_keep 72 = .ok (.iload_n 2, 1) := by decide +kernel
theorem dX7_keep_73 : decode cX7_keep 73 = .ok (.iadd, 1) := by decide +kernel
theorem dX7_keep_74 : decode cX7_keep 74 = .ok (.aload_n 0, 1) := by decide +kernel
theorem dX7_keep_75 : decode cX7_keep 75 = .ok (.getfield 29, 3) := by decide +kernel
theorem dX7_keep_78 : decode cX7_keep 78 = .ok (.iload_n 2, 1) := by decide +kernel
theorem dX7_keep_79 : decode cX7_keep 79 = .ok (.iaload, 1) := by decide +kernel
theorem dX7_keep_80 : decode cX7_keep 80 = .ok (.iastore, 1) := by decide +kernel
theorem dX7_keep_81 : decode cX7_keep 81 = .ok (.aload_n 1, 1) := by decide +kernel
theorem dX7_keep_82 : decode cX7_keep 82 = .ok (.bipush 90, 2) := by decide +kernel
theorem dX7_keep_84 : decode cX7_keep 84 = .ok (.iload_n 2, 1) := by decide +kernel
theorem dX7_keep_85 : decode cX7_keep 85 = .ok (.iadd, 1) := by decide +kernel
theorem dX7_keep_86 : decode cX7_keep 86 = .ok (.aload_n 0, 1) := by decide +kernel
theorem dX7_keep_87 : decode cX7_keep 87 = .ok (.getfield 32, 3) := by decide +kernel
theorem dX7_keep_90 : decode cX7_keep 90 = .ok (.iload_n 2, 1) := by decide +kernel
theorem dX7_keep_91 : decode cX7_keep 91 = .ok (.iaload, 1) := by decide +kernel
theorem dX7_keep_92 : decode cX7_keep 92 = .ok (.iastore, 1) := by decide +kernel
theorem dX7_keep_93 : decode cX7_keep 93 = .ok (.aload_n 1, 1) := by decide +kernel
theorem dX7_keep_94 : decode cX7_keep 94 = .ok (.bipush 100, 2) := by decide +kernel
theorem dX7_keep_96 : decode cX7_keep 96 = .ok (.iload_n 2, 1) := by decide +kernel
theorem dX7_keep_97 : decode cX7_keep 97 = .ok (.iadd, 1) := by decide +kernel
theorem dX7_keep_98 : decode cX7_keep 98 = .ok (.aload_n 0, 1) := by decide +kernel
theorem dX7_keep_99 : decode cX7_keep 99 = .ok (.getfield 35, 3) := by decide +kernel
theorem dX7_keep_102 : decode cX7_keep 102 = .ok (.iload_n 2, 1) := by decide +kernel
theorem dX7_keep_103 : decode cX7_keep 103 = .ok (.iaload, 1) := by decide +kernel
theorem dX7_keep_104 : decode cX7_keep 104 = .ok (.iastore, 1) := by decide +kernel
theorem dX7_keep_105 : decode cX7_keep 105 = .ok (.aload_n 1, 1) := by decide +kernel
theorem dX7_keep_106 : decode cX7_keep 106 = .ok (.bipush 110, 2) := by decide +kernel
theorem dX7_keep_108 : decode cX7_keep 108 = .ok (.iload_n 2, 1) := by decide +kernel
theorem dX7_keep_109 : decode cX7_keep 109 = .ok (.iadd, 1) := by decide +kernel
theorem dX7_keep_110 : decode cX7_keep 110 = .ok (.aload_n 0, 1) := by decide +kernel
theorem dX7_keep_111 : decode cX7_keep 111 = .ok (.getfield 38, 3) := by decide +kernel
theorem dX7_keep_114 : decode cX7_keep 114 = .ok (.iload_n 2, 1) := by decide +kernel
theorem dX7_keep_115 : decode cX7_keep 115 = .ok (.iaload, 1) := by decide +kernel
theorem dX7_keep_116 : decode cX7_keep 116 = .ok (.iastore, 1) := by decide +kernel
theorem dX7_keep_117 : decode cX7_keep 117 = .ok (.aload_n 1, 1) := by decide +kernel
theorem dX7_keep_118 : decode cX7_keep 118 = .ok (.bipush 120, 2) := by decide +kernel
theorem dX7_keep_120 : decode cX7_keep 120 = .ok (.iload_n 2, 1) := by decide +kernel
theorem dX7_keep_121 : decode cX7_keep 121 = .ok (.iadd, 1) := by decide +kernel
theorem dX7_keep_122 : decode cX7_keep 122 = .ok (.aload_n 0, 1) := by decide +kernel
theorem dX7_keep_123 : decode cX7_keep 123 = .ok (.getfield 41, 3) := by decide +kernel
theorem dX7_keep_126 : decode cX7_keep 126 = .ok (.iload_n 2, 1) := by decide +kernel
theorem dX7_keep_127 : decode cX7_keep 127 = .ok (.iaload, 1) := by decide +kernel
theorem dX7_keep_128 : decode cX7_keep 128 = .ok (.iastore, 1) := by decide +kernel
theorem dX7_keep_129 : decode cX7_keep 129 = .ok (.iinc 2 1, 3) := by decide +kernel
theorem dX7_keep_132 : decode cX7_keep 132 = .ok (.goto (-69), 3) := by decide +kernel
theorem dX7_keep_135 : decode cX7_keep 135 = .ok (.aload_n 1, 1) := by decide +kernel
theorem dX7_keep_136 : decode cX7_keep 136 = .ok (.sipush 130, 3) := by decide +kernel
theorem dX7_keep_139 : decode cX7_keep 139 = .ok (.aload_n 0, 1) := by decide +kernel
theorem dX7_keep_140 : decode cX7_keep 140 = .ok (.getfield 85, 3) := by decide +kernel
theorem dX7_keep_143 : decode cX7_keep 143 = .ok (.iastore, 1) := by decide +kernel
theorem dX7_keep_144 : decode cX7_keep 144 = .ok (.aload_n 1, 1) := by decide +kernel
theorem dX7_keep_145 : decode cX7_keep 145 = .ok (.sipush 131, 3) := by decide +kernel
theorem dX7_keep_148 : decode cX7_keep 148 = .ok (.aload_n 0, 1) := by decide +kernel
theorem dX7_keep_149 : decode cX7_keep 149 = .ok (.getfield 92, 3) := by decide +kernel
theorem dX7_keep_152 : decode cX7_keep 152 = .ok (.iastore, 1) := by decide +kernel
theorem dX7_keep_153 : decode cX7_keep 153 = .ok (.aload_n 1, 1) := by decide +kernel
theorem dX7_keep_154 : decode cX7_keep 154 = .ok (.sipush 132, 3) := by decide +kernel
theorem dX7_keep_157 : decode cX7_keep 157 = .ok (.aload_n 0, 1) := by decide +kernel
theorem dX7_keep_158 : decode cX7_keep 158 = .ok (.getfield 71, 3) := by decide +kernel
theorem dX7_keep_161 : decode cX7_keep 161 = .ok (.iastore, 1) := by decide +kernel
theorem dX7_keep_162 : decode cX7_keep 162 = .ok (.aload_n 1, 1) := by decide +kernel
theorem dX7_keep_163 : decode cX7_keep 163 = .ok (.sipush 133, 3) := by decide +kernel
theorem dX7_keep_166 : decode cX7_keep 166 = .ok (.aload_n 0, 1) := by decide +kernel
theorem dX7_keep_167 : decode cX7_keep 167 = .ok (.getfield 139, 3) := by decide +kernel
theorem dX7_keep_170 : decode cX7_keep 170 = .ok (.iastore, 1) := by decide +kernel
theorem dX7_keep_171 : decode cX7_keep 171 = .ok (.aload_n 1, 1) := by decide +kernel
theorem dX7_keep_172 : decode cX7_keep 172 = .ok (.sipush 134, 3) := by decide +kernel
theorem dX7_keep_175 : decode cX7_keep 175 = .ok (.aload_n 0, 1) := by decide +kernel
theorem dX7_keep_176 : decode cX7_keep 176 = .ok (.getfield 297, 3) := by decide +kernel
theorem dX7_keep_179 : decode cX7_keep 179 = .ok (.iastore, 1) := by decide +kernel
theorem dX7_keep_180 : decode cX7_keep 180 = .ok (.aload_n 1, 1) := by decide +kernel
theorem dX7_keep_181 : decode cX7_keep 181 = .ok (.sipush 135, 3) := by decide +kernel
theorem dX7_keep_184 : decode cX7_keep 184 = .ok (.aload_n 0, 1) := by decide +kernel
theorem dX7_keep_185 : decode cX7_keep 185 = .ok (.getfield 291, 3) := by decide +kernel
theorem dX7_keep_188 : decode cX7_keep 188 = .ok (.iastore, 1) := by decide +kernel
theorem dX7_keep_189 : decode cX7_keep 189 = .ok (.aload_n 1, 1) := by decide +kernel
theorem dX7_keep_190 : decode cX7_keep 190 = .ok (.sipush 136, 3) := by decide +kernel
theorem dX7_keep_193 : decode cX7_keep 193 = .ok (.aload_n 0, 1) := by decide +kernel
theorem dX7_keep_194 : decode cX7_keep 194 = .ok (.getfield 75, 3) := by decide +kernel
theorem dX7_keep_197 : decode cX7_keep 197 = .ok (.iastore, 1) := by decide +kernel
theorem dX7_keep_198 : decode cX7_keep 198 = .ok (.return_, 1) := by decide +kernel
theorem dX7_again_0 : decode cX7_again 0 = .ok (.iconst 0, 1) := by decide +kernel
theorem dX7_again_1 : decode cX7_again 1 = .ok (.istore_n 2, 1) := by decide +kernel
theorem dX7_again_2 : decode cX7_again 2 = .ok (.iload_n 2, 1) := by decide +kernel
theorem dX7_again_3 : decode cX7_again 3 = .ok (.bipush 8, 2) := by decide +kernel
theorem dX7_again_5 : decode cX7_again 5 = .ok (.if_icmp .ge 30, 3) := by decide +kernel
theorem dX7_again_8 : decode cX7_again 8 = .ok (.aload_n 0, 1) := by decide +kernel
theorem dX7_again_9 : decode cX7_again 9 = .ok (.getfield 20, 3) := by decide +kernel
theorem dX7_again_12 : decode cX7_again 12 = .ok (.iload_n 2, 1) := by decide +kernel
theorem dX7_again_13 : decode cX7_again 13 = .ok (.aload_n 1, 1) := by decide +kernel
theorem dX7_again_14 : decode cX7_again 14 = .ok (.iload_n 2, 1) := by decide +kernel
theorem dX7_again_15 : decode cX7_again 15 = .ok (.iaload, 1) := by decide +kernel
theorem dX7_again_16 : decode cX7_again 16 = .ok (.iastore, 1) := by decide +kernel
theorem dX7_again_17 : decode cX7_again 17 = .ok (.aload_n 0, 1) := by decide +kernel
theorem dX7_again_18 : decode cX7_again 18 = .ok (.getfield 23, 3) := by decide +kernel
theorem dX7_again_21 : decode cX7_again 21 = .ok (.iload_n 2, 1) := by decide +kernel
theorem dX7_again_22 : decode cX7_again 22 = .ok (.aload_n 1, 1) := by decide +kernel
theorem dX7_again_23 : decode cX7_again 23 = .ok (.bipush 8, 2) := by decide +kernel
theorem dX7_again_25 : decode cX7_again 25 = .ok (.iload_n 2, 1) := by decide +kernel
theorem dX7_again_26 : decode cX7_again 26 = .ok (.iadd, 1) := by decide +kernel
theorem dX7_again_27 : decode cX7_again 27 = .ok (.iaload, 1) := by decide +kernel
theorem dX7_again_28 : decode cX7_again 28 = .ok (.iastore, 1) := by decide +kernel
theorem dX7_again_29 : decode cX7_again 29 = .ok (.iinc 2 1, 3) := by decide +kernel
theorem dX7_again_32 : decode cX7_again 32 = .ok (.goto (-30), 3) := by decide +kernel
theorem dX7_again_35 : decode cX7_again 35 = .ok (.iconst 0, 1) := by decide +kernel
theorem dX7_again_36 : decode cX7_again 36 = .ok (.istore_n 2, 1) := by decide +kernel
theorem dX7_again_37 : decode cX7_again 37 = .ok (.iload_n 2, 1) := by decide +kernel
theorem dX7_again_38 : decode cX7_again 38 = .ok (.bipush 64, 2) := by decide +kernel
theorem dX7_again_40 : decode cX7_again 40 = .ok (.if_icmp .ge 21, 3) := by decide +kernel
theorem dX7_again_43 : decode cX7_again 43 = .ok (.aload_n 0, 1) := by decide +kernel
theorem dX7_again_44 : decode cX7_again 44 = .ok (.getfield 26, 3) := by decide +kernel
theorem dX7_again_47 : decode cX7_again 47 = .ok (.iload_n 2, 1) := by decide +kernel
theorem dX7_again_48 : decode cX7_again 48 = .ok (.aload_n 1, 1) := by decide +kernel
theorem dX7_again_49 : decode cX7_again 49 = .ok (.bipush 16, 2) := by decide +kernel
theorem dX7_again_51 : decode cX7_again 51 = .ok (.iload_n 2, 1) := by decide +kernel
theorem dX7_again_52 : decode cX7_again 52 = .ok (.iadd, 1) := by decide +kernel
theorem dX7_again_53 : decode cX7_again 53 = .ok (.iaload, 1) := by decide +kernel
theorem dX7_again_54 : decode cX7_again 54 = .ok (.iastore, 1) := by decide +kernel
theorem dX7_again_55 : decode cX7_again 55 = .ok (.iinc 2 1, 3) := by decide +kernel
theorem dX7_again_58 : decode cX7_again 58 = .ok (.goto (-21), 3) := by decide +kernel
theorem dX7_again_61 : decode cX7_again 61 = .ok (.iconst 0, 1) := by decide +kernel
theorem dX7_again_62 : decode cX7_again 62 = .ok (.istore_n 2, 1) := by decide +kernel
theorem dX7_again_63 : decode cX7_again 63 = .ok (.iload_n 2, 1) := by decide +kernel
theorem dX7_again_64 : decode cX7_again 64 = .ok (.bipush 10, 2) := by decide +kernel
theorem dX7_again_66 : decode cX7_again 66 = .ok (.if_icmp .ge 69, 3) := by decide +kernel
theorem dX7_again_69 : decode cX7_again 69 = .ok (.aload_n 0, 1) := by decide +kernel
theorem dX7_again_70 : decode cX7_again 70 = .ok (.getfield 29, 3) := by decide +kernel
theorem dX7_again_73 : decode cX7_again 73 = .ok (.iload_n 2, 1) := by decide +kernel
theorem dX7_again_74 : decode cX7_again 74 = .ok (.aload_n 1, 1) := by decide +kernel
theorem dX7_again_75 : decode cX7_again 75 = .ok (.bipush 80, 2) := by decide +kernel
theorem dX7_again_77 : decode cX7_again 77 = .ok (.iload_n 2, 1) := by decide +kernel
theorem dX7_again_78 : decode cX7_again 78 = .ok (.iadd, 1) := by decide +kernel
theorem dX7_again_79 : decode cX7_again 79 = .ok (.iaload, 1) := by decide +kernel
theorem dX7_again_80 : decode cX7_again 80 = .ok (.iastore, 1) := by decide +kernel
theorem dX7_again_81 : decode cX7_again 81 = .ok (.aload_n 0, 1) := by decide +kernel
theorem dX7_again_82 : decode cX7_again 82 = .ok (.getfield 32, 3) := by decide +kernel
theorem dX7_again_85 : decode cX7_again 85 = .ok (.iload_n 2, 1) := by decide +kernel
theorem dX7_again_86 : decode cX7_again 86 = .ok (.aload_n 1, 1) := by decide +kernel
theorem dX7_again_87 : decode cX7_again 87 = .ok (.bipush 90, 2) := by decide +kernel
theorem dX7_again_89 : decode cX7_again 89 = .ok (.iload_n 2, 1) := by decide +kernel
theorem dX7_again_90 : decode cX7_again 90 = .ok (.iadd, 1) := by decide +kernel
theorem dX7_again_91 : decode cX7_again 91 = .ok (.iaload, 1) := by decide +kernel
theorem dX7_again_92 : decode cX7_again 92 = .ok (.iastore, 1) := by decide +kernel
theorem dX7_again_93 : decode cX7_again 93 = .ok (.aload_n 0, 1) := by decide +kernel
theorem dX7_again_94 : decode cX7_again 94 = .ok (.getfield 35, 3) := by decide +kernel
theorem dX7_again_97 : decode cX7_again 97 = .ok (.iload_n 2, 1) := by decide +kernel
theorem dX7_again_98 : decode cX7_again 98 = .ok (.aload_n 1, 1) := by decide +kernel
theorem dX7_again_99 : decode cX7_again 99 = .ok (.bipush 100, 2) := by decide +kernel
theorem dX7_again_101 : decode cX7_again 101 = .ok (.iload_n 2, 1) := by decide +kernel
theorem dX7_again_102 : decode cX7_again 102 = .ok (.iadd, 1) := by decide +kernel
theorem dX7_again_103 : decode cX7_again 103 = .ok (.iaload, 1) := by decide +kernel
theorem dX7_again_104 : decode cX7_again 104 = .ok (.iastore, 1) := by decide +kernel
theorem dX7_again_105 : decode cX7_again 105 = .ok (.aload_n 0, 1) := by decide +kernel
theorem dX7_again_106 : decode cX7_again 106 = .ok (.getfield 38, 3) := by decide +kernel
theorem dX7_again_109 : decode cX7_again 109 = .ok (.iload_n 2, 1) := by decide +kernel
theorem dX7_again_110 : decode cX7_again 110 = .ok (.aload_n 1, 1) := by decide +kernel
theorem dX7_again_111 : decode cX7_again 111 = .ok (.bipush 110, 2) := by decide +kernel
theorem dX7_again_113 : decode cX7_again 113 = .ok (.iload_n 2, 1) := by decide +kernel
theorem dX7_again_114 : decode cX7_again 114 = .ok (.iadd, 1) := by decide +kernel
theorem dX7_again_115 : decode cX7_again 115 = .ok (.iaload, 1) := by decide +kernel
theorem dX7_again_116 : decode cX7_again 116 = .ok (.iastore, 1) := by decide +kernel
theorem dX7_again_117 : decode cX7_again 117 = .ok (.aload_n 0, 1) := by decide +kernel
theorem dX7_again_118 : decode cX7_again 118 = .ok (.getfield 41, 3) := by decide +kernel
theorem dX7_again_121 : decode cX7_again 121 = .ok (.iload_n 2, 1) := by decide +kernel
theorem dX7_again_122 : decode cX7_again 122 = .ok (.aload_n 1, 1) := by decide +kernel
theorem dX7_again_123 : decode cX7_again 123 = .ok (.bipush 120, 2) := by decide +kernel
theorem dX7_again_125 : decode cX7_again 125 = .ok (.iload_n 2, 1) := by decide +kernel
theorem dX7_again_126 : decode cX7_again 126 = .ok (.iadd, 1) := by decide +kernel
theorem dX7_again_127 : decode cX7_again 127 = .ok (.iaload, 1) := by decide +kernel
theorem dX7_again_128 : decode cX7_again 128 = .ok (.iastore, 1) := by decide +kernel
theorem dX7_again_129 : decode cX7_again 129 = .ok (.iinc 2 1, 3) := by decide +kernel
theorem dX7_again_132 : decode cX7_again 132 = .ok (.goto (-69), 3) := by decide +kernel
theorem dX7_again_135 : decode cX7_again 135 = .ok (.aload_n 0, 1) := by decide +kernel
theorem dX7_again_136 : decode cX7_again 136 = .ok (.aload_n 1, 1) := by decide +kernel
theorem dX7_again_137 : decode cX7_again 137 = .ok (.sipush 130, 3) := by decide +kernel
theorem dX7_again_140 : decode cX7_again 140 = .ok (.iaload, 1) := by decide +kernel
theorem dX7_again_141 : decode cX7_again 141 = .ok (.putfield 85, 3) := by decide +kernel
theorem dX7_again_144 : decode cX7_again 144 = .ok (.aload_n 0, 1) := by decide +kernel
theorem dX7_again_145 : decode cX7_again 145 = .ok (.aload_n 1, 1) := by decide +kernel
theorem dX7_again_146 : decode cX7_again 146 = .ok (.sipush 131, 3) := by decide +kernel
theorem dX7_again_149 : decode cX7_again 149 = .ok (.iaload, 1) := by decide +kernel
theorem dX7_again_150 : decode cX7_again 150 = .ok (.putfield 92, 3) := by decide +kernel
theorem dX7_again_153 : decode cX7_again 153 = .ok (.aload_n 0, 1) := by decide +kernel
theorem dX7_again_154 : decode cX7_again 154 = .ok (.aload_n 1, 1) := by decide +kernel
theorem dX7_again_155 : decode cX7_again 155 = .ok (.sipush 132, 3) := by decide +kernel
theorem dX7_again_158 : decode cX7_again 158 = .ok (.iaload, 1) := by decide +kernel
theorem dX7_again_159 : decode cX7_again 159 = .ok (.putfield 71, 3) := by decide +kernel
theorem dX7_again_162 : decode cX7_again 162 = .ok (.aload_n 0, 1) := by decide +kernel
theorem dX7_again_163 : decode cX7_again 163 = .ok (.aload_n 1, 1) := by decide +kernel
theorem dX7_again_164 : decode cX7_again 164 = .ok (.sipush 133, 3) := by decide +kernel
theorem dX7_again_167 : decode cX7_again 167 = .ok (.iaload, 1) := by decide +kernel
theorem dX7_again_168 : decode cX7_again 168 = .ok (.putfield 139, 3) := by decide +kernel
theorem dX7_again_171 : decode cX7_again 171 = .ok (.aload_n 0, 1) := by decide +kernel
theorem dX7_again_172 : decode cX7_again 172 = .ok (.aload_n 1, 1) := by decide +kernel
theorem dX7_again_173 : decode cX7_again 173 = .ok (.sipush 134, 3) := by decide +kernel
theorem dX7_again_176 : decode cX7_again 176 = .ok (.iaload, 1) := by decide +kernel
theorem dX7_again_177 : decode cX7_again 177 = .ok (.putfield 297, 3) := by decide +kernel
theorem dX7_again_180 : decode cX7_again 180 = .ok (.aload_n 0, 1) := by decide +kernel
theorem dX7_again_181 : decode cX7_again 181 = .ok (.aload_n 1, 1) := by decide +kernel
theorem dX7_again_182 : decode cX7_again 182 = .ok (.sipush 135, 3) := by decide +kernel
theorem dX7_again_185 : decode cX7_again 185 = .ok (.iaload, 1) := by decide +kernel
theorem dX7_again_186 : decode cX7_again 186 = .ok (.putfield 291, 3) := by decide +kernel
theorem dX7_again_189 : decode cX7_again 189 = .ok (.aload_n 0, 1) := by decide +kernel
theorem dX7_again_190 : decode cX7_again 190 = .ok (.aload_n 1, 1) := by decide +kernel
theorem dX7_again_191 : decode cX7_again 191 = .ok (.sipush 136, 3) := by decide +kernel
theorem dX7_again_194 : decode cX7_again 194 = .ok (.iaload, 1) := by decide +kernel
theorem dX7_again_195 : decode cX7_again 195 = .ok (.putfield 75, 3) := by decide +kernel
theorem dX7_again_198 : decode cX7_again 198 = .ok (.return_, 1) := by decide +kernel
theorem dX7_image_0 : decode cX7_image 0 = .ok (.aload_n 0, 1) := by decide +kernel
theorem dX7_image_1 : decode cX7_image 1 = .ok (.iconst 1, 1) := by decide +kernel
theorem dX7_image_2 : decode cX7_image 2 = .ok (.putfield 316, 3) := by decide +kernel
theorem dX7_image_5 : decode cX7_image 5 = .ok (.aload_n 0, 1) := by decide +kernel
theorem dX7_image_6 : decode cX7_image 6 = .ok (.aload_n 0, 1) := by decide +kernel
theorem dX7_image_7 : decode cX7_image 7 = .ok (.getfield 50, 3) := by decide +kernel
theorem dX7_image_10 : decode cX7_image 10 = .ok (.invokevirtual 192, 3) := by decide +kernel
theorem dX7_image_13 : decode cX7_image 13 = .ok (.aload_n 0, 1) := by decide +kernel
theorem dX7_image_14 : decode cX7_image 14 = .ok (.getfield 85, 3) := by decide +kernel
theorem dX7_image_17 : decode cX7_image 17 = .ok (.ireturn, 1) := by decide +kernel
theorem dX7_restore_0 : decode cX7_restore 0 = .ok (.aload_n 0, 1) := by decide +kernel
theorem dX7_restore_1 : decode cX7_restore 1 = .ok (.getfield 316, 3) := by decide +kernel
theorem dX7_restore_4 : decode cX7_restore 4 = .ok (.ifCond .ne 10, 3) := by decide +kernel
theorem dX7_restore_7 : decode cX7_restore 7 = .ok (.aload_n 0, 1) := by decide +kernel
theorem dX7_restore_8 : decode cX7_restore 8 = .ok (.bipush (-6), 2) := by decide +kernel
theorem dX7_restore_10 : decode cX7_restore 10 = .ok (.invokevirtual 81, 3) := by decide +kernel
theorem dX7_restore_13 : decode cX7_restore 13 = .ok (.ireturn, 1) := by decide +kernel
theorem dX7_restore_14 : decode cX7_restore 14 = .ok (.aload_n 0, 1) := by decide +kernel
theorem dX7_restore_15 : decode cX7_restore 15 = .ok (.aload_n 0, 1) := by decide +kernel
theorem dX7_restore_16 : decode cX7_restore 16 = .ok (.getfield 50, 3) := by decide +kernel
theorem dX7_restore_19 : decode cX7_restore 19 = .ok (.invokevirtual 199, 3) := by decide +kernel
theorem dX7_restore_22 : decode cX7_restore 22 = .ok (.iconst 0, 1) := by decide +kernel
theorem dX7_restore_23 : decode cX7_restore 23 = .ok (.istore_n 1, 1) := by decide +kernel
theorem dX7_restore_24 : decode cX7_restore 24 = .ok (.iload_n 1, 1) := by decide +kernel
theorem dX7_restore_25 : decode cX7_restore 25 = .ok (.bipush 8, 2) := by decide +kernel
theorem dX7_restore_27 : decode cX7_restore 27 = .ok (.if_icmp .ge 37, 3) := by decide +kernel
theorem dX7_restore_30 : decode cX7_restore 30 = .ok (.aload_n 0, 1) := by decide +kernel
theorem dX7_restore_31 : decode cX7_restore 31 = .ok (.iload_n 1, 1) := by decide +kernel
theorem dX7_restore_32 : decode cX7_restore 32 = .ok (.invokevirtual 95, 3) := by decide +kernel
theorem dX7_restore_35 : decode cX7_restore 35 = .ok (.ifCond .ne 23, 3) := by decide +kernel
theorem dX7_restore_38 : decode cX7_restore 38 = .ok (.aload_n 0, 1) := by decide +kernel
theorem dX7_restore_39 : decode cX7_restore 39 = .ok (.getfield 7, 3) := by decide +kernel
theorem dX7_restore_42 : decode cX7_restore 42 = .ok (.iload_n 1, 1) := by decide +kernel
theorem dX7_restore_43 : decode cX7_restore 43 = .ok (.iaload, 1) := by decide +kernel
theorem dX7_restore_44 : decode cX7_restore 44 = .ok (.aload_n 0, 1) := by decide +kernel
theorem dX7_restore_45 : decode cX7_restore 45 = .ok (.getfield 85, 3) := by decide +kernel
theorem dX7_restore_48 : decode cX7_restore 48 = .ok (.if_icmp .lt 10, 3) := by decide +kernel
theorem dX7_restore_51 : decode cX7_restore 51 = .ok (.aload_n 0, 1) := by decide +kernel
theorem dX7_restore_52 : decode cX7_restore 52 = .ok (.getfield 7, 3) := by decide +kernel
theorem dX7_restore_55 : decode cX7_restore 55 = .ok (.iload_n 1, 1) := by decide +kernel
theorem dX7_restore_56 : decode cX7_restore 56 = .ok (.iconst (-1), 1) := by decide +kernel
theorem dX7_restore_57 : decode cX7_restore 57 = .ok (.iastore, 1) := by decide +kernel
theorem dX7_restore_58 : decode cX7_restore 58 = .ok (.iinc 1 1, 3) := by decide +kernel
theorem dX7_restore_61 : decode cX7_restore 61 = .ok (.goto (-37), 3) := by decide +kernel
theorem dX7_restore_64 : decode cX7_restore 64 = .ok (.aload_n 0, 1) := by decide +kernel
theorem dX7_restore_65 : decode cX7_restore 65 = .ok (.getfield 85, 3) := by decide +kernel
theorem dX7_restore_68 : decode cX7_restore 68 = .ok (.ireturn, 1) := by decide +kernel
theorem dX7_status_0 : decode cX7_status 0 = .ok (.iload_n 1, 1) := by decide +kernel
theorem dX7_status_1 : decode cX7_status 1 = .ok (.tableswitch 96 0 8 #[51, 56, 61, 66, 71, 76, 81, 86, 91], 51) := by decide +kernel
theorem dX7_status_52 : decode cX7_status 52 = .ok (.aload_n 0, 1) := by decide +kernel
theorem dX7_status_53 : decode cX7_status 53 = .ok (.getfield 85, 3) := by decide +kernel
theorem dX7_status_56 : decode cX7_status 56 = .ok (.ireturn, 1) := by decide +kernel
theorem dX7_status_57 : decode cX7_status 57 = .ok (.aload_n 0, 1) := by decide +kernel
theorem dX7_status_58 : decode cX7_status 58 = .ok (.getfield 92, 3) := by decide +kernel
theorem dX7_status_61 : decode cX7_status 61 = .ok (.ireturn, 1) := by decide +kernel
theorem dX7_status_62 : decode cX7_status 62 = .ok (.aload_n 0, 1) := by decide +kernel
theorem dX7_status_63 : decode cX7_status 63 = .ok (.invokevirtual 211, 3) := by decide +kernel
theorem dX7_status_66 : decode cX7_status 66 = .ok (.ireturn, 1) := by decide +kernel
theorem dX7_status_67 : decode cX7_status 67 = .ok (.aload_n 0, 1) := by decide +kernel
theorem dX7_status_68 : decode cX7_status 68 = .ok (.getfield 71, 3) := by decide +kernel
theorem dX7_status_71 : decode cX7_status 71 = .ok (.ireturn, 1) := by decide +kernel
theorem dX7_status_72 : decode cX7_status 72 = .ok (.aload_n 0, 1) := by decide +kernel
theorem dX7_status_73 : decode cX7_status 73 = .ok (.getfield 139, 3) := by decide +kernel
theorem dX7_status_76 : decode cX7_status 76 = .ok (.ireturn, 1) := by decide +kernel
theorem dX7_status_77 : decode cX7_status 77 = .ok (.aload_n 0, 1) := by decide +kernel
theorem dX7_status_78 : decode cX7_status 78 = .ok (.getfield 297, 3) := by decide +kernel
theorem dX7_status_81 : decode cX7_status 81 = .ok (.ireturn, 1) := by decide +kernel
theorem dX7_status_82 : decode cX7_status 82 = .ok (.aload_n 0, 1) := by decide +kernel
theorem dX7_status_83 : decode cX7_status 83 = .ok (.getfield 291, 3) := by decide +kernel
theorem dX7_status_86 : decode cX7_status 86 = .ok (.ireturn, 1) := by decide +kernel
theorem dX7_status_87 : decode cX7_status 87 = .ok (.aload_n 0, 1) := by decide +kernel
theorem dX7_status_88 : decode cX7_status 88 = .ok (.getfield 75, 3) := by decide +kernel
theorem dX7_status_91 : decode cX7_status 91 = .ok (.ireturn, 1) := by decide +kernel
theorem dX7_status_92 : decode cX7_status 92 = .ok (.aload_n 0, 1) := by decide +kernel
theorem dX7_status_93 : decode cX7_status 93 = .ok (.getfield 300, 3) := by decide +kernel
theorem dX7_status_96 : decode cX7_status 96 = .ok (.ireturn, 1) := by decide +kernel
theorem dX7_status_97 : decode cX7_status 97 = .ok (.iload_n 1, 1) := by decide +kernel
theorem dX7_status_98 : decode cX7_status 98 = .ok (.bipush 11, 2) := by decide +kernel
theorem dX7_status_100 : decode cX7_status 100 = .ok (.bipush 17, 2) := by decide +kernel
theorem dX7_status_102 : decode cX7_status 102 = .ok (.invokestatic 88, 3) := by decide +kernel
theorem dX7_status_105 : decode cX7_status 105 = .ok (.ifCond .eq 15, 3) := by decide +kernel
theorem dX7_status_108 : decode cX7_status 108 = .ok (.aload_n 0, 1) := by decide +kernel
theorem dX7_status_109 : decode cX7_status 109 = .ok (.getfield 44, 3) := by decide +kernel
theorem dX7_status_112 : decode cX7_status 112 = .ok (.iload_n 1, 1) := by decide +kernel
theorem dX7_status_113 : decode cX7_status 113 = .ok (.bipush 10, 2) := by decide +kernel
theorem dX7_status_115 : decode cX7_status 115 = .ok (.isub, 1) := by decide +kernel
theorem dX7_status_116 : decode cX7_status 116 = .ok (.iaload, 1) := by decide +kernel
theorem dX7_status_117 : decode cX7_status 117 = .ok (.goto 4, 3) := by decide +kernel
theorem dX7_status_120 : decode cX7_status 120 = .ok (.iconst (-1), 1) := by decide +kernel
theorem dX7_status_121 : decode cX7_status 121 = .ok (.ireturn, 1) := by decide +kernel
theorem dJ6_bitCount_0f7a4_0 : decode cJ6_bitCount_0f7a4 0 = .ok (.iload_n 0, 1) := by decide +kernel
theorem dJ6_bitCount_0f7a4_1 : decode cJ6_bitCount_0f7a4 1 = .ok (.iload_n 0, 1) := by decide +kernel
theorem dJ6_bitCount_0f7a4_2 : decode cJ6_bitCount_0f7a4 2 = .ok (.iconst 1, 1) := by decide +kernel
theorem dJ6_bitCount_0f7a4_3 : decode cJ6_bitCount_0f7a4 3 = .ok (.iushr, 1) := by decide +kernel
theorem dJ6_bitCount_0f7a4_4 : decode cJ6_bitCount_0f7a4 4 = .ok (.ldc_w 265, 3) := by decide +kernel
theorem dJ6_bitCount_0f7a4_7 : decode cJ6_bitCount_0f7a4 7 = .ok (.iand, 1) := by decide +kernel
theorem dJ6_bitCount_0f7a4_8 : decode cJ6_bitCount_0f7a4 8 = .ok (.isub, 1) := by decide +kernel
theorem dJ6_bitCount_0f7a4_9 : decode cJ6_bitCount_0f7a4 9 = .ok (.istore_n 0, 1) := by decide +kernel
theorem dJ6_bitCount_0f7a4_10 : decode cJ6_bitCount_0f7a4 10 = .ok (.iload_n 0, 1) := by decide +kernel
theorem dJ6_bitCount_0f7a4_11 : decode cJ6_bitCount_0f7a4 11 = .ok (.ldc_w 266, 3) := by decide +kernel
theorem dJ6_bitCount_0f7a4_14 : decode cJ6_bitCount_0f7a4 14 = .ok (.iand, 1) := by decide +kernel
theorem dJ6_bitCount_0f7a4_15 : decode cJ6_bitCount_0f7a4 15 = .ok (.iload_n 0, 1) := by decide +kernel
theorem dJ6_bitCount_0f7a4_16 : decode cJ6_bitCount_0f7a4 16 = .ok (.iconst 2, 1) := by decide +kernel
theorem dJ6_bitCount_0f7a4_17 : decode cJ6_bitCount_0f7a4 17 = .ok (.iushr, 1) := by decide +kernel
theorem dJ6_bitCount_0f7a4_18 : decode cJ6_bitCount_0f7a4 18 = .ok (.ldc_w 266, 3) := by decide +kernel
theorem dJ6_bitCount_0f7a4_21 : decode cJ6_bitCount_0f7a4 21 = .ok (.iand, 1) := by decide +kernel
theorem dJ6_bitCount_0f7a4_22 : decode cJ6_bitCount_0f7a4 22 = .ok (.iadd, 1) := by decide +kernel
theorem dJ6_bitCount_0f7a4_23 : decode cJ6_bitCount_0f7a4 23 = .ok (.istore_n 0, 1) := by decide +kernel
theorem dJ6_bitCount_0f7a4_24 : decode cJ6_bitCount_0f7a4 24 = .ok (.iload_n 0, 1) := by decide +kernel
theorem dJ6_bitCount_0f7a4_25 : decode cJ6_bitCount_0f7a4 25 = .ok (.iload_n 0, 1) := by decide +kernel
theorem dJ6_bitCount_0f7a4_26 : decode cJ6_bitCount_0f7a4 26 = .ok (.iconst 4, 1) := by decide +kernel
theorem dJ6_bitCount_0f7a4_27 : decode cJ6_bitCount_0f7a4 27 = .ok (.iushr, 1) := by decide +kernel
theorem dJ6_bitCount_0f7a4_28 : decode cJ6_bitCount_0f7a4 28 = .ok (.iadd, 1) := by decide +kernel
theorem dJ6_bitCount_0f7a4_29 : decode cJ6_bitCount_0f7a4 29 = .ok (.ldc_w 267, 3) := by decide +kernel
theorem dJ6_bitCount_0f7a4_32 : decode cJ6_bitCount_0f7a4 32 = .ok (.iand, 1) := by decide +kernel
theorem dJ6_bitCount_0f7a4_33 : decode cJ6_bitCount_0f7a4 33 = .ok (.istore_n 0, 1) := by decide +kernel
theorem dJ6_bitCount_0f7a4_34 : decode cJ6_bitCount_0f7a4 34 = .ok (.iload_n 0, 1) := by decide +kernel
theorem dJ6_bitCount_0f7a4_35 : decode cJ6_bitCount_0f7a4 35 = .ok (.iload_n 0, 1) := by decide +kernel
theorem dJ6_bitCount_0f7a4_36 : decode cJ6_bitCount_0f7a4 36 = .ok (.bipush 8, 2) := by decide +kernel
theorem dJ6_bitCount_0f7a4_38 : decode cJ6_bitCount_0f7a4 38 = .ok (.iushr, 1) := by decide +kernel
theorem dJ6_bitCount_0f7a4_39 : decode cJ6_bitCount_0f7a4 39 = .ok (.iadd, 1) := by decide +kernel
theorem dJ6_bitCount_0f7a4_40 : decode cJ6_bitCount_0f7a4 40 = .ok (.istore_n 0, 1) := by decide +kernel
theorem dJ6_bitCount_0f7a4_41 : decode cJ6_bitCount_0f7a4 41 = .ok (.iload_n 0, 1) := by decide +kernel
theorem dJ6_bitCount_0f7a4_42 : decode cJ6_bitCount_0f7a4 42 = .ok (.iload_n 0, 1) := by decide +kernel
theorem dJ6_bitCount_0f7a4_43 : decode cJ6_bitCount_0f7a4 43 = .ok (.bipush 16, 2) := by decide +kernel
theorem dJ6_bitCount_0f7a4_45 : decode cJ6_bitCount_0f7a4 45 = .ok (.iushr, 1) := by decide +kernel
theorem dJ6_bitCount_0f7a4_46 : decode cJ6_bitCount_0f7a4 46 = .ok (.iadd, 1) := by decide +kernel
theorem dJ6_bitCount_0f7a4_47 : decode cJ6_bitCount_0f7a4 47 = .ok (.istore_n 0, 1) := by decide +kernel
theorem dJ6_bitCount_0f7a4_48 : decode cJ6_bitCount_0f7a4 48 = .ok (.iload_n 0, 1) := by decide +kernel
theorem dJ6_bitCount_0f7a4_49 : decode cJ6_bitCount_0f7a4 49 = .ok (.bipush 63, 2) := by decide +kernel
theorem dJ6_bitCount_0f7a4_51 : decode cJ6_bitCount_0f7a4 51 = .ok (.iand, 1) := by decide +kernel
theorem dJ6_bitCount_0f7a4_52 : decode cJ6_bitCount_0f7a4 52 = .ok (.ireturn, 1) := by decide +kernel
theorem dJ9_abs_0f7a4_0 : decode cJ9_abs_0f7a4 0 = .ok (.iload_n 0, 1) := by decide +kernel
theorem dJ9_abs_0f7a4_1 : decode cJ9_abs_0f7a4 1 = .ok (.ifCond .ge 8, 3) := by decide +kernel
theorem dJ9_abs_0f7a4_4 : decode cJ9_abs_0f7a4 4 = .ok (.iload_n 0, 1) := by decide +kernel
theorem dJ9_abs_0f7a4_5 : decode cJ9_abs_0f7a4 5 = .ok (.ineg, 1) := by decide +kernel
theorem dJ9_abs_0f7a4_6 : decode cJ9_abs_0f7a4 6 = .ok (.goto 4, 3) := by decide +kernel
theorem dJ9_abs_0f7a4_9 : decode cJ9_abs_0f7a4 9 = .ok (.iload_n 0, 1) := by decide +kernel
theorem dJ9_abs_0f7a4_10 : decode cJ9_abs_0f7a4 10 = .ok (.ireturn, 1) := by decide +kernel
theorem dJ9_max_7cf53_0 : decode cJ9_max_7cf53 0 = .ok (.iload_n 0, 1) := by decide +kernel
theorem dJ9_max_7cf53_1 : decode cJ9_max_7cf53 1 = .ok (.iload_n 1, 1) := by decide +kernel
theorem dJ9_max_7cf53_2 : decode cJ9_max_7cf53 2 = .ok (.if_icmp .lt 7, 3) := by decide +kernel
theorem dJ9_max_7cf53_5 : decode cJ9_max_7cf53 5 = .ok (.iload_n 0, 1) := by decide +kernel
theorem dJ9_max_7cf53_6 : decode cJ9_max_7cf53 6 = .ok (.goto 4, 3) := by decide +kernel
theorem dJ9_max_7cf53_9 : decode cJ9_max_7cf53 9 = .ok (.iload_n 1, 1) := by decide +kernel
theorem dJ9_max_7cf53_10 : decode cJ9_max_7cf53 10 = .ok (.ireturn, 1) := by decide +kernel
theorem dJ9_min_7cf53_0 : decode cJ9_min_7cf53 0 = .ok (.iload_n 0, 1) := by decide +kernel
theorem dJ9_min_7cf53_1 : decode cJ9_min_7cf53 1 = .ok (.iload_n 1, 1) := by decide +kernel
theorem dJ9_min_7cf53_2 : decode cJ9_min_7cf53 2 = .ok (.if_icmp .gt 7, 3) := by decide +kernel
theorem dJ9_min_7cf53_5 : decode cJ9_min_7cf53 5 = .ok (.iload_n 0, 1) := by decide +kernel
theorem dJ9_min_7cf53_6 : decode cJ9_min_7cf53 6 = .ok (.goto 4, 3) := by decide +kernel
theorem dJ9_min_7cf53_9 : decode cJ9_min_7cf53 9 = .ok (.iload_n 1, 1) := by decide +kernel
theorem dJ9_min_7cf53_10 : decode cJ9_min_7cf53 10 = .ok (.ireturn, 1) := by decide +kernel
theorem dJ0_length_8abf5_0 : decode cJ0_length_8abf5 0 = .ok (.aload_n 0, 1) := by decide +kernel
theorem dJ0_length_8abf5_1 : decode cJ0_length_8abf5 1 = .ok (.getfield 9, 3) := by decide +kernel
theorem dJ0_length_8abf5_4 : decode cJ0_length_8abf5 4 = .ok (.arraylength, 1) := by decide +kernel
theorem dJ0_length_8abf5_5 : decode cJ0_length_8abf5 5 = .ok (.aload_n 0, 1) := by decide +kernel
theorem dJ0_length_8abf5_6 : decode cJ0_length_8abf5 6 = .ok (.invokevirtual 335, 3) := by decide +kernel
theorem dJ0_length_8abf5_9 : decode cJ0_length_8abf5 9 = .ok (.ishr, 1) := by decide +kernel
theorem dJ0_length_8abf5_10 : decode cJ0_length_8abf5 10 = .ok (.ireturn, 1) := by decide +kernel
theorem dJ0_charAt_5068e_0 : decode cJ0_charAt_5068e 0 = .ok (.aload_n 0, 1) := by decide +kernel
theorem dJ0_charAt_5068e_1 : decode cJ0_charAt_5068e 1 = .ok (.invokevirtual 492, 3) := by decide +kernel
theorem dJ0_charAt_5068e_4 : decode cJ0_charAt_5068e 4 = .ok (.ifCond .eq 12, 3) := by decide +kernel
theorem dJ0_charAt_5068e_7 : decode cJ0_charAt_5068e 7 = .ok (.aload_n 0, 1) := by decide +kernel
theorem dJ0_charAt_5068e_8 : decode cJ0_charAt_5068e 8 = .ok (.getfield 9, 3) := by decide +kernel
theorem dJ0_charAt_5068e_11 : decode cJ0_charAt_5068e 11 = .ok (.iload_n 1, 1) := by decide +kernel
theorem dJ0_charAt_5068e_12 : decode cJ0_charAt_5068e 12 = .ok (.invokestatic 495, 3) := by decide +kernel
theorem dJ0_charAt_5068e_15 : decode cJ0_charAt_5068e 15 = .ok (.ireturn, 1) := by decide +kernel
theorem dJ0_charAt_5068e_16 : decode cJ0_charAt_5068e 16 = .ok (.aload_n 0, 1) := by decide +kernel
theorem dJ0_charAt_5068e_17 : decode cJ0_charAt_5068e 17 = .ok (.getfield 9, 3) := by decide +kernel
theorem dJ0_charAt_5068e_20 : decode cJ0_charAt_5068e 20 = .ok (.iload_n 1, 1) := by decide +kernel
theorem dJ0_charAt_5068e_21 : decode cJ0_charAt_5068e 21 = .ok (.invokestatic 498, 3) := by decide +kernel
theorem dJ0_charAt_5068e_24 : decode cJ0_charAt_5068e 24 = .ok (.ireturn, 1) := by decide +kernel
theorem dJ0_coder_7d493_0 : decode cJ0_coder_7d493 0 = .ok (.getstatic 38, 3) := by decide +kernel
theorem dJ0_coder_7d493_3 : decode cJ0_coder_7d493 3 = .ok (.ifCond .eq 10, 3) := by decide +kernel
theorem dJ0_coder_7d493_6 : decode cJ0_coder_7d493 6 = .ok (.aload_n 0, 1) := by decide +kernel
theorem dJ0_coder_7d493_7 : decode cJ0_coder_7d493 7 = .ok (.getfield 15, 3) := by decide +kernel
theorem dJ0_coder_7d493_10 : decode cJ0_coder_7d493 10 = .ok (.goto 4, 3) := by decide +kernel
theorem dJ0_coder_7d493_13 : decode cJ0_coder_7d493 13 = .ok (.iconst 1, 1) := by decide +kernel
theorem dJ0_coder_7d493_14 : decode cJ0_coder_7d493 14 = .ok (.ireturn, 1) := by decide +kernel
theorem dJ0_isLatin1_aae02_0 : decode cJ0_isLatin1_aae02 0 = .ok (.getstatic 38, 3) := by decide +kernel
theorem dJ0_isLatin1_aae02_3 : decode cJ0_isLatin1_aae02 3 = .ok (.ifCond .eq 14, 3) := by decide +kernel
theorem dJ0_isLatin1_aae02_6 : decode cJ0_isLatin1_aae02 6 = .ok (.aload_n 0, 1) := by decide +kernel
theorem dJ0_isLatin1_aae02_7 : decode cJ0_isLatin1_aae02 7 = .ok (.getfield 15, 3) := by decide +kernel
theorem dJ0_isLatin1_aae02_10 : decode cJ0_isLatin1_aae02 10 = .ok (.ifCond .ne 7, 3) := by decide +kernel
theorem dJ0_isLatin1_aae02_13 : decode cJ0_isLatin1_aae02 13 = .ok (.iconst 1, 1) := by decide +kernel
theorem dJ0_isLatin1_aae02_14 : decode cJ0_isLatin1_aae02 14 = .ok (.goto 4, 3) := by decide +kernel
theorem dJ0_isLatin1_aae02_17 : decode cJ0_isLatin1_aae02 17 = .ok (.iconst 0, 1) := by decide +kernel
theorem dJ0_isLatin1_aae02_18 : decode cJ0_isLatin1_aae02 18 = .ok (.ireturn, 1) := by decide +kernel
theorem dJ0_checkIndex_df160_0 : decode cJ0_checkIndex_df160 0 = .ok (.iload_n 0, 1) := by decide +kernel
theorem dJ0_checkIndex_df160_1 : decode cJ0_checkIndex_df160 1 = .ok (.iload_n 1, 1) := by decide +kernel
theorem dJ0_checkIndex_df160_2 : decode cJ0_checkIndex_df160 2 = .ok (.getstatic 1053, 3) := by decide +kernel
theorem dJ0_checkIndex_df160_5 : decode cJ0_checkIndex_df160 5 = .ok (.invokestatic 1059, 3) := by decide +kernel
theorem dJ0_checkIndex_df160_8 : decode cJ0_checkIndex_df160 8 = .ok (.pop, 1) := by decide +kernel
theorem dJ0_checkIndex_df160_9 : decode cJ0_checkIndex_df160 9 = .ok (.return_, 1) := by decide +kernel
theorem dJ1_charAt_3b067_0 : decode cJ1_charAt_3b067 0 = .ok (.iload_n 1, 1) := by decide +kernel
theorem dJ1_charAt_3b067_1 : decode cJ1_charAt_3b067 1 = .ok (.aload_n 0, 1) := by decide +kernel
theorem dJ1_charAt_3b067_2 : decode cJ1_charAt_3b067 2 = .ok (.arraylength, 1) := by decide +kernel
theorem dJ1_charAt_3b067_3 : decode cJ1_charAt_3b067 3 = .ok (.invokestatic 9, 3) := by decide +kernel
theorem dJ1_charAt_3b067_6 : decode cJ1_charAt_3b067 6 = .ok (.aload_n 0, 1) := by decide +kernel
theorem dJ1_charAt_3b067_7 : decode cJ1_charAt_3b067 7 = .ok (.iload_n 1, 1) := by decide +kernel
theorem dJ1_charAt_3b067_8 : decode cJ1_charAt_3b067 8 = .ok (.baload, 1) := by decide +kernel
theorem dJ1_charAt_3b067_9 : decode cJ1_charAt_3b067 9 = .ok (.sipush 255, 3) := by decide +kernel
theorem dJ1_charAt_3b067_12 : decode cJ1_charAt_3b067 12 = .ok (.iand, 1) := by decide +kernel
theorem dJ1_charAt_3b067_13 : decode cJ1_charAt_3b067 13 = .ok (.i2c, 1) := by decide +kernel
theorem dJ1_charAt_3b067_14 : decode cJ1_charAt_3b067 14 = .ok (.ireturn, 1) := by decide +kernel
theorem dJ2_getChar_3b067_0 : decode cJ2_getChar_3b067 0 = .ok (.getstatic 44, 3) := by decide +kernel
theorem dJ2_getChar_3b067_3 : decode cJ2_getChar_3b067 3 = .ok (.ifCond .ne 25, 3) := by decide +kernel
theorem dJ2_getChar_3b067_6 : decode cJ2_getChar_3b067 6 = .ok (.iload_n 1, 1) := by decide +kernel
theorem dJ2_getChar_3b067_7 : decode cJ2_getChar_3b067 7 = .ok (.ifCond .lt 11, 3) := by decide +kernel
theorem dJ2_getChar_3b067_10 : decode cJ2_getChar_3b067 10 = .ok (.iload_n 1, 1) := by decide +kernel
theorem dJ2_getChar_3b067_11 : decode cJ2_getChar_3b067 11 = .ok (.aload_n 0, 1) := by decide +kernel
theorem dJ2_getChar_3b067_12 : decode cJ2_getChar_3b067 12 = .ok (.invokestatic 48, 3) := by decide +kernel
theorem dJ2_getChar_3b067_15 : decode cJ2_getChar_3b067 15 = .ok (.if_icmp .lt 13, 3) := by decide +kernel
theorem dJ2_getChar_3b067_18 : decode cJ2_getChar_3b067 18 = .ok (.new 52, 3) := by decide +kernel
theorem dJ2_getChar_3b067_21 : decode cJ2_getChar_3b067 21 = .ok (.dup, 1) := by decide +kernel
theorem dJ2_getChar_3b067_22 : decode cJ2_getChar_3b067 22 = .ok (.ldc 54, 2) := by decide +kernel
theorem dJ2_getChar_3b067_24 : decode cJ2_getChar_3b067 24 = .ok (.invokespecial 56, 3) := by decide +kernel
theorem dJ2_getChar_3b067_27 : decode cJ2_getChar_3b067 27 = .ok (.athrow, 1) := by decide +kernel
theorem dJ2_getChar_3b067_28 : decode cJ2_getChar_3b067 28 = .ok (.iload_n 1, 1) := by decide +kernel
theorem dJ2_getChar_3b067_29 : decode cJ2_getChar_3b067 29 = .ok (.iconst 1, 1) := by decide +kernel
theorem dJ2_getChar_3b067_30 : decode cJ2_getChar_3b067 30 = .ok (.ishl, 1) := by decide +kernel
theorem dJ2_getChar_3b067_31 : decode cJ2_getChar_3b067 31 = .ok (.istore_n 1, 1) := by decide +kernel
theorem dJ2_getChar_3b067_32 : decode cJ2_getChar_3b067 32 = .ok (.aload_n 0, 1) := by decide +kernel
theorem dJ2_getChar_3b067_33 : decode cJ2_getChar_3b067 33 = .ok (.iload_n 1, 1) := by decide +kernel
theorem dJ2_getChar_3b067_34 : decode cJ2_getChar_3b067 34 = .ok (.iinc 1 1, 3) := by decide +kernel
theorem dJ2_getChar_3b067_37 : decode cJ2_getChar_3b067 37 = .ok (.baload, 1) := by decide +kernel
theorem dJ2_getChar_3b067_38 : decode cJ2_getChar_3b067 38 = .ok (.sipush 255, 3) := by decide +kernel
theorem dJ2_getChar_3b067_41 : decode cJ2_getChar_3b067 41 = .ok (.iand, 1) := by decide +kernel
theorem dJ2_getChar_3b067_42 : decode cJ2_getChar_3b067 42 = .ok (.getstatic 59, 3) := by decide +kernel
theorem dJ2_getChar_3b067_45 : decode cJ2_getChar_3b067 45 = .ok (.ishl, 1) := by decide +kernel
theorem dJ2_getChar_3b067_46 : decode cJ2_getChar_3b067 46 = .ok (.aload_n 0, 1) := by decide +kernel
theorem dJ2_getChar_3b067_47 : decode cJ2_getChar_3b067 47 = .ok (.iload_n 1, 1) := by decide +kernel
theorem dJ2_getChar_3b067_48 : decode cJ2_getChar_3b067 48 = .ok (.baload, 1) := by decide +kernel
theorem dJ2_getChar_3b067_49 : decode cJ2_getChar_3b067 49 = .ok (.sipush 255, 3) := by decide +kernel
theorem dJ2_getChar_3b067_52 : decode cJ2_getChar_3b067 52 = .ok (.iand, 1) := by decide +kernel
theorem dJ2_getChar_3b067_53 : decode cJ2_getChar_3b067 53 = .ok (.getstatic 63, 3) := by decide +kernel
theorem dJ2_getChar_3b067_56 : decode cJ2_getChar_3b067 56 = .ok (.ishl, 1) := by decide +kernel
theorem dJ2_getChar_3b067_57 : decode cJ2_getChar_3b067 57 = .ok (.ior, 1) := by decide +kernel
theorem dJ2_getChar_3b067_58 : decode cJ2_getChar_3b067 58 = .ok (.i2c, 1) := by decide +kernel
theorem dJ2_getChar_3b067_59 : decode cJ2_getChar_3b067 59 = .ok (.ireturn, 1) := by decide +kernel
theorem dJ2_length_9d52b_0 : decode cJ2_length_9d52b 0 = .ok (.aload_n 0, 1) := by decide +kernel
theorem dJ2_length_9d52b_1 : decode cJ2_length_9d52b 1 = .ok (.arraylength, 1) := by decide +kernel
theorem dJ2_length_9d52b_2 : decode cJ2_length_9d52b 2 = .ok (.iconst 1, 1) := by decide +kernel
theorem dJ2_length_9d52b_3 : decode cJ2_length_9d52b 3 = .ok (.ishr, 1) := by decide +kernel
theorem dJ2_length_9d52b_4 : decode cJ2_length_9d52b 4 = .ok (.ireturn, 1) := by decide +kernel
theorem dJ2_charAt_3b067_0 : decode cJ2_charAt_3b067 0 = .ok (.iload_n 1, 1) := by decide +kernel
theorem dJ2_charAt_3b067_1 : decode cJ2_charAt_3b067 1 = .ok (.aload_n 0, 1) := by decide +kernel
theorem dJ2_charAt_3b067_2 : decode cJ2_charAt_3b067 2 = .ok (.invokestatic 67, 3) := by decide +kernel
theorem dJ2_charAt_3b067_5 : decode cJ2_charAt_3b067 5 = .ok (.aload_n 0, 1) := by decide +kernel
theorem dJ2_charAt_3b067_6 : decode cJ2_charAt_3b067 6 = .ok (.iload_n 1, 1) := by decide +kernel
theorem dJ2_charAt_3b067_7 : decode cJ2_charAt_3b067 7 = .ok (.invokestatic 71, 3) := by decide +kernel
theorem dJ2_charAt_3b067_10 : decode cJ2_charAt_3b067 10 = .ok (.ireturn, 1) := by decide +kernel
theorem dJ2_checkIndex_2214a_0 : decode cJ2_checkIndex_2214a 0 = .ok (.iload_n 0, 1) := by decide +kernel
theorem dJ2_checkIndex_2214a_1 : decode cJ2_checkIndex_2214a 1 = .ok (.aload_n 1, 1) := by decide +kernel
theorem dJ2_checkIndex_2214a_2 : decode cJ2_checkIndex_2214a 2 = .ok (.invokestatic 48, 3) := by decide +kernel
theorem dJ2_checkIndex_2214a_5 : decode cJ2_checkIndex_2214a 5 = .ok (.invokestatic 414, 3) := by decide +kernel
theorem dJ2_checkIndex_2214a_8 : decode cJ2_checkIndex_2214a 8 = .ok (.return_, 1) := by decide +kernel
theorem dJ3_checkIndex_8e157_0 : decode cJ3_checkIndex_8e157 0 = .ok (.iload_n 0, 1) := by decide +kernel
theorem dJ3_checkIndex_8e157_1 : decode cJ3_checkIndex_8e157 1 = .ok (.ifCond .lt 8, 3) := by decide +kernel
theorem dJ3_checkIndex_8e157_4 : decode cJ3_checkIndex_8e157 4 = .ok (.iload_n 0, 1) := by decide +kernel
theorem dJ3_checkIndex_8e157_5 : decode cJ3_checkIndex_8e157 5 = .ok (.iload_n 1, 1) := by decide +kernel
theorem dJ3_checkIndex_8e157_6 : decode cJ3_checkIndex_8e157 6 = .ok (.if_icmp .lt 10, 3) := by decide +kernel
theorem dJ3_checkIndex_8e157_9 : decode cJ3_checkIndex_8e157 9 = .ok (.aload_n 2, 1) := by decide +kernel
theorem dJ3_checkIndex_8e157_10 : decode cJ3_checkIndex_8e157 10 = .ok (.iload_n 0, 1) := by decide +kernel
theorem dJ3_checkIndex_8e157_11 : decode cJ3_checkIndex_8e157 11 = .ok (.iload_n 1, 1) := by decide +kernel
theorem dJ3_checkIndex_8e157_12 : decode cJ3_checkIndex_8e157 12 = .ok (.invokestatic 95, 3) := by decide +kernel
theorem dJ3_checkIndex_8e157_15 : decode cJ3_checkIndex_8e157 15 = .ok (.athrow, 1) := by decide +kernel
theorem dJ3_checkIndex_8e157_16 : decode cJ3_checkIndex_8e157 16 = .ok (.iload_n 0, 1) := by decide +kernel
theorem dJ3_checkIndex_8e157_17 : decode cJ3_checkIndex_8e157 17 = .ok (.ireturn, 1) := by decide +kernel
theorem dL_law_0 : decode cL_law 0 = .ok (.new 7, 3) := by decide +kernel
theorem dL_law_3 : decode cL_law 3 = .ok (.dup, 1) := by decide +kernel
theorem dL_law_4 : decode cL_law 4 = .ok (.invokespecial 9, 3) := by decide +kernel
theorem dL_law_7 : decode cL_law 7 = .ok (.astore_n 1, 1) := by decide +kernel
theorem dL_law_8 : decode cL_law 8 = .ok (.new 10, 3) := by decide +kernel
theorem dL_law_11 : decode cL_law 11 = .ok (.dup, 1) := by decide +kernel
theorem dL_law_12 : decode cL_law 12 = .ok (.invokespecial 12, 3) := by decide +kernel
theorem dL_law_15 : decode cL_law 15 = .ok (.astore_n 2, 1) := by decide +kernel
theorem dL_law_16 : decode cL_law 16 = .ok (.iconst 0, 1) := by decide +kernel
theorem dL_law_17 : decode cL_law 17 = .ok (.istore_n 3, 1) := by decide +kernel
theorem dL_law_18 : decode cL_law 18 = .ok (.iload_n 3, 1) := by decide +kernel
theorem dL_law_19 : decode cL_law 19 = .ok (.aload_n 0, 1) := by decide +kernel
theorem dL_law_20 : decode cL_law 20 = .ok (.arraylength, 1) := by decide +kernel
theorem dL_law_21 : decode cL_law 21 = .ok (.bipush 6, 2) := by decide +kernel
theorem dL_law_23 : decode cL_law 23 = .ok (.isub, 1) := by decide +kernel
theorem dL_law_24 : decode cL_law 24 = .ok (.if_icmp .gt 1525, 3) := by decide +kernel
theorem dL_law_27 : decode cL_law 27 = .ok (.aload_n 0, 1) := by decide +kernel
theorem dL_law_28 : decode cL_law 28 = .ok (.iload_n 3, 1) := by decide +kernel
theorem dL_law_29 : decode cL_law 29 = .ok (.iaload, 1) := by decide +kernel
theorem dL_law_30 : decode cL_law 30 = .ok (.bipush 63, 2) := by decide +kernel
theorem dL_law_32 : decode cL_law 32 = .ok (.iand, 1) := by decide +kernel
theorem dL_law_33 : decode cL_law 33 = .ok (.tableswitch 1510 0 41 #[183, 226, 299, 362, 396, 429, 452, 485, 518, 581, 614, 647, 690, 723, 746, 759, 802, 835, 878, 891, 924, 937, 970, 1003, 1026, 1059, 1072, 1105, 1138, 1161, 1184, 1197, 1230, 1263, 1306, 1349, 1372, 1395, 1438, 1461, 1474, 1487], 183) := by decide +kernel
theorem dL_law_216 : decode cL_law 216 = .ok (.aload_n 1, 1) := by decide +kernel
theorem dL_law_217 : decode cL_law 217 = .ok (.aload_n 0, 1) := by decide +kernel
theorem dL_law_218 : decode cL_law 218 = .ok (.iload_n 3, 1) := by decide +kernel
theorem dL_law_219 : decode cL_law 219 = .ok (.iconst 1, 1) := by decide +kernel
theorem dL_law_220 : decode cL_law 220 = .ok (.iadd, 1) := by decide +kernel
theorem dL_law_221 : decode cL_law 221 = .ok (.iaload, 1) := by decide +kernel
theorem dL_law_222 : decode cL_law 222 = .ok (.aload_n 0, 1) := by decide +kernel
theorem dL_law_223 : decode cL_law 223 = .ok (.iload_n 3, 1) := by decide +kernel
theorem dL_law_224 : decode cL_law 224 = .ok (.iconst 2, 1) := by decide +kernel
theorem dL_law_225 : decode cL_law 225 = .ok (.iadd, 1) := by decide +kernel
theorem dL_law_226 : decode cL_law 226 = .ok (.iaload, 1) := by decide +kernel
theorem dL_law_227 : decode cL_law 227 = .ok (.aload_n 0, 1) := by decide +kernel
theorem dL_law_228 : decode cL_law 228 = .ok (.iload_n 3, 1) := by decide +kernel
theorem dL_law_229 : decode cL_law 229 = .ok (.iconst 3, 1) := by decide +kernel
theorem dL_law_230 : decode cL_law 230 = .ok (.iadd, 1) := by decide +kernel
theorem dL_law_231 : decode cL_law 231 = .ok (.iaload, 1) := by decide +kernel
theorem dL_law_232 : decode cL_law 232 = .ok (.invokevirtual 13, 3) := by decide +kernel
theorem dL_law_235 : decode cL_law 235 = .ok (.aload_n 2, 1) := by decide +kernel
theorem dL_law_236 : decode cL_law 236 = .ok (.aload_n 0, 1) := by decide +kernel
theorem dL_law_237 : decode cL_law 237 = .ok (.iload_n 3, 1) := by decide +kernel
theorem dL_law_238 : decode cL_law 238 = .ok (.iconst 1, 1) := by decide +kernel
theorem dL_law_239 : decode cL_law 239 = .ok (.iadd, 1) := by decide +kernel
theorem dL_law_240 : decode cL_law 240 = .ok (.iaload, 1) := by decide +kernel
theorem dL_law_241 : decode cL_law 241 = .ok (.aload_n 0, 1) := by decide +kernel
theorem dL_law_242 : decode cL_law 242 = .ok (.iload_n 3, 1) := by decide +kernel
theorem dL_law_243 : decode cL_law 243 = .ok (.iconst 2, 1) := by decide +kernel
theorem dL_law_244 : decode cL_law 244 = .ok (.iadd, 1) := by decide +kernel
theorem dL_law_245 : decode cL_law 245 = .ok (.iaload, 1) := by decide +kernel
theorem dL_law_246 : decode cL_law 246 = .ok (.aload_n 0, 1) := by decide +kernel
theorem dL_law_247 : decode cL_law 247 = .ok (.iload_n 3, 1) := by decide +kernel
theorem dL_law_248 : decode cL_law 248 = .ok (.iconst 3, 1) := by decide +kernel
theorem dL_law_249 : decode cL_law 249 = .ok (.iadd, 1) := by decide +kernel
theorem dL_law_250 : decode cL_law 250 = .ok (.iaload, 1) := by decide +kernel
theorem dL_law_251 : decode cL_law 251 = .ok (.invokevirtual 17, 3) := by decide +kernel
theorem dL_law_254 : decode cL_law 254 = .ok (.if_icmp .eq 1289, 3) := by decide +kernel
theorem dL_law_257 : decode cL_law 257 = .ok (.iconst 0, 1) := by decide +kernel
theorem dL_law_258 : decode cL_law 258 = .ok (.ireturn, 1) := by decide +kernel
theorem dL_law_259 : decode cL_law 259 = .ok (.aload_n 1, 1) := by decide +kernel
theorem dL_law_260 : decode cL_law 260 = .ok (.aload_n 0, 1) := by decide +kernel
theorem dL_law_261 : decode cL_law 261 = .ok (.iload_n 3, 1) := by decide +kernel
theorem dL_law_262 : decode cL_law 262 = .ok (.iconst 1, 1) := by decide +kernel
theorem dL_law_263 : decode cL_law 263 = .ok (.iadd, 1) := by decide +kernel
theorem dL_law_264 : decode cL_law 264 = .ok (.iaload, 1) := by decide +kernel
theorem dL_law_265 : decode cL_law 265 = .ok (.aload_n 0, 1) := by decide +kernel
theorem dL_law_266 : decode cL_law 266 = .ok (.iload_n 3, 1) := by decide +kernel
theorem dL_law_267 : decode cL_law 267 = .ok (.iconst 2, 1) := by decide +kernel
theorem dL_law_268 : decode cL_law 268 = .ok (.iadd, 1) := by decide +kernel
theorem dL_law_269 : decode cL_law 269 = .ok (.iaload, 1) := by decide +kernel
theorem dL_law_270 : decode cL_law 270 = .ok (.aload_n 0, 1) := by decide +kernel
theorem dL_law_271 : decode cL_law 271 = .ok (.iload_n 3, 1) := by decide +kernel
theorem dL_law_272 : decode cL_law 272 = .ok (.iconst 3, 1) := by decide +kernel
theorem dL_law_273 : decode cL_law 273 = .ok (.iadd, 1) := by decide +kernel
theorem dL_law_274 : decode cL_law 274 = .ok (.iaload, 1) := by decide +kernel
theorem dL_law_275 : decode cL_law 275 = .ok (.i2l, 1) := by decide +kernel
theorem dL_law_276 : decode cL_law 276 = .ok (.bipush 32, 2) := by decide +kernel
theorem dL_law_278 : decode cL_law 278 = .ok (.lshl, 1) := by decide +kernel
theorem dL_law_279 : decode cL_law 279 = .ok (.aload_n 0, 1) := by decide +kernel
theorem dL_law_280 : decode cL_law 280 = .ok (.iload_n 3, 1) := by decide +kernel
theorem dL_law_281 : decode cL_law 281 = .ok (.iconst 4, 1) := by decide +kernel
theorem dL_law_282 : decode cL_law 282 = .ok (.iadd, 1) := by decide +kernel
theorem dL_law_283 : decode cL_law 283 = .ok (.iaload, 1) := by decide +kernel
theorem dL_law_284 : decode cL_law 284 = .ok (.i2l, 1) := by decide +kernel
theorem dL_law_285 : decode cL_law 285 = .ok (.ldc2_w 18, 3) := by decide +kernel
theorem dL_law_288 : decode cL_law 288 = .ok (.land, 1) := by decide +kernel
theorem dL_law_289 : decode cL_law 289 = .ok (.lor, 1) := by decide +kernel
theorem dL_law_290 : decode cL_law 290 = .ok (.invokevirtual 20, 3) := by decide +kernel
theorem dL_law_293 : decode cL_law 293 = .ok (.aload_n 2, 1) := by decide +kernel
theorem dL_law_294 : decode cL_law 294 = .ok (.aload_n 0, 1) := by decide +kernel
theorem dL_law_295 : decode cL_law 295 = .ok (.iload_n 3, 1) := by decide +kernel
theorem dL_law_296 : decode cL_law 296 = .ok (.iconst 1, 1) := by decide +kernel
theorem dL_law_297 : decode cL_law 297 = .ok (.iadd, 1) := by decide +kernel
theorem dL_law_298 : decode cL_law 298 = .ok (.iaload, 1) := by decide +kernel
theorem dL_law_299 : decode cL_law 299 = .ok (.aload_n 0, 1) := by decide +kernel
theorem dL_law_300 : decode cL_law 300 = .ok (.iload_n 3, 1) := by decide +kernel
theorem dL_law_301 : decode cL_law 301 = .ok (.iconst 2, 1) := by decide +kernel
theorem dL_law_302 : decode cL_law 302 = .ok (.iadd, 1) := by decide +kernel
end
section
theorem dL_law_303 : decode cL_law 303 = .ok (.iaload, 1) := by decide +kernel
theorem dL_law_304 : decode cL_law 304 = .ok (.aload_n 0, 1) := by decide +kernel
theorem dL_law_305 : decode cL_law 305 = .ok (.iload_n 3, 1) := by decide +kernel
theorem dL_law_306 : decode cL_law 306 = .ok (.iconst 3, 1) := by decide +kernel
theorem dL_law_307 : decode cL_law 307 = .ok (.iadd, 1) := by decide +kernel
theorem dL_law_308 : decode cL_law 308 = .ok (.iaload, 1) := by decide +kernel
theorem dL_law_309 : decode cL_law 309 = .ok (.i2l, 1) := by decide +kernel
theorem dL_law_310 : decode cL_law 310 = .ok (.bipush 32, 2) := by decide +kernel
theorem dL_law_312 : decode cL_law 312 = .ok (.lshl, 1) := by decide +kernel
theorem dL_law_313 : decode cL_law 313 = .ok (.aload_n 0, 1) := by decide +kernel
theorem dL_law_314 : decode cL_law 314 = .ok (.iload_n 3, 1) := by decide +kernel
theorem dL_law_315 : decode cL_law 315 = .ok (.iconst 4, 1) := by decide +kernel
theorem dL_law_316 : decode cL_law 316 = .ok (.iadd, 1) := by decide +kernel
theorem dL_law_317 : decode cL_law 317 = .ok (.iaload, 1) := by decide +kernel
theorem dL_law_318 : decode cL_law 318 = .ok (.i2l, 1) := by decide +kernel
theorem dL_law_319 : decode cL_law 319 = .ok (.ldc2_w 18, 3) := by decide +kernel
theorem dL_law_322 : decode cL_law 322 = .ok (.land, 1) := by decide +kernel
theorem dL_law_323 : decode cL_law 323 = .ok (.lor, 1) := by decide +kernel
theorem dL_law_324 : decode cL_law 324 = .ok (.invokevirtual 24, 3) := by decide +kernel
theorem dL_law_327 : decode cL_law 327 = .ok (.if_icmp .eq 1216, 3) := by decide +kernel
theorem dL_law_330 : decode cL_law 330 = .ok (.iconst 0, 1) := by decide +kernel
theorem dL_law_331 : decode cL_law 331 = .ok (.ireturn, 1) := by decide +kernel
theorem dL_law_332 : decode cL_law 332 = .ok (.aload_n 1, 1) := by decide +kernel
theorem dL_law_333 : decode cL_law 333 = .ok (.aload_n 0, 1) := by decide +kernel
theorem dL_law_334 : decode cL_law 334 = .ok (.iload_n 3, 1) := by decide +kernel
theorem dL_law_335 : decode cL_law 335 = .ok (.iconst 1, 1) := by decide +kernel
theorem dL_law_336 : decode cL_law 336 = .ok (.iadd, 1) := by decide +kernel
theorem dL_law_337 : decode cL_law 337 = .ok (.iaload, 1) := by decide +kernel
theorem dL_law_338 : decode cL_law 338 = .ok (.aload_n 0, 1) := by decide +kernel
theorem dL_law_339 : decode cL_law 339 = .ok (.iload_n 3, 1) := by decide +kernel
theorem dL_law_340 : decode cL_law 340 = .ok (.iconst 2, 1) := by decide +kernel
theorem dL_law_341 : decode cL_law 341 = .ok (.iadd, 1) := by decide +kernel
theorem dL_law_342 : decode cL_law 342 = .ok (.iaload, 1) := by decide +kernel
theorem dL_law_343 : decode cL_law 343 = .ok (.aload_n 0, 1) := by decide +kernel
theorem dL_law_344 : decode cL_law 344 = .ok (.iload_n 3, 1) := by decide +kernel
theorem dL_law_345 : decode cL_law 345 = .ok (.iconst 3, 1) := by decide +kernel
theorem dL_law_346 : decode cL_law 346 = .ok (.iadd, 1) := by decide +kernel
theorem dL_law_347 : decode cL_law 347 = .ok (.iaload, 1) := by decide +kernel
theorem dL_law_348 : decode cL_law 348 = .ok (.aload_n 0, 1) := by decide +kernel
theorem dL_law_349 : decode cL_law 349 = .ok (.iload_n 3, 1) := by decide +kernel
theorem dL_law_350 : decode cL_law 350 = .ok (.iconst 4, 1) := by decide +kernel
theorem dL_law_351 : decode cL_law 351 = .ok (.iadd, 1) := by decide +kernel
theorem dL_law_352 : decode cL_law 352 = .ok (.iaload, 1) := by decide +kernel
theorem dL_law_353 : decode cL_law 353 = .ok (.aload_n 0, 1) := by decide +kernel
theorem dL_law_354 : decode cL_law 354 = .ok (.iload_n 3, 1) := by decide +kernel
theorem dL_law_355 : decode cL_law 355 = .ok (.iconst 5, 1) := by decide +kernel
theorem dL_law_356 : decode cL_law 356 = .ok (.iadd, 1) := by decide +kernel
theorem dL_law_357 : decode cL_law 357 = .ok (.iaload, 1) := by decide +kernel
theorem dL_law_358 : decode cL_law 358 = .ok (.invokevirtual 25, 3) := by decide +kernel
theorem dL_law_361 : decode cL_law 361 = .ok (.aload_n 2, 1) := by decide +kernel
theorem dL_law_362 : decode cL_law 362 = .ok (.aload_n 0, 1) := by decide +kernel
theorem dL_law_363 : decode cL_law 363 = .ok (.iload_n 3, 1) := by decide +kernel
theorem dL_law_364 : decode cL_law 364 = .ok (.iconst 1, 1) := by decide +kernel
theorem dL_law_365 : decode cL_law 365 = .ok (.iadd, 1) := by decide +kernel
theorem dL_law_366 : decode cL_law 366 = .ok (.iaload, 1) := by decide +kernel
theorem dL_law_367 : decode cL_law 367 = .ok (.aload_n 0, 1) := by decide +kernel
theorem dL_law_368 : decode cL_law 368 = .ok (.iload_n 3, 1) := by decide +kernel
theorem dL_law_369 : decode cL_law 369 = .ok (.iconst 2, 1) := by decide +kernel
theorem dL_law_370 : decode cL_law 370 = .ok (.iadd, 1) := by decide +kernel
theorem dL_law_371 : decode cL_law 371 = .ok (.iaload, 1) := by decide +kernel
theorem dL_law_372 : decode cL_law 372 = .ok (.aload_n 0, 1) := by decide +kernel
theorem dL_law_373 : decode cL_law 373 = .ok (.iload_n 3, 1) := by decide +kernel
theorem dL_law_374 : decode cL_law 374 = .ok (.iconst 3, 1) := by decide +kernel
theorem dL_law_375 : decode cL_law 375 = .ok (.iadd, 1) := by decide +kernel
theorem dL_law_376 : decode cL_law 376 = .ok (.iaload, 1) := by decide +kernel
theorem dL_law_377 : decode cL_law 377 = .ok (.aload_n 0, 1) := by decide +kernel
theorem dL_law_378 : decode cL_law 378 = .ok (.iload_n 3, 1) := by decide +kernel
theorem dL_law_379 : decode cL_law 379 = .ok (.iconst 4, 1) := by decide +kernel
theorem dL_law_380 : decode cL_law 380 = .ok (.iadd, 1) := by decide +kernel
theorem dL_law_381 : decode cL_law 381 = .ok (.iaload, 1) := by decide +kernel
theorem dL_law_382 : decode cL_law 382 = .ok (.aload_n 0, 1) := by decide +kernel
theorem dL_law_383 : decode cL_law 383 = .ok (.iload_n 3, 1) := by decide +kernel
theorem dL_law_384 : decode cL_law 384 = .ok (.iconst 5, 1) := by decide +kernel
theorem dL_law_385 : decode cL_law 385 = .ok (.iadd, 1) := by decide +kernel
theorem dL_law_386 : decode cL_law 386 = .ok (.iaload, 1) := by decide +kernel
theorem dL_law_387 : decode cL_law 387 = .ok (.invokevirtual 29, 3) := by decide +kernel
theorem dL_law_390 : decode cL_law 390 = .ok (.if_icmp .eq 1153, 3) := by decide +kernel
theorem dL_law_393 : decode cL_law 393 = .ok (.iconst 0, 1) := by decide +kernel
theorem dL_law_394 : decode cL_law 394 = .ok (.ireturn, 1) := by decide +kernel
theorem dL_law_395 : decode cL_law 395 = .ok (.aload_n 1, 1) := by decide +kernel
theorem dL_law_396 : decode cL_law 396 = .ok (.aload_n 0, 1) := by decide +kernel
theorem dL_law_397 : decode cL_law 397 = .ok (.iload_n 3, 1) := by decide +kernel
theorem dL_law_398 : decode cL_law 398 = .ok (.iconst 1, 1) := by decide +kernel
theorem dL_law_399 : decode cL_law 399 = .ok (.iadd, 1) := by decide +kernel
theorem dL_law_400 : decode cL_law 400 = .ok (.iaload, 1) := by decide +kernel
theorem dL_law_401 : decode cL_law 401 = .ok (.aload_n 0, 1) := by decide +kernel
theorem dL_law_402 : decode cL_law 402 = .ok (.iload_n 3, 1) := by decide +kernel
theorem dL_law_403 : decode cL_law 403 = .ok (.iconst 2, 1) := by decide +kernel
theorem dL_law_404 : decode cL_law 404 = .ok (.iadd, 1) := by decide +kernel
theorem dL_law_405 : decode cL_law 405 = .ok (.iaload, 1) := by decide +kernel
theorem dL_law_406 : decode cL_law 406 = .ok (.invokevirtual 30, 3) := by decide +kernel
theorem dL_law_409 : decode cL_law 409 = .ok (.aload_n 2, 1) := by decide +kernel
theorem dL_law_410 : decode cL_law 410 = .ok (.aload_n 0, 1) := by decide +kernel
theorem dL_law_411 : decode cL_law 411 = .ok (.iload_n 3, 1) := by decide +kernel
theorem dL_law_412 : decode cL_law 412 = .ok (.iconst 1, 1) := by decide +kernel
theorem dL_law_413 : decode cL_law 413 = .ok (.iadd, 1) := by decide +kernel
theorem dL_law_414 : decode cL_law 414 = .ok (.iaload, 1) := by decide +kernel
theorem dL_law_415 : decode cL_law 415 = .ok (.aload_n 0, 1) := by decide +kernel
theorem dL_law_416 : decode cL_law 416 = .ok (.iload_n 3, 1) := by decide +kernel
theorem dL_law_417 : decode cL_law 417 = .ok (.iconst 2, 1) := by decide +kernel
theorem dL_law_418 : decode cL_law 418 = .ok (.iadd, 1) := by decide +kernel
theorem dL_law_419 : decode cL_law 419 = .ok (.iaload, 1) := by decide +kernel
theorem dL_law_420 : decode cL_law 420 = .ok (.invokevirtual 34, 3) := by decide +kernel
theorem dL_law_423 : decode cL_law 423 = .ok (.lcmp, 1) := by decide +kernel
theorem dL_law_424 : decode cL_law 424 = .ok (.ifCond .eq 1119, 3) := by decide +kernel
theorem dL_law_427 : decode cL_law 427 = .ok (.iconst 0, 1) := by decide +kernel
theorem dL_law_428 : decode cL_law 428 = .ok (.ireturn, 1) := by decide +kernel
theorem dL_law_429 : decode cL_law 429 = .ok (.aload_n 1, 1) := by decide +kernel
theorem dL_law_430 : decode cL_law 430 = .ok (.aload_n 0, 1) := by decide +kernel
theorem dL_law_431 : decode cL_law 431 = .ok (.iload_n 3, 1) := by decide +kernel
theorem dL_law_432 : decode cL_law 432 = .ok (.iconst 1, 1) := by decide +kernel
theorem dL_law_433 : decode cL_law 433 = .ok (.iadd, 1) := by decide +kernel
theorem dL_law_434 : decode cL_law 434 = .ok (.iaload, 1) := by decide +kernel
theorem dL_law_435 : decode cL_law 435 = .ok (.aload_n 0, 1) := by decide +kernel
theorem dL_law_436 : decode cL_law 436 = .ok (.iload_n 3, 1) := by decide +kernel
theorem dL_law_437 : decode cL_law 437 = .ok (.iconst 2, 1) := by decide +kernel
theorem dL_law_438 : decode cL_law 438 = .ok (.iadd, 1) := by decide +kernel
theorem dL_law_439 : decode cL_law 439 = .ok (.iaload, 1) := by decide +kernel
theorem dL_law_440 : decode cL_law 440 = .ok (.invokevirtual 35, 3) := by decide +kernel
theorem dL_law_443 : decode cL_law 443 = .ok (.aload_n 2, 1) := by decide +kernel
theorem dL_law_444 : decode cL_law 444 = .ok (.aload_n 0, 1) := by decide +kernel
theorem dL_law_445 : decode cL_law 445 = .ok (.iload_n 3, 1) := by decide +kernel
theorem dL_law_446 : decode cL_law 446 = .ok (.iconst 1, 1) := by decide +kernel
theorem dL_law_447 : decode cL_law 447 = .ok (.iadd, 1) := by decide +kernel
theorem dL_law_448 : decode cL_law 448 = .ok (.iaload, 1) := by decide +kernel
theorem dL_law_449 : decode cL_law 449 = .ok (.aload_n 0, 1) := by decide +kernel
theorem dL_law_450 : decode cL_law 450 = .ok (.iload_n 3, 1) := by decide +kernel
theorem dL_law_451 : decode cL_law 451 = .ok (.iconst 2, 1) := by decide +kernel
theorem dL_law_452 : decode cL_law 452 = .ok (.iadd, 1) := by decide +kernel
theorem dL_law_453 : decode cL_law 453 = .ok (.iaload, 1) := by decide +kernel
theorem dL_law_454 : decode cL_law 454 = .ok (.invokevirtual 39, 3) := by decide +kernel
theorem dL_law_457 : decode cL_law 457 = .ok (.if_icmp .eq 1086, 3) := by decide +kernel
theorem dL_law_460 : decode cL_law 460 = .ok (.iconst 0, 1) := by decide +kernel
theorem dL_law_461 : decode cL_law 461 = .ok (.ireturn, 1) := by decide +kernel
theorem dL_law_462 : decode cL_law 462 = .ok (.aload_n 1, 1) := by decide +kernel
theorem dL_law_463 : decode cL_law 463 = .ok (.aload_n 0, 1) := by decide +kernel
theorem dL_law_464 : decode cL_law 464 = .ok (.iload_n 3, 1) := by decide +kernel
theorem dL_law_465 : decode cL_law 465 = .ok (.iconst 1, 1) := by decide +kernel
theorem dL_law_466 : decode cL_law 466 = .ok (.iadd, 1) := by decide +kernel
theorem dL_law_467 : decode cL_law 467 = .ok (.iaload, 1) := by decide +kernel
theorem dL_law_468 : decode cL_law 468 = .ok (.invokevirtual 40, 3) := by decide +kernel
theorem dL_law_471 : decode cL_law 471 = .ok (.aload_n 2, 1) := by decide +kernel
theorem dL_law_472 : decode cL_law 472 = .ok (.aload_n 0, 1) := by decide +kernel
theorem dL_law_473 : decode cL_law 473 = .ok (.iload_n 3, 1) := by decide +kernel
theorem dL_law_474 : decode cL_law 474 = .ok (.iconst 1, 1) := by decide +kernel
theorem dL_law_475 : decode cL_law 475 = .ok (.iadd, 1) := by decide +kernel
theorem dL_law_476 : decode cL_law 476 = .ok (.iaload, 1) := by decide +kernel
theorem dL_law_477 : decode cL_law 477 = .ok (.invokevirtual 44, 3) := by decide +kernel
theorem dL_law_480 : decode cL_law 480 = .ok (.if_icmp .eq 1063, 3) := by decide +kernel
theorem dL_law_483 : decode cL_law 483 = .ok (.iconst 0, 1) := by decide +kernel
theorem dL_law_484 : decode cL_law 484 = .ok (.ireturn, 1) := by decide +kernel
theorem dL_law_485 : decode cL_law 485 = .ok (.aload_n 1, 1) := by decide +kernel
theorem dL_law_486 : decode cL_law 486 = .ok (.aload_n 0, 1) := by decide +kernel
theorem dL_law_487 : decode cL_law 487 = .ok (.iload_n 3, 1) := by decide +kernel
theorem dL_law_488 : decode cL_law 488 = .ok (.iconst 1, 1) := by decide +kernel
theorem dL_law_489 : decode cL_law 489 = .ok (.iadd, 1) := by decide +kernel
theorem dL_law_490 : decode cL_law 490 = .ok (.iaload, 1) := by decide +kernel
theorem dL_law_491 : decode cL_law 491 = .ok (.aload_n 0, 1) := by decide +kernel
theorem dL_law_492 : decode cL_law 492 = .ok (.iload_n 3, 1) := by decide +kernel
theorem dL_law_493 : decode cL_law 493 = .ok (.iconst 2, 1) := by decide +kernel
theorem dL_law_494 : decode cL_law 494 = .ok (.iadd, 1) := by decide +kernel
theorem dL_law_495 : decode cL_law 495 = .ok (.iaload, 1) := by decide +kernel
theorem dL_law_496 : decode cL_law 496 = .ok (.invokevirtual 45, 3) := by decide +kernel
theorem dL_law_499 : decode cL_law 499 = .ok (.aload_n 2, 1) := by decide +kernel
theorem dL_law_500 : decode cL_law 500 = .ok (.aload_n 0, 1) := by decide +kernel
theorem dL_law_501 : decode cL_law 501 = .ok (.iload_n 3, 1) := by decide +kernel
theorem dL_law_502 : decode cL_law 502 = .ok (.iconst 1, 1) := by decide +kernel
theorem dL_law_503 : decode cL_law 503 = .ok (.iadd, 1) := by decide +kernel
theorem dL_law_504 : decode cL_law 504 = .ok (.iaload, 1) := by decide +kernel
theorem dL_law_505 : decode cL_law 505 = .ok (.aload_n 0, 1) := by decide +kernel
theorem dL_law_506 : decode cL_law 506 = .ok (.iload_n 3, 1) := by decide +kernel
theorem dL_law_507 : decode cL_law 507 = .ok (.iconst 2, 1) := by decide +kernel
theorem dL_law_508 : decode cL_law 508 = .ok (.iadd, 1) := by decide +kernel
theorem dL_law_509 : decode cL_law 509 = .ok (.iaload, 1) := by decide +kernel
theorem dL_law_510 : decode cL_law 510 = .ok (.invokevirtual 48, 3) := by decide +kernel
theorem dL_law_513 : decode cL_law 513 = .ok (.if_icmp .eq 1030, 3) := by decide +kernel
theorem dL_law_516 : decode cL_law 516 = .ok (.iconst 0, 1) := by decide +kernel
theorem dL_law_517 : decode cL_law 517 = .ok (.ireturn, 1) := by decide +kernel
theorem dL_law_518 : decode cL_law 518 = .ok (.aload_n 1, 1) := by decide +kernel
theorem dL_law_519 : decode cL_law 519 = .ok (.aload_n 0, 1) := by decide +kernel
theorem dL_law_520 : decode cL_law 520 = .ok (.iload_n 3, 1) := by decide +kernel
theorem dL_law_521 : decode cL_law 521 = .ok (.iconst 1, 1) := by decide +kernel
theorem dL_law_522 : decode cL_law 522 = .ok (.iadd, 1) := by decide +kernel
theorem dL_law_523 : decode cL_law 523 = .ok (.iaload, 1) := by decide +kernel
theorem dL_law_524 : decode cL_law 524 = .ok (.aload_n 0, 1) := by decide +kernel
theorem dL_law_525 : decode cL_law 525 = .ok (.iload_n 3, 1) := by decide +kernel
theorem dL_law_526 : decode cL_law 526 = .ok (.iconst 2, 1) := by decide +kernel
theorem dL_law_527 : decode cL_law 527 = .ok (.iadd, 1) := by decide +kernel
theorem dL_law_528 : decode cL_law 528 = .ok (.iaload, 1) := by decide +kernel
theorem dL_law_529 : decode cL_law 529 = .ok (.invokevirtual 49, 3) := by decide +kernel
theorem dL_law_532 : decode cL_law 532 = .ok (.aload_n 2, 1) := by decide +kernel
theorem dL_law_533 : decode cL_law 533 = .ok (.aload_n 0, 1) := by decide +kernel
theorem dL_law_534 : decode cL_law 534 = .ok (.iload_n 3, 1) := by decide +kernel
theorem dL_law_535 : decode cL_law 535 = .ok (.iconst 1, 1) := by decide +kernel
theorem dL_law_536 : decode cL_law 536 = .ok (.iadd, 1) := by decide +kernel
theorem dL_law_537 : decode cL_law 537 = .ok (.iaload, 1) := by decide +kernel
theorem dL_law_538 : decode cL_law 538 = .ok (.aload_n 0, 1) := by decide +kernel
theorem dL_law_539 : decode cL_law 539 = .ok (.iload_n 3, 1) := by decide +kernel
theorem dL_law_540 : decode cL_law 540 = .ok (.iconst 2, 1) := by decide +kernel
theorem dL_law_541 : decode cL_law 541 = .ok (.iadd, 1) := by decide +kernel
theorem dL_law_542 : decode cL_law 542 = .ok (.iaload, 1) := by decide +kernel
theorem dL_law_543 : decode cL_law 543 = .ok (.invokevirtual 52, 3) := by decide +kernel
theorem dL_law_546 : decode cL_law 546 = .ok (.if_icmp .eq 997, 3) := by decide +kernel
theorem dL_law_549 : decode cL_law 549 = .ok (.iconst 0, 1) := by decide +kernel
theorem dL_law_550 : decode cL_law 550 = .ok (.ireturn, 1) := by decide +kernel
theorem dL_law_551 : decode cL_law 551 = .ok (.aload_n 1, 1) := by decide +kernel
theorem dL_law_552 : decode cL_law 552 = .ok (.aload_n 0, 1) := by decide +kernel
theorem dL_law_553 : decode cL_law 553 = .ok (.iload_n 3, 1) := by decide +kernel
theorem dL_law_554 : decode cL_law 554 = .ok (.iconst 1, 1) := by decide +kernel
theorem dL_law_555 : decode cL_law 555 = .ok (.iadd, 1) := by decide +kernel
theorem dL_law_556 : decode cL_law 556 = .ok (.iaload, 1) := by decide +kernel
theorem dL_law_557 : decode cL_law 557 = .ok (.aload_n 0, 1) := by decide +kernel
theorem dL_law_558 : decode cL_law 558 = .ok (.iload_n 3, 1) := by decide +kernel
theorem dL_law_559 : decode cL_law 559 = .ok (.iconst 2, 1) := by decide +kernel
theorem dL_law_560 : decode cL_law 560 = .ok (.iadd, 1) := by decide +kernel
theorem dL_law_561 : decode cL_law 561 = .ok (.iaload, 1) := by decide +kernel
theorem dL_law_562 : decode cL_law 562 = .ok (.aload_n 0, 1) := by decide +kernel
theorem dL_law_563 : decode cL_law 563 = .ok (.iload_n 3, 1) := by decide +kernel
theorem dL_law_564 : decode cL_law 564 = .ok (.iconst 3, 1) := by decide +kernel
theorem dL_law_565 : decode cL_law 565 = .ok (.iadd, 1) := by decide +kernel
theorem dL_law_566 : decode cL_law 566 = .ok (.iaload, 1) := by decide +kernel
theorem dL_law_567 : decode cL_law 567 = .ok (.aload_n 0, 1) := by decide +kernel
theorem dL_law_568 : decode cL_law 568 = .ok (.iload_n 3, 1) := by decide +kernel
theorem dL_law_569 : decode cL_law 569 = .ok (.iconst 4, 1) := by decide +kernel
theorem dL_law_570 : decode cL_law 570 = .ok (.iadd, 1) := by decide +kernel
theorem dL_law_571 : decode cL_law 571 = .ok (.iaload, 1) := by decide +kernel
theorem dL_law_572 : decode cL_law 572 = .ok (.aload_n 0, 1) := by decide +kernel
theorem dL_law_573 : decode cL_law 573 = .ok (.iload_n 3, 1) := by decide +kernel
theorem dL_law_574 : decode cL_law 574 = .ok (.iconst 5, 1) := by decide +kernel
theorem dL_law_575 : decode cL_law 575 = .ok (.iadd, 1) := by decide +kernel
theorem dL_law_576 : decode cL_law 576 = .ok (.iaload, 1) := by decide +kernel
theorem dL_law_577 : decode cL_law 577 = .ok (.invokevirtual 53, 3) := by decide +kernel
theorem dL_law_580 : decode cL_law 580 = .ok (.aload_n 2, 1) := by decide +kernel
theorem dL_law_581 : decode cL_law 581 = .ok (.aload_n 0, 1) := by decide +kernel
theorem dL_law_582 : decode cL_law 582 = .ok (.iload_n 3, 1) := by decide +kernel
theorem dL_law_583 : decode cL_law 583 = .ok (.iconst 1, 1) := by decide +kernel
theorem dL_law_584 : decode cL_law 584 = .ok (.iadd, 1) := by decide +kernel
theorem dL_law_585 : decode cL_law 585 = .ok (.iaload, 1) := by decide +kernel
theorem dL_law_586 : decode cL_law 586 = .ok (.aload_n 0, 1) := by decide +kernel
theorem dL_law_587 : decode cL_law 587 = .ok (.iload_n 3, 1) := by decide +kernel
theorem dL_law_588 : decode cL_law 588 = .ok (.iconst 2, 1) := by decide +kernel
theorem dL_law_589 : decode cL_law 589 = .ok (.iadd, 1) := by decide +kernel
theorem dL_law_590 : decode cL_law 590 = .ok (.iaload, 1) := by decide +kernel
theorem dL_law_591 : decode cL_law 591 = .ok (.aload_n 0, 1) := by decide +kernel
theorem dL_law_592 : decode cL_law 592 = .ok (.iload_n 3, 1) := by decide +kernel
theorem dL_law_593 : decode cL_law 593 = .ok (.iconst 3, 1) := by decide +kernel
theorem dL_law_594 : decode cL_law 594 = .ok (.iadd, 1) := by decide +kernel
theorem dL_law_595 : decode cL_law 595 = .ok (.iaload, 1) := by decide +kernel
theorem dL_law_596 : decode cL_law 596 = .ok (.aload_n 0, 1) := by decide +kernel
theorem dL_law_597 : decode cL_law 597 = .ok (.iload_n 3, 1) := by decide +kernel
theorem dL_law_598 : decode cL_law 598 = .ok (.iconst 4, 1) := by decide +kernel
theorem dL_law_599 : decode cL_law 599 = .ok (.iadd, 1) := by decide +kernel
theorem dL_law_600 : decode cL_law 600 = .ok (.iaload, 1) := by decide +kernel
theorem dL_law_601 : decode cL_law 601 = .ok (.aload_n 0, 1) := by decide +kernel
theorem dL_law_602 : decode cL_law 602 = .ok (.iload_n 3, 1) := by decide +kernel
theorem dL_law_603 : decode cL_law 603 = .ok (.iconst 5, 1) := by decide +kernel
theorem dL_law_604 : decode cL_law 604 = .ok (.iadd, 1) := by decide +kernel
theorem dL_law_605 : decode cL_law 605 = .ok (.iaload, 1) := by decide +kernel
theorem dL_law_606 : decode cL_law 606 = .ok (.invokevirtual 56, 3) := by decide +kernel
theorem dL_law_609 : decode cL_law 609 = .ok (.if_icmp .eq 934, 3) := by decide +kernel
theorem dL_law_612 : decode cL_law 612 = .ok (.iconst 0, 1) := by decide +kernel
theorem dL_law_613 : decode cL_law 613 = .ok (.ireturn, 1) := by decide +kernel
theorem dL_law_614 : decode cL_law 614 = .ok (.aload_n 1, 1) := by decide +kernel
theorem dL_law_615 : decode cL_law 615 = .ok (.aload_n 0, 1) := by decide +kernel
theorem dL_law_616 : decode cL_law 616 = .ok (.iload_n 3, 1) := by decide +kernel
theorem dL_law_617 : decode cL_law 617 = .ok (.iconst 1, 1) := by decide +kernel
theorem dL_law_618 : decode cL_law 618 = .ok (.iadd, 1) := by decide +kernel
theorem dL_law_619 : decode cL_law 619 = .ok (.iaload, 1) := by decide +kernel
theorem dL_law_620 : decode cL_law 620 = .ok (.aload_n 0, 1) := by decide +kernel
theorem dL_law_621 : decode cL_law 621 = .ok (.iload_n 3, 1) := by decide +kernel
theorem dL_law_622 : decode cL_law 622 = .ok (.iconst 2, 1) := by decide +kernel
theorem dL_law_623 : decode cL_law 623 = .ok (.iadd, 1) := by decide +kernel
theorem dL_law_624 : decode cL_law 624 = .ok (.iaload, 1) := by decide +kernel
theorem dL_law_625 : decode cL_law 625 = .ok (.invokevirtual 57, 3) := by decide +kernel
theorem dL_law_628 : decode cL_law 628 = .ok (.aload_n 2, 1) := by decide +kernel
theorem dL_law_629 : decode cL_law 629 = .ok (.aload_n 0, 1) := by decide +kernel
theorem dL_law_630 : decode cL_law 630 = .ok (.iload_n 3, 1) := by decide +kernel
theorem dL_law_631 : decode cL_law 631 = .ok (.iconst 1, 1) := by decide +kernel
theorem dL_law_632 : decode cL_law 632 = .ok (.iadd, 1) := by decide +kernel
theorem dL_law_633 : decode cL_law 633 = .ok (.iaload, 1) := by decide +kernel
theorem dL_law_634 : decode cL_law 634 = .ok (.aload_n 0, 1) := by decide +kernel
theorem dL_law_635 : decode cL_law 635 = .ok (.iload_n 3, 1) := by decide +kernel
theorem dL_law_636 : decode cL_law 636 = .ok (.iconst 2, 1) := by decide +kernel
theorem dL_law_637 : decode cL_law 637 = .ok (.iadd, 1) := by decide +kernel
theorem dL_law_638 : decode cL_law 638 = .ok (.iaload, 1) := by decide +kernel
theorem dL_law_639 : decode cL_law 639 = .ok (.invokevirtual 60, 3) := by decide +kernel
theorem dL_law_642 : decode cL_law 642 = .ok (.if_icmp .eq 901, 3) := by decide +kernel
theorem dL_law_645 : decode cL_law 645 = .ok (.iconst 0, 1) := by decide +kernel
theorem dL_law_646 : decode cL_law 646 = .ok (.ireturn, 1) := by decide +kernel
theorem dL_law_647 : decode cL_law 647 = .ok (.aload_n 1, 1) := by decide +kernel
theorem dL_law_648 : decode cL_law 648 = .ok (.aload_n 0, 1) := by decide +kernel
theorem dL_law_649 : decode cL_law 649 = .ok (.iload_n 3, 1) := by decide +kernel
theorem dL_law_650 : decode cL_law 650 = .ok (.iconst 1, 1) := by decide +kernel
theorem dL_law_651 : decode cL_law 651 = .ok (.iadd, 1) := by decide +kernel
theorem dL_law_652 : decode cL_law 652 = .ok (.iaload, 1) := by decide +kernel
theorem dL_law_653 : decode cL_law 653 = .ok (.aload_n 0, 1) := by decide +kernel
theorem dL_law_654 : decode cL_law 654 = .ok (.iload_n 3, 1) := by decide +kernel
theorem dL_law_655 : decode cL_law 655 = .ok (.iconst 2, 1) := by decide +kernel
theorem dL_law_656 : decode cL_law 656 = .ok (.iadd, 1) := by decide +kernel
theorem dL_law_657 : decode cL_law 657 = .ok (.iaload, 1) := by decide +kernel
theorem dL_law_658 : decode cL_law 658 = .ok (.invokevirtual 61, 3) := by decide +kernel
theorem dL_law_661 : decode cL_law 661 = .ok (.aload_n 2, 1) := by decide +kernel
theorem dL_law_662 : decode cL_law 662 = .ok (.aload_n 0, 1) := by decide +kernel
theorem dL_law_663 : decode cL_law 663 = .ok (.iload_n 3, 1) := by decide +kernel
theorem dL_law_664 : decode cL_law 664 = .ok (.iconst 1, 1) := by decide +kernel
theorem dL_law_665 : decode cL_law 665 = .ok (.iadd, 1) := by decide +kernel
theorem dL_law_666 : decode cL_law 666 = .ok (.iaload, 1) := by decide +kernel
theorem dL_law_667 : decode cL_law 667 = .ok (.aload_n 0, 1) := by decide +kernel
theorem dL_law_668 : decode cL_law 668 = .ok (.iload_n 3, 1) := by decide +kernel
theorem dL_law_669 : decode cL_law 669 = .ok (.iconst 2, 1) := by decide +kernel
theorem dL_law_670 : decode cL_law 670 = .ok (.iadd, 1) := by decide +kernel
theorem dL_law_671 : decode cL_law 671 = .ok (.iaload, 1) := by decide +kernel
theorem dL_law_672 : decode cL_law 672 = .ok (.invokevirtual 64, 3) := by decide +kernel
theorem dL_law_675 : decode cL_law 675 = .ok (.if_icmp .eq 868, 3) := by decide +kernel
theorem dL_law_678 : decode cL_law 678 = .ok (.iconst 0, 1) := by decide +kernel
theorem dL_law_679 : decode cL_law 679 = .ok (.ireturn, 1) := by decide +kernel
theorem dL_law_680 : decode cL_law 680 = .ok (.aload_n 1, 1) := by decide +kernel
theorem dL_law_681 : decode cL_law 681 = .ok (.aload_n 0, 1) := by decide +kernel
theorem dL_law_682 : decode cL_law 682 = .ok (.iload_n 3, 1) := by decide +kernel
theorem dL_law_683 : decode cL_law 683 = .ok (.iconst 1, 1) := by decide +kernel
theorem dL_law_684 : decode cL_law 684 = .ok (.iadd, 1) := by decide +kernel
theorem dL_law_685 : decode cL_law 685 = .ok (.iaload, 1) := by decide +kernel
theorem dL_law_686 : decode cL_law 686 = .ok (.aload_n 0, 1) := by decide +kernel
theorem dL_law_687 : decode cL_law 687 = .ok (.iload_n 3, 1) := by decide +kernel
theorem dL_law_688 : decode cL_law 688 = .ok (.iconst 2, 1) := by decide +kernel
theorem dL_law_689 : decode cL_law 689 = .ok (.iadd, 1) := by decide +kernel
theorem dL_law_690 : decode cL_law 690 = .ok (.iaload, 1) := by decide +kernel
theorem dL_law_691 : decode cL_law 691 = .ok (.aload_n 0, 1) := by decide +kernel
theorem dL_law_692 : decode cL_law 692 = .ok (.iload_n 3, 1) := by decide +kernel
theorem dL_law_693 : decode cL_law 693 = .ok (.iconst 3, 1) := by decide +kernel
theorem dL_law_694 : decode cL_law 694 = .ok (.iadd, 1) := by decide +kernel
theorem dL_law_695 : decode cL_law 695 = .ok (.iaload, 1) := by decide +kernel
theorem dL_law_696 : decode cL_law 696 = .ok (.invokevirtual 65, 3) := by decide +kernel
theorem dL_law_699 : decode cL_law 699 = .ok (.aload_n 2, 1) := by decide +kernel
theorem dL_law_700 : decode cL_law 700 = .ok (.aload_n 0, 1) := by decide +kernel
theorem dL_law_701 : decode cL_law 701 = .ok (.iload_n 3, 1) := by decide +kernel
theorem dL_law_702 : decode cL_law 702 = .ok (.iconst 1, 1) := by decide +kernel
theorem dL_law_703 : decode cL_law 703 = .ok (.iadd, 1) := by decide +kernel
theorem dL_law_704 : decode cL_law 704 = .ok (.iaload, 1) := by decide +kernel
theorem dL_law_705 : decode cL_law 705 = .ok (.aload_n 0, 1) := by decide +kernel
theorem dL_law_706 : decode cL_law 706 = .ok (.iload_n 3, 1) := by decide +kernel
theorem dL_law_707 : decode cL_law 707 = .ok (.iconst 2, 1) := by decide +kernel
theorem dL_law_708 : decode cL_law 708 = .ok (.iadd, 1) := by decide +kernel
theorem dL_law_709 : decode cL_law 709 = .ok (.iaload, 1) := by decide +kernel
theorem dL_law_710 : decode cL_law 710 = .ok (.aload_n 0, 1) := by decide +kernel
theorem dL_law_711 : decode cL_law 711 = .ok (.iload_n 3, 1) := by decide +kernel
theorem dL_law_712 : decode cL_law 712 = .ok (.iconst 3, 1) := by decide +kernel
theorem dL_law_713 : decode cL_law 713 = .ok (.iadd, 1) := by decide +kernel
theorem dL_law_714 : decode cL_law 714 = .ok (.iaload, 1) := by decide +kernel
theorem dL_law_715 : decode cL_law 715 = .ok (.invokevirtual 68, 3) := by decide +kernel
theorem dL_law_718 : decode cL_law 718 = .ok (.if_icmp .eq 825, 3) := by decide +kernel
theorem dL_law_721 : decode cL_law 721 = .ok (.iconst 0, 1) := by decide +kernel
theorem dL_law_722 : decode cL_law 722 = .ok (.ireturn, 1) := by decide +kernel
theorem dL_law_723 : decode cL_law 723 = .ok (.aload_n 1, 1) := by decide +kernel
theorem dL_law_724 : decode cL_law 724 = .ok (.aload_n 0, 1) := by decide +kernel
theorem dL_law_725 : decode cL_law 725 = .ok (.iload_n 3, 1) := by decide +kernel
theorem dL_law_726 : decode cL_law 726 = .ok (.iconst 1, 1) := by decide +kernel
theorem dL_law_727 : decode cL_law 727 = .ok (.iadd, 1) := by decide +kernel
theorem dL_law_728 : decode cL_law 728 = .ok (.iaload, 1) := by decide +kernel
theorem dL_law_729 : decode cL_law 729 = .ok (.aload_n 0, 1) := by decide +kernel
theorem dL_law_730 : decode cL_law 730 = .ok (.iload_n 3, 1) := by decide +kernel
theorem dL_law_731 : decode cL_law 731 = .ok (.iconst 2, 1) := by decide +kernel
theorem dL_law_732 : decode cL_law 732 = .ok (.iadd, 1) := by decide +kernel
theorem dL_law_733 : decode cL_law 733 = .ok (.iaload, 1) := by decide +kernel
theorem dL_law_734 : decode cL_law 734 = .ok (.invokevirtual 69, 3) := by decide +kernel
theorem dL_law_737 : decode cL_law 737 = .ok (.aload_n 2, 1) := by decide +kernel
theorem dL_law_738 : decode cL_law 738 = .ok (.aload_n 0, 1) := by decide +kernel
theorem dL_law_739 : decode cL_law 739 = .ok (.iload_n 3, 1) := by decide +kernel
theorem dL_law_740 : decode cL_law 740 = .ok (.iconst 1, 1) := by decide +kernel
theorem dL_law_741 : decode cL_law 741 = .ok (.iadd, 1) := by decide +kernel
theorem dL_law_742 : decode cL_law 742 = .ok (.iaload, 1) := by decide +kernel
theorem dL_law_743 : decode cL_law 743 = .ok (.aload_n 0, 1) := by decide +kernel
theorem dL_law_744 : decode cL_law 744 = .ok (.iload_n 3, 1) := by decide +kernel
theorem dL_law_745 : decode cL_law 745 = .ok (.iconst 2, 1) := by decide +kernel
theorem dL_law_746 : decode cL_law 746 = .ok (.iadd, 1) := by decide +kernel
theorem dL_law_747 : decode cL_law 747 = .ok (.iaload, 1) := by decide +kernel
theorem dL_law_748 : decode cL_law 748 = .ok (.invokevirtual 72, 3) := by decide +kernel
theorem dL_law_751 : decode cL_law 751 = .ok (.if_icmp .eq 792, 3) := by decide +kernel
theorem dL_law_754 : decode cL_law 754 = .ok (.iconst 0, 1) := by decide +kernel
theorem dL_law_755 : decode cL_law 755 = .ok (.ireturn, 1) := by decide +kernel
theorem dL_law_756 : decode cL_law 756 = .ok (.aload_n 1, 1) := by decide +kernel
theorem dL_law_757 : decode cL_law 757 = .ok (.aload_n 0, 1) := by decide +kernel
theorem dL_law_758 : decode cL_law 758 = .ok (.iload_n 3, 1) := by decide +kernel
theorem dL_law_759 : decode cL_law 759 = .ok (.iconst 1, 1) := by decide +kernel
theorem dL_law_760 : decode cL_law 760 = .ok (.iadd, 1) := by decide +kernel
theorem dL_law_761 : decode cL_law 761 = .ok (.iaload, 1) := by decide +kernel
theorem dL_law_762 : decode cL_law 762 = .ok (.invokevirtual 73, 3) := by decide +kernel
theorem dL_law_765 : decode cL_law 765 = .ok (.aload_n 2, 1) := by decide +kernel
theorem dL_law_766 : decode cL_law 766 = .ok (.aload_n 0, 1) := by decide +kernel
theorem dL_law_767 : decode cL_law 767 = .ok (.iload_n 3, 1) := by decide +kernel
theorem dL_law_768 : decode cL_law 768 = .ok (.iconst 1, 1) := by decide +kernel
theorem dL_law_769 : decode cL_law 769 = .ok (.iadd, 1) := by decide +kernel
theorem dL_law_770 : decode cL_law 770 = .ok (.iaload, 1) := by decide +kernel
theorem dL_law_771 : decode cL_law 771 = .ok (.invokevirtual 76, 3) := by decide +kernel
theorem dL_law_774 : decode cL_law 774 = .ok (.if_icmp .eq 769, 3) := by decide +kernel
theorem dL_law_777 : decode cL_law 777 = .ok (.iconst 0, 1) := by decide +kernel
theorem dL_law_778 : decode cL_law 778 = .ok (.ireturn, 1) := by decide +kernel
theorem dL_law_779 : decode cL_law 779 = .ok (.aload_n 1, 1) := by decide +kernel
theorem dL_law_780 : decode cL_law 780 = .ok (.invokevirtual 77, 3) := by decide +kernel
theorem dL_law_783 : decode cL_law 783 = .ok (.aload_n 2, 1) := by decide +kernel
theorem dL_law_784 : decode cL_law 784 = .ok (.invokevirtual 81, 3) := by decide +kernel
theorem dL_law_787 : decode cL_law 787 = .ok (.if_icmp .eq 756, 3) := by decide +kernel
theorem dL_law_790 : decode cL_law 790 = .ok (.iconst 0, 1) := by decide +kernel
theorem dL_law_791 : decode cL_law 791 = .ok (.ireturn, 1) := by decide +kernel
theorem dL_law_792 : decode cL_law 792 = .ok (.aload_n 1, 1) := by decide +kernel
theorem dL_law_793 : decode cL_law 793 = .ok (.aload_n 0, 1) := by decide +kernel
theorem dL_law_794 : decode cL_law 794 = .ok (.iload_n 3, 1) := by decide +kernel
theorem dL_law_795 : decode cL_law 795 = .ok (.iconst 1, 1) := by decide +kernel
theorem dL_law_796 : decode cL_law 796 = .ok (.iadd, 1) := by decide +kernel
theorem dL_law_797 : decode cL_law 797 = .ok (.iaload, 1) := by decide +kernel
theorem dL_law_798 : decode cL_law 798 = .ok (.aload_n 0, 1) := by decide +kernel
theorem dL_law_799 : decode cL_law 799 = .ok (.iload_n 3, 1) := by decide +kernel
theorem dL_law_800 : decode cL_law 800 = .ok (.iconst 2, 1) := by decide +kernel
theorem dL_law_801 : decode cL_law 801 = .ok (.iadd, 1) := by decide +kernel
theorem dL_law_802 : decode cL_law 802 = .ok (.iaload, 1) := by decide +kernel
theorem dL_law_803 : decode cL_law 803 = .ok (.aload_n 0, 1) := by decide +kernel
theorem dL_law_804 : decode cL_law 804 = .ok (.iload_n 3, 1) := by decide +kernel
theorem dL_law_805 : decode cL_law 805 = .ok (.iconst 3, 1) := by decide +kernel
theorem dL_law_806 : decode cL_law 806 = .ok (.iadd, 1) := by decide +kernel
theorem dL_law_807 : decode cL_law 807 = .ok (.iaload, 1) := by decide +kernel
theorem dL_law_808 : decode cL_law 808 = .ok (.invokevirtual 82, 3) := by decide +kernel
theorem dL_law_811 : decode cL_law 811 = .ok (.aload_n 2, 1) := by decide +kernel
theorem dL_law_812 : decode cL_law 812 = .ok (.aload_n 0, 1) := by decide +kernel
theorem dL_law_813 : decode cL_law 813 = .ok (.iload_n 3, 1) := by decide +kernel
theorem dL_law_814 : decode cL_law 814 = .ok (.iconst 1, 1) := by decide +kernel
theorem dL_law_815 : decode cL_law 815 = .ok (.iadd, 1) := by decide +kernel
theorem dL_law_816 : decode cL_law 816 = .ok (.iaload, 1) := by decide +kernel
theorem dL_law_817 : decode cL_law 817 = .ok (.aload_n 0, 1) := by decide +kernel
theorem dL_law_818 : decode cL_law 818 = .ok (.iload_n 3, 1) := by decide +kernel
theorem dL_law_819 : decode cL_law 819 = .ok (.iconst 2, 1) := by decide +kernel
theorem dL_law_820 : decode cL_law 820 = .ok (.iadd, 1) := by decide +kernel
theorem dL_law_821 : decode cL_law 821 = .ok (.iaload, 1) := by decide +kernel
theorem dL_law_822 : decode cL_law 822 = .ok (.aload_n 0, 1) := by decide +kernel
theorem dL_law_823 : decode cL_law 823 = .ok (.iload_n 3, 1) := by decide +kernel
theorem dL_law_824 : decode cL_law 824 = .ok (.iconst 3, 1) := by decide +kernel
theorem dL_law_825 : decode cL_law 825 = .ok (.iadd, 1) := by decide +kernel
theorem dL_law_826 : decode cL_law 826 = .ok (.iaload, 1) := by decide +kernel
theorem dL_law_827 : decode cL_law 827 = .ok (.invokevirtual 85, 3) := by decide +kernel
theorem dL_law_830 : decode cL_law 830 = .ok (.if_icmp .eq 713, 3) := by decide +kernel
theorem dL_law_833 : decode cL_law 833 = .ok (.iconst 0, 1) := by decide +kernel
theorem dL_law_834 : decode cL_law 834 = .ok (.ireturn, 1) := by decide +kernel
theorem dL_law_835 : decode cL_law 835 = .ok (.aload_n 1, 1) := by decide +kernel
theorem dL_law_836 : decode cL_law 836 = .ok (.aload_n 0, 1) := by decide +kernel
theorem dL_law_837 : decode cL_law 837 = .ok (.iload_n 3, 1) := by decide +kernel
theorem dL_law_838 : decode cL_law 838 = .ok (.iconst 1, 1) := by decide +kernel
theorem dL_law_839 : decode cL_law 839 = .ok (.iadd, 1) := by decide +kernel
theorem dL_law_840 : decode cL_law 840 = .ok (.iaload, 1) := by decide +kernel
theorem dL_law_841 : decode cL_law 841 = .ok (.aload_n 0, 1) := by decide +kernel
theorem dL_law_842 : decode cL_law 842 = .ok (.iload_n 3, 1) := by decide +kernel
theorem dL_law_843 : decode cL_law 843 = .ok (.iconst 2, 1) := by decide +kernel
theorem dL_law_844 : decode cL_law 844 = .ok (.iadd, 1) := by decide +kernel
theorem dL_law_845 : decode cL_law 845 = .ok (.iaload, 1) := by decide +kernel
theorem dL_law_846 : decode cL_law 846 = .ok (.invokevirtual 86, 3) := by decide +kernel
theorem dL_law_849 : decode cL_law 849 = .ok (.aload_n 2, 1) := by decide +kernel
theorem dL_law_850 : decode cL_law 850 = .ok (.aload_n 0, 1) := by decide +kernel
theorem dL_law_851 : decode cL_law 851 = .ok (.iload_n 3, 1) := by decide +kernel
theorem dL_law_852 : decode cL_law 852 = .ok (.iconst 1, 1) := by decide +kernel
theorem dL_law_853 : decode cL_law 853 = .ok (.iadd, 1) := by decide +kernel
theorem dL_law_854 : decode cL_law 854 = .ok (.iaload, 1) := by decide +kernel
theorem dL_law_855 : decode cL_law 855 = .ok (.aload_n 0, 1) := by decide +kernel
theorem dL_law_856 : decode cL_law 856 = .ok (.iload_n 3, 1) := by decide +kernel
theorem dL_law_857 : decode cL_law 857 = .ok (.iconst 2, 1) := by decide +kernel
theorem dL_law_858 : decode cL_law 858 = .ok (.iadd, 1) := by decide +kernel
theorem dL_law_859 : decode cL_law 859 = .ok (.iaload, 1) := by decide +kernel
theorem dL_law_860 : decode cL_law 860 = .ok (.invokevirtual 89, 3) := by decide +kernel
theorem dL_law_863 : decode cL_law 863 = .ok (.if_icmp .eq 680, 3) := by decide +kernel
theorem dL_law_866 : decode cL_law 866 = .ok (.iconst 0, 1) := by decide +kernel
theorem dL_law_867 : decode cL_law 867 = .ok (.ireturn, 1) := by decide +kernel
theorem dL_law_868 : decode cL_law 868 = .ok (.aload_n 1, 1) := by decide +kernel
theorem dL_law_869 : decode cL_law 869 = .ok (.aload_n 0, 1) := by decide +kernel
theorem dL_law_870 : decode cL_law 870 = .ok (.iload_n 3, 1) := by decide +kernel
theorem dL_law_871 : decode cL_law 871 = .ok (.iconst 1, 1) := by decide +kernel
theorem dL_law_872 : decode cL_law 872 = .ok (.iadd, 1) := by decide +kernel
theorem dL_law_873 : decode cL_law 873 = .ok (.iaload, 1) := by decide +kernel
theorem dL_law_874 : decode cL_law 874 = .ok (.aload_n 0, 1) := by decide +kernel
theorem dL_law_875 : decode cL_law 875 = .ok (.iload_n 3, 1) := by decide +kernel
theorem dL_law_876 : decode cL_law 876 = .ok (.iconst 2, 1) := by decide +kernel
theorem dL_law_877 : decode cL_law 877 = .ok (.iadd, 1) := by decide +kernel
theorem dL_law_878 : decode cL_law 878 = .ok (.iaload, 1) := by decide +kernel
theorem dL_law_879 : decode cL_law 879 = .ok (.aload_n 0, 1) := by decide +kernel
theorem dL_law_880 : decode cL_law 880 = .ok (.iload_n 3, 1) := by decide +kernel
theorem dL_law_881 : decode cL_law 881 = .ok (.iconst 3, 1) := by decide +kernel
theorem dL_law_882 : decode cL_law 882 = .ok (.iadd, 1) := by decide +kernel
theorem dL_law_883 : decode cL_law 883 = .ok (.iaload, 1) := by decide +kernel
theorem dL_law_884 : decode cL_law 884 = .ok (.invokevirtual 90, 3) := by decide +kernel
theorem dL_law_887 : decode cL_law 887 = .ok (.aload_n 2, 1) := by decide +kernel
theorem dL_law_888 : decode cL_law 888 = .ok (.aload_n 0, 1) := by decide +kernel
theorem dL_law_889 : decode cL_law 889 = .ok (.iload_n 3, 1) := by decide +kernel
theorem dL_law_890 : decode cL_law 890 = .ok (.iconst 1, 1) := by decide +kernel
theorem dL_law_891 : decode cL_law 891 = .ok (.iadd, 1) := by decide +kernel
theorem dL_law_892 : decode cL_law 892 = .ok (.iaload, 1) := by decide +kernel
theorem dL_law_893 : decode cL_law 893 = .ok (.aload_n 0, 1) := by decide +kernel
theorem dL_law_894 : decode cL_law 894 = .ok (.iload_n 3, 1) := by decide +kernel
theorem dL_law_895 : decode cL_law 895 = .ok (.iconst 2, 1) := by decide +kernel
theorem dL_law_896 : decode cL_law 896 = .ok (.iadd, 1) := by decide +kernel
theorem dL_law_897 : decode cL_law 897 = .ok (.iaload, 1) := by decide +kernel
theorem dL_law_898 : decode cL_law 898 = .ok (.aload_n 0, 1) := by decide +kernel
theorem dL_law_899 : decode cL_law 899 = .ok (.iload_n 3, 1) := by decide +kernel
theorem dL_law_900 : decode cL_law 900 = .ok (.iconst 3, 1) := by decide +kernel
theorem dL_law_901 : decode cL_law 901 = .ok (.iadd, 1) := by decide +kernel
theorem dL_law_902 : decode cL_law 902 = .ok (.iaload, 1) := by decide +kernel
theorem dL_law_903 : decode cL_law 903 = .ok (.invokevirtual 93, 3) := by decide +kernel
theorem dL_law_906 : decode cL_law 906 = .ok (.if_icmp .eq 637, 3) := by decide +kernel
theorem dL_law_909 : decode cL_law 909 = .ok (.iconst 0, 1) := by decide +kernel
theorem dL_law_910 : decode cL_law 910 = .ok (.ireturn, 1) := by decide +kernel
theorem dL_law_911 : decode cL_law 911 = .ok (.aload_n 1, 1) := by decide +kernel
theorem dL_law_912 : decode cL_law 912 = .ok (.invokevirtual 94, 3) := by decide +kernel
theorem dL_law_915 : decode cL_law 915 = .ok (.aload_n 2, 1) := by decide +kernel
theorem dL_law_916 : decode cL_law 916 = .ok (.invokevirtual 97, 3) := by decide +kernel
theorem dL_law_919 : decode cL_law 919 = .ok (.if_icmp .eq 624, 3) := by decide +kernel
theorem dL_law_922 : decode cL_law 922 = .ok (.iconst 0, 1) := by decide +kernel
theorem dL_law_923 : decode cL_law 923 = .ok (.ireturn, 1) := by decide +kernel
theorem dL_law_924 : decode cL_law 924 = .ok (.aload_n 1, 1) := by decide +kernel
theorem dL_law_925 : decode cL_law 925 = .ok (.aload_n 0, 1) := by decide +kernel
theorem dL_law_926 : decode cL_law 926 = .ok (.iload_n 3, 1) := by decide +kernel
theorem dL_law_927 : decode cL_law 927 = .ok (.iconst 1, 1) := by decide +kernel
theorem dL_law_928 : decode cL_law 928 = .ok (.iadd, 1) := by decide +kernel
theorem dL_law_929 : decode cL_law 929 = .ok (.iaload, 1) := by decide +kernel
theorem dL_law_930 : decode cL_law 930 = .ok (.aload_n 0, 1) := by decide +kernel
theorem dL_law_931 : decode cL_law 931 = .ok (.iload_n 3, 1) := by decide +kernel
theorem dL_law_932 : decode cL_law 932 = .ok (.iconst 2, 1) := by decide +kernel
theorem dL_law_933 : decode cL_law 933 = .ok (.iadd, 1) := by decide +kernel
theorem dL_law_934 : decode cL_law 934 = .ok (.iaload, 1) := by decide +kernel
theorem dL_law_935 : decode cL_law 935 = .ok (.invokevirtual 98, 3) := by decide +kernel
theorem dL_law_938 : decode cL_law 938 = .ok (.aload_n 2, 1) := by decide +kernel
theorem dL_law_939 : decode cL_law 939 = .ok (.aload_n 0, 1) := by decide +kernel
theorem dL_law_940 : decode cL_law 940 = .ok (.iload_n 3, 1) := by decide +kernel
theorem dL_law_941 : decode cL_law 941 = .ok (.iconst 1, 1) := by decide +kernel
theorem dL_law_942 : decode cL_law 942 = .ok (.iadd, 1) := by decide +kernel
theorem dL_law_943 : decode cL_law 943 = .ok (.iaload, 1) := by decide +kernel
theorem dL_law_944 : decode cL_law 944 = .ok (.aload_n 0, 1) := by decide +kernel
theorem dL_law_945 : decode cL_law 945 = .ok (.iload_n 3, 1) := by decide +kernel
theorem dL_law_946 : decode cL_law 946 = .ok (.iconst 2, 1) := by decide +kernel
theorem dL_law_947 : decode cL_law 947 = .ok (.iadd, 1) := by decide +kernel
theorem dL_law_948 : decode cL_law 948 = .ok (.iaload, 1) := by decide +kernel
theorem dL_law_949 : decode cL_law 949 = .ok (.invokevirtual 101, 3) := by decide +kernel
theorem dL_law_952 : decode cL_law 952 = .ok (.if_icmp .eq 591, 3) := by decide +kernel
theorem dL_law_955 : decode cL_law 955 = .ok (.iconst 0, 1) := by decide +kernel
theorem dL_law_956 : decode cL_law 956 = .ok (.ireturn, 1) := by decide +kernel
theorem dL_law_957 : decode cL_law 957 = .ok (.aload_n 1, 1) := by decide +kernel
theorem dL_law_958 : decode cL_law 958 = .ok (.invokevirtual 102, 3) := by decide +kernel
theorem dL_law_961 : decode cL_law 961 = .ok (.aload_n 2, 1) := by decide +kernel
theorem dL_law_962 : decode cL_law 962 = .ok (.invokevirtual 105, 3) := by decide +kernel
theorem dL_law_965 : decode cL_law 965 = .ok (.if_icmp .eq 578, 3) := by decide +kernel
theorem dL_law_968 : decode cL_law 968 = .ok (.iconst 0, 1) := by decide +kernel
theorem dL_law_969 : decode cL_law 969 = .ok (.ireturn, 1) := by decide +kernel
theorem dL_law_970 : decode cL_law 970 = .ok (.aload_n 1, 1) := by decide +kernel
theorem dL_law_971 : decode cL_law 971 = .ok (.aload_n 0, 1) := by decide +kernel
theorem dL_law_972 : decode cL_law 972 = .ok (.iload_n 3, 1) := by decide +kernel
theorem dL_law_973 : decode cL_law 973 = .ok (.iconst 1, 1) := by decide +kernel
theorem dL_law_974 : decode cL_law 974 = .ok (.iadd, 1) := by decide +kernel
theorem dL_law_975 : decode cL_law 975 = .ok (.iaload, 1) := by decide +kernel
theorem dL_law_976 : decode cL_law 976 = .ok (.aload_n 0, 1) := by decide +kernel
theorem dL_law_977 : decode cL_law 977 = .ok (.iload_n 3, 1) := by decide +kernel
theorem dL_law_978 : decode cL_law 978 = .ok (.iconst 2, 1) := by decide +kernel
theorem dL_law_979 : decode cL_law 979 = .ok (.iadd, 1) := by decide +kernel
theorem dL_law_980 : decode cL_law 980 = .ok (.iaload, 1) := by decide +kernel
theorem dL_law_981 : decode cL_law 981 = .ok (.invokevirtual 106, 3) := by decide +kernel
theorem dL_law_984 : decode cL_law 984 = .ok (.aload_n 2, 1) := by decide +kernel
theorem dL_law_985 : decode cL_law 985 = .ok (.aload_n 0, 1) := by decide +kernel
theorem dL_law_986 : decode cL_law 986 = .ok (.iload_n 3, 1) := by decide +kernel
theorem dL_law_987 : decode cL_law 987 = .ok (.iconst 1, 1) := by decide +kernel
theorem dL_law_988 : decode cL_law 988 = .ok (.iadd, 1) := by decide +kernel
theorem dL_law_989 : decode cL_law 989 = .ok (.iaload, 1) := by decide +kernel
theorem dL_law_990 : decode cL_law 990 = .ok (.aload_n 0, 1) := by decide +kernel
theorem dL_law_991 : decode cL_law 991 = .ok (.iload_n 3, 1) := by decide +kernel
theorem dL_law_992 : decode cL_law 992 = .ok (.iconst 2, 1) := by decide +kernel
theorem dL_law_993 : decode cL_law 993 = .ok (.iadd, 1) := by decide +kernel
theorem dL_law_994 : decode cL_law 994 = .ok (.iaload, 1) := by decide +kernel
theorem dL_law_995 : decode cL_law 995 = .ok (.invokevirtual 109, 3) := by decide +kernel
theorem dL_law_998 : decode cL_law 998 = .ok (.if_icmp .eq 545, 3) := by decide +kernel
theorem dL_law_1001 : decode cL_law 1001 = .ok (.iconst 0, 1) := by decide +kernel
theorem dL_law_1002 : decode cL_law 1002 = .ok (.ireturn, 1) := by decide +kernel
theorem dL_law_1003 : decode cL_law 1003 = .ok (.aload_n 1, 1) := by decide +kernel
theorem dL_law_1004 : decode cL_law 1004 = .ok (.aload_n 0, 1) := by decide +kernel
theorem dL_law_1005 : decode cL_law 1005 = .ok (.iload_n 3, 1) := by decide +kernel
theorem dL_law_1006 : decode cL_law 1006 = .ok (.iconst 1, 1) := by decide +kernel
theorem dL_law_1007 : decode cL_law 1007 = .ok (.iadd, 1) := by decide +kernel
theorem dL_law_1008 : decode cL_law 1008 = .ok (.iaload, 1) := by decide +kernel
theorem dL_law_1009 : decode cL_law 1009 = .ok (.aload_n 0, 1) := by decide +kernel
theorem dL_law_1010 : decode cL_law 1010 = .ok (.iload_n 3, 1) := by decide +kernel
theorem dL_law_1011 : decode cL_law 1011 = .ok (.iconst 2, 1) := by decide +kernel
theorem dL_law_1012 : decode cL_law 1012 = .ok (.iadd, 1) := by decide +kernel
theorem dL_law_1013 : decode cL_law 1013 = .ok (.iaload, 1) := by decide +kernel
theorem dL_law_1014 : decode cL_law 1014 = .ok (.invokevirtual 110, 3) := by decide +kernel
theorem dL_law_1017 : decode cL_law 1017 = .ok (.aload_n 2, 1) := by decide +kernel
theorem dL_law_1018 : decode cL_law 1018 = .ok (.aload_n 0, 1) := by decide +kernel
theorem dL_law_1019 : decode cL_law 1019 = .ok (.iload_n 3, 1) := by decide +kernel
theorem dL_law_1020 : decode cL_law 1020 = .ok (.iconst 1, 1) := by decide +kernel
theorem dL_law_1021 : decode cL_law 1021 = .ok (.iadd, 1) := by decide +kernel
theorem dL_law_1022 : decode cL_law 1022 = .ok (.iaload, 1) := by decide +kernel
theorem dL_law_1023 : decode cL_law 1023 = .ok (.aload_n 0, 1) := by decide +kernel
theorem dL_law_1024 : decode cL_law 1024 = .ok (.iload_n 3, 1) := by decide +kernel
theorem dL_law_1025 : decode cL_law 1025 = .ok (.iconst 2, 1) := by decide +kernel
theorem dL_law_1026 : decode cL_law 1026 = .ok (.iadd, 1) := by decide +kernel
theorem dL_law_1027 : decode cL_law 1027 = .ok (.iaload, 1) := by decide +kernel
theorem dL_law_1028 : decode cL_law 1028 = .ok (.invokevirtual 113, 3) := by decide +kernel
theorem dL_law_1031 : decode cL_law 1031 = .ok (.if_icmp .eq 512, 3) := by decide +kernel
theorem dL_law_1034 : decode cL_law 1034 = .ok (.iconst 0, 1) := by decide +kernel
theorem dL_law_1035 : decode cL_law 1035 = .ok (.ireturn, 1) := by decide +kernel
theorem dL_law_1036 : decode cL_law 1036 = .ok (.aload_n 1, 1) := by decide +kernel
theorem dL_law_1037 : decode cL_law 1037 = .ok (.aload_n 0, 1) := by decide +kernel
theorem dL_law_1038 : decode cL_law 1038 = .ok (.iload_n 3, 1) := by decide +kernel
theorem dL_law_1039 : decode cL_law 1039 = .ok (.iconst 1, 1) := by decide +kernel
theorem dL_law_1040 : decode cL_law 1040 = .ok (.iadd, 1) := by decide +kernel
theorem dL_law_1041 : decode cL_law 1041 = .ok (.iaload, 1) := by decide +kernel
theorem dL_law_1042 : decode cL_law 1042 = .ok (.invokevirtual 114, 3) := by decide +kernel
theorem dL_law_1045 : decode cL_law 1045 = .ok (.aload_n 2, 1) := by decide +kernel
theorem dL_law_1046 : decode cL_law 1046 = .ok (.aload_n 0, 1) := by decide +kernel
theorem dL_law_1047 : decode cL_law 1047 = .ok (.iload_n 3, 1) := by decide +kernel
theorem dL_law_1048 : decode cL_law 1048 = .ok (.iconst 1, 1) := by decide +kernel
theorem dL_law_1049 : decode cL_law 1049 = .ok (.iadd, 1) := by decide +kernel
theorem dL_law_1050 : decode cL_law 1050 = .ok (.iaload, 1) := by decide +kernel
theorem dL_law_1051 : decode cL_law 1051 = .ok (.invokevirtual 117, 3) := by decide +kernel
theorem dL_law_1054 : decode cL_law 1054 = .ok (.if_icmp .eq 489, 3) := by decide +kernel
theorem dL_law_1057 : decode cL_law 1057 = .ok (.iconst 0, 1) := by decide +kernel
theorem dL_law_1058 : decode cL_law 1058 = .ok (.ireturn, 1) := by decide +kernel
theorem dL_law_1059 : decode cL_law 1059 = .ok (.aload_n 1, 1) := by decide +kernel
theorem dL_law_1060 : decode cL_law 1060 = .ok (.aload_n 0, 1) := by decide +kernel
theorem dL_law_1061 : decode cL_law 1061 = .ok (.iload_n 3, 1) := by decide +kernel
theorem dL_law_1062 : decode cL_law 1062 = .ok (.iconst 1, 1) := by decide +kernel
theorem dL_law_1063 : decode cL_law 1063 = .ok (.iadd, 1) := by decide +kernel
theorem dL_law_1064 : decode cL_law 1064 = .ok (.iaload, 1) := by decide +kernel
theorem dL_law_1065 : decode cL_law 1065 = .ok (.aload_n 0, 1) := by decide +kernel
theorem dL_law_1066 : decode cL_law 1066 = .ok (.iload_n 3, 1) := by decide +kernel
theorem dL_law_1067 : decode cL_law 1067 = .ok (.iconst 2, 1) := by decide +kernel
theorem dL_law_1068 : decode cL_law 1068 = .ok (.iadd, 1) := by decide +kernel
theorem dL_law_1069 : decode cL_law 1069 = .ok (.iaload, 1) := by decide +kernel
theorem dL_law_1070 : decode cL_law 1070 = .ok (.invokevirtual 118, 3) := by decide +kernel
theorem dL_law_1073 : decode cL_law 1073 = .ok (.aload_n 2, 1) := by decide +kernel
theorem dL_law_1074 : decode cL_law 1074 = .ok (.aload_n 0, 1) := by decide +kernel
theorem dL_law_1075 : decode cL_law 1075 = .ok (.iload_n 3, 1) := by decide +kernel
theorem dL_law_1076 : decode cL_law 1076 = .ok (.iconst 1, 1) := by decide +kernel
theorem dL_law_1077 : decode cL_law 1077 = .ok (.iadd, 1) := by decide +kernel
theorem dL_law_1078 : decode cL_law 1078 = .ok (.iaload, 1) := by decide +kernel
theorem dL_law_1079 : decode cL_law 1079 = .ok (.aload_n 0, 1) := by decide +kernel
theorem dL_law_1080 : decode cL_law 1080 = .ok (.iload_n 3, 1) := by decide +kernel
theorem dL_law_1081 : decode cL_law 1081 = .ok (.iconst 2, 1) := by decide +kernel
theorem dL_law_1082 : decode cL_law 1082 = .ok (.iadd, 1) := by decide +kernel
theorem dL_law_1083 : decode cL_law 1083 = .ok (.iaload, 1) := by decide +kernel
theorem dL_law_1084 : decode cL_law 1084 = .ok (.invokevirtual 121, 3) := by decide +kernel
theorem dL_law_1087 : decode cL_law 1087 = .ok (.if_icmp .eq 456, 3) := by decide +kernel
theorem dL_law_1090 : decode cL_law 1090 = .ok (.iconst 0, 1) := by decide +kernel
theorem dL_law_1091 : decode cL_law 1091 = .ok (.ireturn, 1) := by decide +kernel
theorem dL_law_1092 : decode cL_law 1092 = .ok (.aload_n 1, 1) := by decide +kernel
theorem dL_law_1093 : decode cL_law 1093 = .ok (.invokevirtual 122, 3) := by decide +kernel
theorem dL_law_1096 : decode cL_law 1096 = .ok (.aload_n 2, 1) := by decide +kernel
theorem dL_law_1097 : decode cL_law 1097 = .ok (.invokevirtual 125, 3) := by decide +kernel
theorem dL_law_1100 : decode cL_law 1100 = .ok (.if_icmp .eq 443, 3) := by decide +kernel
theorem dL_law_1103 : decode cL_law 1103 = .ok (.iconst 0, 1) := by decide +kernel
theorem dL_law_1104 : decode cL_law 1104 = .ok (.ireturn, 1) := by decide +kernel
theorem dL_law_1105 : decode cL_law 1105 = .ok (.aload_n 1, 1) := by decide +kernel
theorem dL_law_1106 : decode cL_law 1106 = .ok (.aload_n 0, 1) := by decide +kernel
theorem dL_law_1107 : decode cL_law 1107 = .ok (.iload_n 3, 1) := by decide +kernel
theorem dL_law_1108 : decode cL_law 1108 = .ok (.iconst 1, 1) := by decide +kernel
theorem dL_law_1109 : decode cL_law 1109 = .ok (.iadd, 1) := by decide +kernel
theorem dL_law_1110 : decode cL_law 1110 = .ok (.iaload, 1) := by decide +kernel
theorem dL_law_1111 : decode cL_law 1111 = .ok (.aload_n 0, 1) := by decide +kernel
theorem dL_law_1112 : decode cL_law 1112 = .ok (.iload_n 3, 1) := by decide +kernel
theorem dL_law_1113 : decode cL_law 1113 = .ok (.iconst 2, 1) := by decide +kernel
theorem dL_law_1114 : decode cL_law 1114 = .ok (.iadd, 1) := by decide +kernel
theorem dL_law_1115 : decode cL_law 1115 = .ok (.iaload, 1) := by decide +kernel
theorem dL_law_1116 : decode cL_law 1116 = .ok (.invokevirtual 126, 3) := by decide +kernel
theorem dL_law_1119 : decode cL_law 1119 = .ok (.aload_n 2, 1) := by decide +kernel
theorem dL_law_1120 : decode cL_law 1120 = .ok (.aload_n 0, 1) := by decide +kernel
theorem dL_law_1121 : decode cL_law 1121 = .ok (.iload_n 3, 1) := by decide +kernel
theorem dL_law_1122 : decode cL_law 1122 = .ok (.iconst 1, 1) := by decide +kernel
theorem dL_law_1123 : decode cL_law 1123 = .ok (.iadd, 1) := by decide +kernel
theorem dL_law_1124 : decode cL_law 1124 = .ok (.iaload, 1) := by decide +kernel
theorem dL_law_1125 : decode cL_law 1125 = .ok (.aload_n 0, 1) := by decide +kernel
theorem dL_law_1126 : decode cL_law 1126 = .ok (.iload_n 3, 1) := by decide +kernel
theorem dL_law_1127 : decode cL_law 1127 = .ok (.iconst 2, 1) := by decide +kernel
theorem dL_law_1128 : decode cL_law 1128 = .ok (.iadd, 1) := by decide +kernel
theorem dL_law_1129 : decode cL_law 1129 = .ok (.iaload, 1) := by decide +kernel
theorem dL_law_1130 : decode cL_law 1130 = .ok (.invokevirtual 129, 3) := by decide +kernel
theorem dL_law_1133 : decode cL_law 1133 = .ok (.if_icmp .eq 410, 3) := by decide +kernel
theorem dL_law_1136 : decode cL_law 1136 = .ok (.iconst 0, 1) := by decide +kernel
theorem dL_law_1137 : decode cL_law 1137 = .ok (.ireturn, 1) := by decide +kernel
theorem dL_law_1138 : decode cL_law 1138 = .ok (.aload_n 1, 1) := by decide +kernel
theorem dL_law_1139 : decode cL_law 1139 = .ok (.aload_n 0, 1) := by decide +kernel
theorem dL_law_1140 : decode cL_law 1140 = .ok (.iload_n 3, 1) := by decide +kernel
theorem dL_law_1141 : decode cL_law 1141 = .ok (.iconst 1, 1) := by decide +kernel
theorem dL_law_1142 : decode cL_law 1142 = .ok (.iadd, 1) := by decide +kernel
theorem dL_law_1143 : decode cL_law 1143 = .ok (.iaload, 1) := by decide +kernel
theorem dL_law_1144 : decode cL_law 1144 = .ok (.aload_n 0, 1) := by decide +kernel
theorem dL_law_1145 : decode cL_law 1145 = .ok (.iload_n 3, 1) := by decide +kernel
theorem dL_law_1146 : decode cL_law 1146 = .ok (.iconst 2, 1) := by decide +kernel
theorem dL_law_1147 : decode cL_law 1147 = .ok (.iadd, 1) := by decide +kernel
theorem dL_law_1148 : decode cL_law 1148 = .ok (.iaload, 1) := by decide +kernel
theorem dL_law_1149 : decode cL_law 1149 = .ok (.invokevirtual 130, 3) := by decide +kernel
theorem dL_law_1152 : decode cL_law 1152 = .ok (.aload_n 2, 1) := by decide +kernel
theorem dL_law_1153 : decode cL_law 1153 = .ok (.aload_n 0, 1) := by decide +kernel
theorem dL_law_1154 : decode cL_law 1154 = .ok (.iload_n 3, 1) := by decide +kernel
theorem dL_law_1155 : decode cL_law 1155 = .ok (.iconst 1, 1) := by decide +kernel
theorem dL_law_1156 : decode cL_law 1156 = .ok (.iadd, 1) := by decide +kernel
theorem dL_law_1157 : decode cL_law 1157 = .ok (.iaload, 1) := by decide +kernel
theorem dL_law_1158 : decode cL_law 1158 = .ok (.aload_n 0, 1) := by decide +kernel
theorem dL_law_1159 : decode cL_law 1159 = .ok (.iload_n 3, 1) := by decide +kernel
theorem dL_law_1160 : decode cL_law 1160 = .ok (.iconst 2, 1) := by decide +kernel
theorem dL_law_1161 : decode cL_law 1161 = .ok (.iadd, 1) := by decide +kernel
theorem dL_law_1162 : decode cL_law 1162 = .ok (.iaload, 1) := by decide +kernel
theorem dL_law_1163 : decode cL_law 1163 = .ok (.invokevirtual 133, 3) := by decide +kernel
theorem dL_law_1166 : decode cL_law 1166 = .ok (.if_icmp .eq 377, 3) := by decide +kernel
theorem dL_law_1169 : decode cL_law 1169 = .ok (.iconst 0, 1) := by decide +kernel
theorem dL_law_1170 : decode cL_law 1170 = .ok (.ireturn, 1) := by decide +kernel
theorem dL_law_1171 : decode cL_law 1171 = .ok (.aload_n 1, 1) := by decide +kernel
theorem dL_law_1172 : decode cL_law 1172 = .ok (.aload_n 0, 1) := by decide +kernel
theorem dL_law_1173 : decode cL_law 1173 = .ok (.iload_n 3, 1) := by decide +kernel
theorem dL_law_1174 : decode cL_law 1174 = .ok (.iconst 1, 1) := by decide +kernel
theorem dL_law_1175 : decode cL_law 1175 = .ok (.iadd, 1) := by decide +kernel
theorem dL_law_1176 : decode cL_law 1176 = .ok (.iaload, 1) := by decide +kernel
theorem dL_law_1177 : decode cL_law 1177 = .ok (.invokevirtual 134, 3) := by decide +kernel
theorem dL_law_1180 : decode cL_law 1180 = .ok (.aload_n 2, 1) := by decide +kernel
theorem dL_law_1181 : decode cL_law 1181 = .ok (.aload_n 0, 1) := by decide +kernel
theorem dL_law_1182 : decode cL_law 1182 = .ok (.iload_n 3, 1) := by decide +kernel
theorem dL_law_1183 : decode cL_law 1183 = .ok (.iconst 1, 1) := by decide +kernel
theorem dL_law_1184 : decode cL_law 1184 = .ok (.iadd, 1) := by decide +kernel
theorem dL_law_1185 : decode cL_law 1185 = .ok (.iaload, 1) := by decide +kernel
theorem dL_law_1186 : decode cL_law 1186 = .ok (.invokevirtual 137, 3) := by decide +kernel
theorem dL_law_1189 : decode cL_law 1189 = .ok (.if_icmp .eq 354, 3) := by decide +kernel
theorem dL_law_1192 : decode cL_law 1192 = .ok (.iconst 0, 1) := by decide +kernel
theorem dL_law_1193 : decode cL_law 1193 = .ok (.ireturn, 1) := by decide +kernel
theorem dL_law_1194 : decode cL_law 1194 = .ok (.aload_n 1, 1) := by decide +kernel
theorem dL_law_1195 : decode cL_law 1195 = .ok (.aload_n 0, 1) := by decide +kernel
theorem dL_law_1196 : decode cL_law 1196 = .ok (.iload_n 3, 1) := by decide +kernel
theorem dL_law_1197 : decode cL_law 1197 = .ok (.iconst 1, 1) := by decide +kernel
theorem dL_law_1198 : decode cL_law 1198 = .ok (.iadd, 1) := by decide +kernel
theorem dL_law_1199 : decode cL_law 1199 = .ok (.iaload, 1) := by decide +kernel
theorem dL_law_1200 : decode cL_law 1200 = .ok (.invokevirtual 138, 3) := by decide +kernel
theorem dL_law_1203 : decode cL_law 1203 = .ok (.aload_n 2, 1) := by decide +kernel
theorem dL_law_1204 : decode cL_law 1204 = .ok (.aload_n 0, 1) := by decide +kernel
theorem dL_law_1205 : decode cL_law 1205 = .ok (.iload_n 3, 1) := by decide +kernel
theorem dL_law_1206 : decode cL_law 1206 = .ok (.iconst 1, 1) := by decide +kernel
theorem dL_law_1207 : decode cL_law 1207 = .ok (.iadd, 1) := by decide +kernel
theorem dL_law_1208 : decode cL_law 1208 = .ok (.iaload, 1) := by decide +kernel
theorem dL_law_1209 : decode cL_law 1209 = .ok (.invokevirtual 141, 3) := by decide +kernel
theorem dL_law_1212 : decode cL_law 1212 = .ok (.if_icmp .eq 331, 3) := by decide +kernel
theorem dL_law_1215 : decode cL_law 1215 = .ok (.iconst 0, 1) := by decide +kernel
theorem dL_law_1216 : decode cL_law 1216 = .ok (.ireturn, 1) := by decide +kernel
theorem dL_law_1217 : decode cL_law 1217 = .ok (.aload_n 1, 1) := by decide +kernel
theorem dL_law_1218 : decode cL_law 1218 = .ok (.invokevirtual 142, 3) := by decide +kernel
theorem dL_law_1221 : decode cL_law 1221 = .ok (.aload_n 2, 1) := by decide +kernel
theorem dL_law_1222 : decode cL_law 1222 = .ok (.invokevirtual 145, 3) := by decide +kernel
theorem dL_law_1225 : decode cL_law 1225 = .ok (.if_icmp .eq 318, 3) := by decide +kernel
theorem dL_law_1228 : decode cL_law 1228 = .ok (.iconst 0, 1) := by decide +kernel
theorem dL_law_1229 : decode cL_law 1229 = .ok (.ireturn, 1) := by decide +kernel
theorem dL_law_1230 : decode cL_law 1230 = .ok (.aload_n 1, 1) := by decide +kernel
theorem dL_law_1231 : decode cL_law 1231 = .ok (.aload_n 0, 1) := by decide +kernel
theorem dL_law_1232 : decode cL_law 1232 = .ok (.iload_n 3, 1) := by decide +kernel
theorem dL_law_1233 : decode cL_law 1233 = .ok (.iconst 1, 1) := by decide +kernel
theorem dL_law_1234 : decode cL_law 1234 = .ok (.iadd, 1) := by decide +kernel
theorem dL_law_1235 : decode cL_law 1235 = .ok (.iaload, 1) := by decide +kernel
theorem dL_law_1236 : decode cL_law 1236 = .ok (.aload_n 0, 1) := by decide +kernel
theorem dL_law_1237 : decode cL_law 1237 = .ok (.iload_n 3, 1) := by decide +kernel
theorem dL_law_1238 : decode cL_law 1238 = .ok (.iconst 2, 1) := by decide +kernel
theorem dL_law_1239 : decode cL_law 1239 = .ok (.iadd, 1) := by decide +kernel
theorem dL_law_1240 : decode cL_law 1240 = .ok (.iaload, 1) := by decide +kernel
theorem dL_law_1241 : decode cL_law 1241 = .ok (.invokevirtual 146, 3) := by decide +kernel
theorem dL_law_1244 : decode cL_law 1244 = .ok (.aload_n 2, 1) := by decide +kernel
theorem dL_law_1245 : decode cL_law 1245 = .ok (.aload_n 0, 1) := by decide +kernel
theorem dL_law_1246 : decode cL_law 1246 = .ok (.iload_n 3, 1) := by decide +kernel
theorem dL_law_1247 : decode cL_law 1247 = .ok (.iconst 1, 1) := by decide +kernel
theorem dL_law_1248 : decode cL_law 1248 = .ok (.iadd, 1) := by decide +kernel
theorem dL_law_1249 : decode cL_law 1249 = .ok (.iaload, 1) := by decide +kernel
theorem dL_law_1250 : decode cL_law 1250 = .ok (.aload_n 0, 1) := by decide +kernel
theorem dL_law_1251 : decode cL_law 1251 = .ok (.iload_n 3, 1) := by decide +kernel
theorem dL_law_1252 : decode cL_law 1252 = .ok (.iconst 2, 1) := by decide +kernel
theorem dL_law_1253 : decode cL_law 1253 = .ok (.iadd, 1) := by decide +kernel
theorem dL_law_1254 : decode cL_law 1254 = .ok (.iaload, 1) := by decide +kernel
theorem dL_law_1255 : decode cL_law 1255 = .ok (.invokevirtual 149, 3) := by decide +kernel
theorem dL_law_1258 : decode cL_law 1258 = .ok (.if_icmp .eq 285, 3) := by decide +kernel
theorem dL_law_1261 : decode cL_law 1261 = .ok (.iconst 0, 1) := by decide +kernel
theorem dL_law_1262 : decode cL_law 1262 = .ok (.ireturn, 1) := by decide +kernel
theorem dL_law_1263 : decode cL_law 1263 = .ok (.aload_n 1, 1) := by decide +kernel
theorem dL_law_1264 : decode cL_law 1264 = .ok (.aload_n 0, 1) := by decide +kernel
theorem dL_law_1265 : decode cL_law 1265 = .ok (.iload_n 3, 1) := by decide +kernel
theorem dL_law_1266 : decode cL_law 1266 = .ok (.iconst 1, 1) := by decide +kernel
theorem dL_law_1267 : decode cL_law 1267 = .ok (.iadd, 1) := by decide +kernel
theorem dL_law_1268 : decode cL_law 1268 = .ok (.iaload, 1) := by decide +kernel
theorem dL_law_1269 : decode cL_law 1269 = .ok (.aload_n 0, 1) := by decide +kernel
theorem dL_law_1270 : decode cL_law 1270 = .ok (.iload_n 3, 1) := by decide +kernel
theorem dL_law_1271 : decode cL_law 1271 = .ok (.iconst 2, 1) := by decide +kernel
theorem dL_law_1272 : decode cL_law 1272 = .ok (.iadd, 1) := by decide +kernel
theorem dL_law_1273 : decode cL_law 1273 = .ok (.iaload, 1) := by decide +kernel
theorem dL_law_1274 : decode cL_law 1274 = .ok (.invokevirtual 150, 3) := by decide +kernel
theorem dL_law_1277 : decode cL_law 1277 = .ok (.aload_n 2, 1) := by decide +kernel
theorem dL_law_1278 : decode cL_law 1278 = .ok (.aload_n 0, 1) := by decide +kernel
theorem dL_law_1279 : decode cL_law 1279 = .ok (.iload_n 3, 1) := by decide +kernel
theorem dL_law_1280 : decode cL_law 1280 = .ok (.iconst 1, 1) := by decide +kernel
theorem dL_law_1281 : decode cL_law 1281 = .ok (.iadd, 1) := by decide +kernel
theorem dL_law_1282 : decode cL_law 1282 = .ok (.iaload, 1) := by decide +kernel
theorem dL_law_1283 : decode cL_law 1283 = .ok (.aload_n 0, 1) := by decide +kernel
theorem dL_law_1284 : decode cL_law 1284 = .ok (.iload_n 3, 1) := by decide +kernel
theorem dL_law_1285 : decode cL_law 1285 = .ok (.iconst 2, 1) := by decide +kernel
theorem dL_law_1286 : decode cL_law 1286 = .ok (.iadd, 1) := by decide +kernel
theorem dL_law_1287 : decode cL_law 1287 = .ok (.iaload, 1) := by decide +kernel
theorem dL_law_1288 : decode cL_law 1288 = .ok (.invokevirtual 153, 3) := by decide +kernel
theorem dL_law_1291 : decode cL_law 1291 = .ok (.if_icmp .eq 252, 3) := by decide +kernel
theorem dL_law_1294 : decode cL_law 1294 = .ok (.iconst 0, 1) := by decide +kernel
theorem dL_law_1295 : decode cL_law 1295 = .ok (.ireturn, 1) := by decide +kernel
theorem dL_law_1296 : decode cL_law 1296 = .ok (.aload_n 1, 1) := by decide +kernel
theorem dL_law_1297 : decode cL_law 1297 = .ok (.aload_n 0, 1) := by decide +kernel
theorem dL_law_1298 : decode cL_law 1298 = .ok (.iload_n 3, 1) := by decide +kernel
theorem dL_law_1299 : decode cL_law 1299 = .ok (.iconst 1, 1) := by decide +kernel
theorem dL_law_1300 : decode cL_law 1300 = .ok (.iadd, 1) := by decide +kernel
theorem dL_law_1301 : decode cL_law 1301 = .ok (.iaload, 1) := by decide +kernel
theorem dL_law_1302 : decode cL_law 1302 = .ok (.aload_n 0, 1) := by decide +kernel
theorem dL_law_1303 : decode cL_law 1303 = .ok (.iload_n 3, 1) := by decide +kernel
theorem dL_law_1304 : decode cL_law 1304 = .ok (.iconst 2, 1) := by decide +kernel
theorem dL_law_1305 : decode cL_law 1305 = .ok (.iadd, 1) := by decide +kernel
theorem dL_law_1306 : decode cL_law 1306 = .ok (.iaload, 1) := by decide +kernel
theorem dL_law_1307 : decode cL_law 1307 = .ok (.aload_n 0, 1) := by decide +kernel
theorem dL_law_1308 : decode cL_law 1308 = .ok (.iload_n 3, 1) := by decide +kernel
theorem dL_law_1309 : decode cL_law 1309 = .ok (.iconst 3, 1) := by decide +kernel
theorem dL_law_1310 : decode cL_law 1310 = .ok (.iadd, 1) := by decide +kernel
theorem dL_law_1311 : decode cL_law 1311 = .ok (.iaload, 1) := by decide +kernel
theorem dL_law_1312 : decode cL_law 1312 = .ok (.invokevirtual 154, 3) := by decide +kernel
theorem dL_law_1315 : decode cL_law 1315 = .ok (.aload_n 2, 1) := by decide +kernel
theorem dL_law_1316 : decode cL_law 1316 = .ok (.aload_n 0, 1) := by decide +kernel
theorem dL_law_1317 : decode cL_law 1317 = .ok (.iload_n 3, 1) := by decide +kernel
theorem dL_law_1318 : decode cL_law 1318 = .ok (.iconst 1, 1) := by decide +kernel
theorem dL_law_1319 : decode cL_law 1319 = .ok (.iadd, 1) := by decide +kernel
theorem dL_law_1320 : decode cL_law 1320 = .ok (.iaload, 1) := by decide +kernel
theorem dL_law_1321 : decode cL_law 1321 = .ok (.aload_n 0, 1) := by decide +kernel
theorem dL_law_1322 : decode cL_law 1322 = .ok (.iload_n 3, 1) := by decide +kernel
theorem dL_law_1323 : decode cL_law 1323 = .ok (.iconst 2, 1) := by decide +kernel
theorem dL_law_1324 : decode cL_law 1324 = .ok (.iadd, 1) := by decide +kernel
theorem dL_law_1325 : decode cL_law 1325 = .ok (.iaload, 1) := by decide +kernel
theorem dL_law_1326 : decode cL_law 1326 = .ok (.aload_n 0, 1) := by decide +kernel
theorem dL_law_1327 : decode cL_law 1327 = .ok (.iload_n 3, 1) := by decide +kernel
theorem dL_law_1328 : decode cL_law 1328 = .ok (.iconst 3, 1) := by decide +kernel
theorem dL_law_1329 : decode cL_law 1329 = .ok (.iadd, 1) := by decide +kernel
theorem dL_law_1330 : decode cL_law 1330 = .ok (.iaload, 1) := by decide +kernel
theorem dL_law_1331 : decode cL_law 1331 = .ok (.invokevirtual 157, 3) := by decide +kernel
theorem dL_law_1334 : decode cL_law 1334 = .ok (.if_icmp .eq 209, 3) := by decide +kernel
theorem dL_law_1337 : decode cL_law 1337 = .ok (.iconst 0, 1) := by decide +kernel
theorem dL_law_1338 : decode cL_law 1338 = .ok (.ireturn, 1) := by decide +kernel
theorem dL_law_1339 : decode cL_law 1339 = .ok (.aload_n 1, 1) := by decide +kernel
theorem dL_law_1340 : decode cL_law 1340 = .ok (.aload_n 0, 1) := by decide +kernel
theorem dL_law_1341 : decode cL_law 1341 = .ok (.iload_n 3, 1) := by decide +kernel
theorem dL_law_1342 : decode cL_law 1342 = .ok (.iconst 1, 1) := by decide +kernel
theorem dL_law_1343 : decode cL_law 1343 = .ok (.iadd, 1) := by decide +kernel
theorem dL_law_1344 : decode cL_law 1344 = .ok (.iaload, 1) := by decide +kernel
theorem dL_law_1345 : decode cL_law 1345 = .ok (.aload_n 0, 1) := by decide +kernel
theorem dL_law_1346 : decode cL_law 1346 = .ok (.iload_n 3, 1) := by decide +kernel
theorem dL_law_1347 : decode cL_law 1347 = .ok (.iconst 2, 1) := by decide +kernel
theorem dL_law_1348 : decode cL_law 1348 = .ok (.iadd, 1) := by decide +kernel
theorem dL_law_1349 : decode cL_law 1349 = .ok (.iaload, 1) := by decide +kernel
theorem dL_law_1350 : decode cL_law 1350 = .ok (.aload_n 0, 1) := by decide +kernel
theorem dL_law_1351 : decode cL_law 1351 = .ok (.iload_n 3, 1) := by decide +kernel
theorem dL_law_1352 : decode cL_law 1352 = .ok (.iconst 3, 1) := by decide +kernel
theorem dL_law_1353 : decode cL_law 1353 = .ok (.iadd, 1) := by decide +kernel
theorem dL_law_1354 : decode cL_law 1354 = .ok (.iaload, 1) := by decide +kernel
theorem dL_law_1355 : decode cL_law 1355 = .ok (.invokevirtual 158, 3) := by decide +kernel
theorem dL_law_1358 : decode cL_law 1358 = .ok (.aload_n 2, 1) := by decide +kernel
theorem dL_law_1359 : decode cL_law 1359 = .ok (.aload_n 0, 1) := by decide +kernel
theorem dL_law_1360 : decode cL_law 1360 = .ok (.iload_n 3, 1) := by decide +kernel
theorem dL_law_1361 : decode cL_law 1361 = .ok (.iconst 1, 1) := by decide +kernel
theorem dL_law_1362 : decode cL_law 1362 = .ok (.iadd, 1) := by decide +kernel
theorem dL_law_1363 : decode cL_law 1363 = .ok (.iaload, 1) := by decide +kernel
theorem dL_law_1364 : decode cL_law 1364 = .ok (.aload_n 0, 1) := by decide +kernel
theorem dL_law_1365 : decode cL_law 1365 = .ok (.iload_n 3, 1) := by decide +kernel
theorem dL_law_1366 : decode cL_law 1366 = .ok (.iconst 2, 1) := by decide +kernel
theorem dL_law_1367 : decode cL_law 1367 = .ok (.iadd, 1) := by decide +kernel
theorem dL_law_1368 : decode cL_law 1368 = .ok (.iaload, 1) := by decide +kernel
theorem dL_law_1369 : decode cL_law 1369 = .ok (.aload_n 0, 1) := by decide +kernel
theorem dL_law_1370 : decode cL_law 1370 = .ok (.iload_n 3, 1) := by decide +kernel
theorem dL_law_1371 : decode cL_law 1371 = .ok (.iconst 3, 1) := by decide +kernel
theorem dL_law_1372 : decode cL_law 1372 = .ok (.iadd, 1) := by decide +kernel
theorem dL_law_1373 : decode cL_law 1373 = .ok (.iaload, 1) := by decide +kernel
theorem dL_law_1374 : decode cL_law 1374 = .ok (.invokevirtual 161, 3) := by decide +kernel
theorem dL_law_1377 : decode cL_law 1377 = .ok (.if_icmp .eq 166, 3) := by decide +kernel
theorem dL_law_1380 : decode cL_law 1380 = .ok (.iconst 0, 1) := by decide +kernel
theorem dL_law_1381 : decode cL_law 1381 = .ok (.ireturn, 1) := by decide +kernel
theorem dL_law_1382 : decode cL_law 1382 = .ok (.aload_n 1, 1) := by decide +kernel
theorem dL_law_1383 : decode cL_law 1383 = .ok (.aload_n 0, 1) := by decide +kernel
theorem dL_law_1384 : decode cL_law 1384 = .ok (.iload_n 3, 1) := by decide +kernel
theorem dL_law_1385 : decode cL_law 1385 = .ok (.iconst 1, 1) := by decide +kernel
theorem dL_law_1386 : decode cL_law 1386 = .ok (.iadd, 1) := by decide +kernel
theorem dL_law_1387 : decode cL_law 1387 = .ok (.iaload, 1) := by decide +kernel
theorem dL_law_1388 : decode cL_law 1388 = .ok (.invokevirtual 162, 3) := by decide +kernel
theorem dL_law_1391 : decode cL_law 1391 = .ok (.aload_n 2, 1) := by decide +kernel
theorem dL_law_1392 : decode cL_law 1392 = .ok (.aload_n 0, 1) := by decide +kernel
theorem dL_law_1393 : decode cL_law 1393 = .ok (.iload_n 3, 1) := by decide +kernel
theorem dL_law_1394 : decode cL_law 1394 = .ok (.iconst 1, 1) := by decide +kernel
theorem dL_law_1395 : decode cL_law 1395 = .ok (.iadd, 1) := by decide +kernel
theorem dL_law_1396 : decode cL_law 1396 = .ok (.iaload, 1) := by decide +kernel
theorem dL_law_1397 : decode cL_law 1397 = .ok (.invokevirtual 165, 3) := by decide +kernel
theorem dL_law_1400 : decode cL_law 1400 = .ok (.if_icmp .eq 143, 3) := by decide +kernel
theorem dL_law_1403 : decode cL_law 1403 = .ok (.iconst 0, 1) := by decide +kernel
theorem dL_law_1404 : decode cL_law 1404 = .ok (.ireturn, 1) := by decide +kernel
theorem dL_law_1405 : decode cL_law 1405 = .ok (.aload_n 1, 1) := by decide +kernel
theorem dL_law_1406 : decode cL_law 1406 = .ok (.aload_n 0, 1) := by decide +kernel
theorem dL_law_1407 : decode cL_law 1407 = .ok (.iload_n 3, 1) := by decide +kernel
theorem dL_law_1408 : decode cL_law 1408 = .ok (.iconst 1, 1) := by decide +kernel
theorem dL_law_1409 : decode cL_law 1409 = .ok (.iadd, 1) := by decide +kernel
theorem dL_law_1410 : decode cL_law 1410 = .ok (.iaload, 1) := by decide +kernel
theorem dL_law_1411 : decode cL_law 1411 = .ok (.invokevirtual 166, 3) := by decide +kernel
theorem dL_law_1414 : decode cL_law 1414 = .ok (.aload_n 2, 1) := by decide +kernel
theorem dL_law_1415 : decode cL_law 1415 = .ok (.aload_n 0, 1) := by decide +kernel
theorem dL_law_1416 : decode cL_law 1416 = .ok (.iload_n 3, 1) := by decide +kernel
theorem dL_law_1417 : decode cL_law 1417 = .ok (.iconst 1, 1) := by decide +kernel
theorem dL_law_1418 : decode cL_law 1418 = .ok (.iadd, 1) := by decide +kernel
theorem dL_law_1419 : decode cL_law 1419 = .ok (.iaload, 1) := by decide +kernel
theorem dL_law_1420 : decode cL_law 1420 = .ok (.invokevirtual 169, 3) := by decide +kernel
theorem dL_law_1423 : decode cL_law 1423 = .ok (.if_icmp .eq 120, 3) := by decide +kernel
theorem dL_law_1426 : decode cL_law 1426 = .ok (.iconst 0, 1) := by decide +kernel
theorem dL_law_1427 : decode cL_law 1427 = .ok (.ireturn, 1) := by decide +kernel
theorem dL_law_1428 : decode cL_law 1428 = .ok (.aload_n 1, 1) := by decide +kernel
theorem dL_law_1429 : decode cL_law 1429 = .ok (.aload_n 0, 1) := by decide +kernel
theorem dL_law_1430 : decode cL_law 1430 = .ok (.iload_n 3, 1) := by decide +kernel
theorem dL_law_1431 : decode cL_law 1431 = .ok (.iconst 1, 1) := by decide +kernel
theorem dL_law_1432 : decode cL_law 1432 = .ok (.iadd, 1) := by decide +kernel
theorem dL_law_1433 : decode cL_law 1433 = .ok (.iaload, 1) := by decide +kernel
theorem dL_law_1434 : decode cL_law 1434 = .ok (.aload_n 0, 1) := by decide +kernel
theorem dL_law_1435 : decode cL_law 1435 = .ok (.iload_n 3, 1) := by decide +kernel
theorem dL_law_1436 : decode cL_law 1436 = .ok (.iconst 2, 1) := by decide +kernel
theorem dL_law_1437 : decode cL_law 1437 = .ok (.iadd, 1) := by decide +kernel
theorem dL_law_1438 : decode cL_law 1438 = .ok (.iaload, 1) := by decide +kernel
theorem dL_law_1439 : decode cL_law 1439 = .ok (.aload_n 0, 1) := by decide +kernel
theorem dL_law_1440 : decode cL_law 1440 = .ok (.iload_n 3, 1) := by decide +kernel
theorem dL_law_1441 : decode cL_law 1441 = .ok (.iconst 3, 1) := by decide +kernel
theorem dL_law_1442 : decode cL_law 1442 = .ok (.iadd, 1) := by decide +kernel
theorem dL_law_1443 : decode cL_law 1443 = .ok (.iaload, 1) := by decide +kernel
theorem dL_law_1444 : decode cL_law 1444 = .ok (.invokevirtual 170, 3) := by decide +kernel
theorem dL_law_1447 : decode cL_law 1447 = .ok (.aload_n 2, 1) := by decide +kernel
theorem dL_law_1448 : decode cL_law 1448 = .ok (.aload_n 0, 1) := by decide +kernel
theorem dL_law_1449 : decode cL_law 1449 = .ok (.iload_n 3, 1) := by decide +kernel
theorem dL_law_1450 : decode cL_law 1450 = .ok (.iconst 1, 1) := by decide +kernel
theorem dL_law_1451 : decode cL_law 1451 = .ok (.iadd, 1) := by decide +kernel
theorem dL_law_1452 : decode cL_law 1452 = .ok (.iaload, 1) := by decide +kernel
theorem dL_law_1453 : decode cL_law 1453 = .ok (.aload_n 0, 1) := by decide +kernel
theorem dL_law_1454 : decode cL_law 1454 = .ok (.iload_n 3, 1) := by decide +kernel
theorem dL_law_1455 : decode cL_law 1455 = .ok (.iconst 2, 1) := by decide +kernel
theorem dL_law_1456 : decode cL_law 1456 = .ok (.iadd, 1) := by decide +kernel
theorem dL_law_1457 : decode cL_law 1457 = .ok (.iaload, 1) := by decide +kernel
theorem dL_law_1458 : decode cL_law 1458 = .ok (.aload_n 0, 1) := by decide +kernel
theorem dL_law_1459 : decode cL_law 1459 = .ok (.iload_n 3, 1) := by decide +kernel
theorem dL_law_1460 : decode cL_law 1460 = .ok (.iconst 3, 1) := by decide +kernel
theorem dL_law_1461 : decode cL_law 1461 = .ok (.iadd, 1) := by decide +kernel
theorem dL_law_1462 : decode cL_law 1462 = .ok (.iaload, 1) := by decide +kernel
theorem dL_law_1463 : decode cL_law 1463 = .ok (.invokevirtual 173, 3) := by decide +kernel
theorem dL_law_1466 : decode cL_law 1466 = .ok (.if_icmp .eq 77, 3) := by decide +kernel
theorem dL_law_1469 : decode cL_law 1469 = .ok (.iconst 0, 1) := by decide +kernel
theorem dL_law_1470 : decode cL_law 1470 = .ok (.ireturn, 1) := by decide +kernel
theorem dL_law_1471 : decode cL_law 1471 = .ok (.aload_n 1, 1) := by decide +kernel
theorem dL_law_1472 : decode cL_law 1472 = .ok (.aload_n 0, 1) := by decide +kernel
theorem dL_law_1473 : decode cL_law 1473 = .ok (.iload_n 3, 1) := by decide +kernel
theorem dL_law_1474 : decode cL_law 1474 = .ok (.iconst 1, 1) := by decide +kernel
theorem dL_law_1475 : decode cL_law 1475 = .ok (.iadd, 1) := by decide +kernel
theorem dL_law_1476 : decode cL_law 1476 = .ok (.iaload, 1) := by decide +kernel
theorem dL_law_1477 : decode cL_law 1477 = .ok (.invokevirtual 174, 3) := by decide +kernel
theorem dL_law_1480 : decode cL_law 1480 = .ok (.aload_n 2, 1) := by decide +kernel
theorem dL_law_1481 : decode cL_law 1481 = .ok (.aload_n 0, 1) := by decide +kernel
theorem dL_law_1482 : decode cL_law 1482 = .ok (.iload_n 3, 1) := by decide +kernel
theorem dL_law_1483 : decode cL_law 1483 = .ok (.iconst 1, 1) := by decide +kernel
theorem dL_law_1484 : decode cL_law 1484 = .ok (.iadd, 1) := by decide +kernel
theorem dL_law_1485 : decode cL_law 1485 = .ok (.iaload, 1) := by decide +kernel
theorem dL_law_1486 : decode cL_law 1486 = .ok (.invokevirtual 177, 3) := by decide +kernel
theorem dL_law_1489 : decode cL_law 1489 = .ok (.if_icmp .eq 54, 3) := by decide +kernel
theorem dL_law_1492 : decode cL_law 1492 = .ok (.iconst 0, 1) := by decide +kernel
theorem dL_law_1493 : decode cL_law 1493 = .ok (.ireturn, 1) := by decide +kernel
theorem dL_law_1494 : decode cL_law 1494 = .ok (.aload_n 1, 1) := by decide +kernel
theorem dL_law_1495 : decode cL_law 1495 = .ok (.invokevirtual 178, 3) := by decide +kernel
theorem dL_law_1498 : decode cL_law 1498 = .ok (.aload_n 2, 1) := by decide +kernel
theorem dL_law_1499 : decode cL_law 1499 = .ok (.invokevirtual 181, 3) := by decide +kernel
theorem dL_law_1502 : decode cL_law 1502 = .ok (.if_icmp .eq 41, 3) := by decide +kernel
theorem dL_law_1505 : decode cL_law 1505 = .ok (.iconst 0, 1) := by decide +kernel
theorem dL_law_1506 : decode cL_law 1506 = .ok (.ireturn, 1) := by decide +kernel
theorem dL_law_1507 : decode cL_law 1507 = .ok (.aload_n 1, 1) := by decide +kernel
theorem dL_law_1508 : decode cL_law 1508 = .ok (.invokevirtual 182, 3) := by decide +kernel
theorem dL_law_1511 : decode cL_law 1511 = .ok (.aload_n 2, 1) := by decide +kernel
theorem dL_law_1512 : decode cL_law 1512 = .ok (.invokevirtual 185, 3) := by decide +kernel
theorem dL_law_1515 : decode cL_law 1515 = .ok (.if_icmp .eq 28, 3) := by decide +kernel
theorem dL_law_1518 : decode cL_law 1518 = .ok (.iconst 0, 1) := by decide +kernel
theorem dL_law_1519 : decode cL_law 1519 = .ok (.ireturn, 1) := by decide +kernel
theorem dL_law_1520 : decode cL_law 1520 = .ok (.aload_n 1, 1) := by decide +kernel
theorem dL_law_1521 : decode cL_law 1521 = .ok (.aload_n 0, 1) := by decide +kernel
theorem dL_law_1522 : decode cL_law 1522 = .ok (.iload_n 3, 1) := by decide +kernel
theorem dL_law_1523 : decode cL_law 1523 = .ok (.iconst 1, 1) := by decide +kernel
theorem dL_law_1524 : decode cL_law 1524 = .ok (.iadd, 1) := by decide +kernel
theorem dL_law_1525 : decode cL_law 1525 = .ok (.iaload, 1) := by decide +kernel
theorem dL_law_1526 : decode cL_law 1526 = .ok (.invokevirtual 186, 3) := by decide +kernel
theorem dL_law_1529 : decode cL_law 1529 = .ok (.aload_n 2, 1) := by decide +kernel
theorem dL_law_1530 : decode cL_law 1530 = .ok (.aload_n 0, 1) := by decide +kernel
theorem dL_law_1531 : decode cL_law 1531 = .ok (.iload_n 3, 1) := by decide +kernel
theorem dL_law_1532 : decode cL_law 1532 = .ok (.iconst 1, 1) := by decide +kernel
theorem dL_law_1533 : decode cL_law 1533 = .ok (.iadd, 1) := by decide +kernel
theorem dL_law_1534 : decode cL_law 1534 = .ok (.iaload, 1) := by decide +kernel
theorem dL_law_1535 : decode cL_law 1535 = .ok (.invokevirtual 189, 3) := by decide +kernel
theorem dL_law_1538 : decode cL_law 1538 = .ok (.if_icmp .eq 5, 3) := by decide +kernel
theorem dL_law_1541 : decode cL_law 1541 = .ok (.iconst 0, 1) := by decide +kernel
theorem dL_law_1542 : decode cL_law 1542 = .ok (.ireturn, 1) := by decide +kernel
theorem dL_law_1543 : decode cL_law 1543 = .ok (.iinc 3 6, 3) := by decide +kernel
theorem dL_law_1546 : decode cL_law 1546 = .ok (.goto (-1528), 3) := by decide +kernel
theorem dL_law_1549 : decode cL_law 1549 = .ok (.iconst 1, 1) := by decide +kernel
theorem dL_law_1550 : decode cL_law 1550 = .ok (.ireturn, 1) := by decide +kernel
end
