/-- the tables' words that hold of warmer tables too: the words of every contract -/
def big : List Cond := lw_tbl.filter goodWord
theorem big_in : ∀ w ∈ big, w ∈ lw_tbl := fun w h => (List.mem_filter.mp h).1
theorem big_good : GoodIn big big := fun w h => ⟨h, good_of_word (List.mem_filter.mp h).2⟩
theorem big_0 {w : Cond} (h : w ∈ k2_sels lw_privs) (g : goodWord w = true) : w ∈ big := List.mem_filter.mpr ⟨List.mem_append_left _ h, g⟩
theorem big_1 {w : Cond} (h : w ∈ tables_1_1) (g : goodWord w = true) : w ∈ big := List.mem_filter.mpr ⟨List.mem_append_right _ (List.mem_append_left _ h), g⟩
theorem big_2 {w : Cond} (h : w ∈ tables_1_2) (g : goodWord w = true) : w ∈ big := List.mem_filter.mpr ⟨List.mem_append_right _ (List.mem_append_right _ (List.mem_append_left _ h)), g⟩
theorem big_3 {w : Cond} (h : w ∈ tables_1_3) (g : goodWord w = true) : w ∈ big := List.mem_filter.mpr ⟨List.mem_append_right _ (List.mem_append_right _ (List.mem_append_right _ (List.mem_append_left _ h))), g⟩
theorem big_4 {w : Cond} (h : w ∈ tables_1_4) (g : goodWord w = true) : w ∈ big := List.mem_filter.mpr ⟨List.mem_append_right _ (List.mem_append_right _ (List.mem_append_right _ (List.mem_append_right _ (List.mem_append_left _ h)))), g⟩
theorem big_5 {w : Cond} (h : w ∈ tables_1_5) (g : goodWord w = true) : w ∈ big := List.mem_filter.mpr ⟨List.mem_append_right _ (List.mem_append_right _ (List.mem_append_right _ (List.mem_append_right _ (List.mem_append_right _ (List.mem_append_left _ h))))), g⟩
theorem big_6 {w : Cond} (h : w ∈ tables_1_6) (g : goodWord w = true) : w ∈ big := List.mem_filter.mpr ⟨List.mem_append_right _ (List.mem_append_right _ (List.mem_append_right _ (List.mem_append_right _ (List.mem_append_right _ (List.mem_append_right _ (h)))))), g⟩
theorem me_X6_refuse : Cond.selects RX6 yX6_refuse yX6_refuse ∈ big := big_0 (List.mem_of_getElem? (i := 0) rfl) rfl
theorem me_X2_holdsQuestion : Cond.selects RX2 yX2_holdsQuestion yX2_holdsQuestion ∈ big := big_0 (List.mem_of_getElem? (i := 1) rfl) rfl
theorem me_X2_holdsRow : Cond.selects RX2 yX2_holdsRow yX2_holdsRow ∈ big := big_0 (List.mem_of_getElem? (i := 2) rfl) rfl
theorem me_X6_refuseFarBelow : Cond.selects RX6 yX6_refuseFarBelow yX6_refuseFarBelow ∈ big := big_0 (List.mem_of_getElem? (i := 3) rfl) rfl
theorem me_X4_readItem : Cond.selects RX4 yX4_readItem yX4_readItem ∈ big := big_0 (List.mem_of_getElem? (i := 4) rfl) rfl
theorem me_X4_letterHere : Cond.selects RX4 yX4_letterHere yX4_letterHere ∈ big := big_0 (List.mem_of_getElem? (i := 5) rfl) rfl
theorem me_X4_readGroup : Cond.selects RX4 yX4_readGroup yX4_readGroup ∈ big := big_0 (List.mem_of_getElem? (i := 6) rfl) rfl
theorem me_X4_readWord : Cond.selects RX4 yX4_readWord yX4_readWord ∈ big := big_0 (List.mem_of_getElem? (i := 7) rfl) rfl
theorem me_X4_readLetter : Cond.selects RX4 yX4_readLetter yX4_readLetter ∈ big := big_0 (List.mem_of_getElem? (i := 8) rfl) rfl
theorem me_X4_faultAt : Cond.selects RX4 yX4_faultAt yX4_faultAt ∈ big := big_0 (List.mem_of_getElem? (i := 9) rfl) rfl
theorem me_X4_readNumber : Cond.selects RX4 yX4_readNumber yX4_readNumber ∈ big := big_0 (List.mem_of_getElem? (i := 10) rfl) rfl
theorem me_X4_readQuestion : Cond.selects RX4 yX4_readQuestion yX4_readQuestion ∈ big := big_0 (List.mem_of_getElem? (i := 11) rfl) rfl
theorem me_X4_readBearing : Cond.selects RX4 yX4_readBearing yX4_readBearing ∈ big := big_0 (List.mem_of_getElem? (i := 12) rfl) rfl
theorem me_X1_leastOf : Cond.selects RX1 yX1_leastOf yX1_leastOf ∈ big := big_0 (List.mem_of_getElem? (i := 13) rfl) rfl
theorem me_X1_leansWithFirst : Cond.selects RX1 yX1_leansWithFirst yX1_leansWithFirst ∈ big := big_0 (List.mem_of_getElem? (i := 14) rfl) rfl
theorem me_X1_firstOf : Cond.selects RX1 yX1_firstOf yX1_firstOf ∈ big := big_0 (List.mem_of_getElem? (i := 15) rfl) rfl
theorem me_X6_refuseBelowNone : Cond.selects RX6 yX6_refuseBelowNone yX6_refuseBelowNone ∈ big := big_0 (List.mem_of_getElem? (i := 16) rfl) rfl
theorem me_X6_refusalOfRound : Cond.selects RX6 yX6_refusalOfRound yX6_refusalOfRound ∈ big := big_0 (List.mem_of_getElem? (i := 17) rfl) rfl
theorem me_X6_wrongOfRound : Cond.selects RX6 yX6_wrongOfRound yX6_wrongOfRound ∈ big := big_0 (List.mem_of_getElem? (i := 18) rfl) rfl
theorem me_X6_leansOfRound : Cond.selects RX6 yX6_leansOfRound yX6_leansOfRound ∈ big := big_0 (List.mem_of_getElem? (i := 19) rfl) rfl
theorem me_X6_shareInRound : Cond.selects RX6 yX6_shareInRound yX6_shareInRound ∈ big := big_0 (List.mem_of_getElem? (i := 20) rfl) rfl
theorem me_X3_draw : Cond.selects RX3 yX3_draw yX3_draw ∈ big := big_0 (List.mem_of_getElem? (i := 21) rfl) rfl
theorem me_X0_asksFrom : Cond.selects RX0 yX0_asksFrom yX0_asksFrom ∈ big := big_0 (List.mem_of_getElem? (i := 22) rfl) rfl
theorem me_X0_begin : Cond.selects RX0 yX0_begin yX0_begin ∈ big := big_0 (List.mem_of_getElem? (i := 23) rfl) rfl
theorem me_X0_leansFrom : Cond.selects RX0 yX0_leansFrom yX0_leansFrom ∈ big := big_0 (List.mem_of_getElem? (i := 24) rfl) rfl
theorem me_X0_sumsFrom : Cond.selects RX0 yX0_sumsFrom yX0_sumsFrom ∈ big := big_0 (List.mem_of_getElem? (i := 25) rfl) rfl
theorem me_X7_no : Cond.selects RX7 yX7_no yX7_no ∈ big := big_0 (List.mem_of_getElem? (i := 26) rfl) rfl
theorem me_X7_noRow : Cond.selects RX7 yX7_noRow yX7_noRow ∈ big := big_0 (List.mem_of_getElem? (i := 27) rfl) rfl
theorem me_X7_isRow : Cond.selects RX7 yX7_isRow yX7_isRow ∈ big := big_0 (List.mem_of_getElem? (i := 28) rfl) rfl
theorem me_X7_isQuestion : Cond.selects RX7 yX7_isQuestion yX7_isQuestion ∈ big := big_0 (List.mem_of_getElem? (i := 29) rfl) rfl
theorem me_X7_shareOf : Cond.selects RX7 yX7_shareOf yX7_shareOf ∈ big := big_0 (List.mem_of_getElem? (i := 30) rfl) rfl
theorem me_X7_all : Cond.selects RX7 yX7_all yX7_all ∈ big := big_0 (List.mem_of_getElem? (i := 31) rfl) rfl
theorem me_X7_yesBy : Cond.selects RX7 yX7_yesBy yX7_yesBy ∈ big := big_0 (List.mem_of_getElem? (i := 32) rfl) rfl
theorem me_X7_yesOf : Cond.selects RX7 yX7_yesOf yX7_yesOf ∈ big := big_0 (List.mem_of_getElem? (i := 33) rfl) rfl
theorem me_X7_people : Cond.selects RX7 yX7_people yX7_people ∈ big := big_0 (List.mem_of_getElem? (i := 34) rfl) rfl
theorem me_X7_newQuestion : Cond.selects RX7 yX7_newQuestion yX7_newQuestion ∈ big := big_0 (List.mem_of_getElem? (i := 35) rfl) rfl
theorem me_X7_newGroup : Cond.selects RX7 yX7_newGroup yX7_newGroup ∈ big := big_0 (List.mem_of_getElem? (i := 36) rfl) rfl
theorem me_X7_noMuch : Cond.selects RX7 yX7_noMuch yX7_noMuch ∈ big := big_0 (List.mem_of_getElem? (i := 37) rfl) rfl
theorem me_X7_wrongOf : Cond.selects RX7 yX7_wrongOf yX7_wrongOf ∈ big := big_0 (List.mem_of_getElem? (i := 38) rfl) rfl
theorem me_X7_isGroup : Cond.selects RX7 yX7_isGroup yX7_isGroup ∈ big := big_0 (List.mem_of_getElem? (i := 39) rfl) rfl
theorem me_X7_keep : Cond.selects RX7 yX7_keep yX7_keep ∈ big := big_0 (List.mem_of_getElem? (i := 40) rfl) rfl
theorem me_X7_item : Cond.selects RX7 yX7_item yX7_item ∈ big := big_0 (List.mem_of_getElem? (i := 41) rfl) rfl
theorem me_X7_sign : Cond.selects RX7 yX7_sign yX7_sign ∈ big := big_0 (List.mem_of_getElem? (i := 42) rfl) rfl
theorem me_X7_word_ : Cond.selects RX7 yX7_word_ yX7_word_ ∈ big := big_0 (List.mem_of_getElem? (i := 43) rfl) rfl
theorem me_X7_word : Cond.selects RX7 yX7_word yX7_word ∈ big := big_0 (List.mem_of_getElem? (i := 44) rfl) rfl
theorem me_X7_is : Cond.selects RX7 yX7_is yX7_is ∈ big := big_0 (List.mem_of_getElem? (i := 45) rfl) rfl
theorem me_X7_number : Cond.selects RX7 yX7_number yX7_number ∈ big := big_0 (List.mem_of_getElem? (i := 46) rfl) rfl
theorem me_X7_two : Cond.selects RX7 yX7_two yX7_two ∈ big := big_0 (List.mem_of_getElem? (i := 47) rfl) rfl
theorem me_X7_stands : Cond.selects RX7 yX7_stands yX7_stands ∈ big := big_0 (List.mem_of_getElem? (i := 48) rfl) rfl
theorem me_X7_again : Cond.selects RX7 yX7_again yX7_again ∈ big := big_0 (List.mem_of_getElem? (i := 49) rfl) rfl
theorem me_X7_answered : Cond.selects RX7 yX7_answered yX7_answered ∈ big := big_0 (List.mem_of_getElem? (i := 50) rfl) rfl
theorem me_X7_tries : Cond.selects RX7 yX7_tries yX7_tries ∈ big := big_0 (List.mem_of_getElem? (i := 51) rfl) rfl
theorem me_X7_shareOfAnswers : Cond.selects RX7 yX7_shareOfAnswers yX7_shareOfAnswers ∈ big := big_0 (List.mem_of_getElem? (i := 52) rfl) rfl
theorem me_X7_offBy : Cond.selects RX7 yX7_offBy yX7_offBy ∈ big := big_0 (List.mem_of_getElem? (i := 53) rfl) rfl
theorem me_X7_leansOf : Cond.selects RX7 yX7_leansOf yX7_leansOf ∈ big := big_0 (List.mem_of_getElem? (i := 54) rfl) rfl
theorem me_X7_shareIn : Cond.selects RX7 yX7_shareIn yX7_shareIn ∈ big := big_0 (List.mem_of_getElem? (i := 55) rfl) rfl
theorem me_X7_next : Cond.selects RX7 yX7_next yX7_next ∈ big := big_0 (List.mem_of_getElem? (i := 56) rfl) rfl
theorem me_X7_swap : Cond.selects RX7 yX7_swap yX7_swap ∈ big := big_0 (List.mem_of_getElem? (i := 57) rfl) rfl
theorem me_X7_no10 : Cond.selects RX7 yX7_no10 yX7_no10 ∈ big := big_0 (List.mem_of_getElem? (i := 58) rfl) rfl
theorem me_X7_costOf : Cond.selects RX7 yX7_costOf yX7_costOf ∈ big := big_0 (List.mem_of_getElem? (i := 59) rfl) rfl
theorem me_X7_answeredLate : Cond.selects RX7 yX7_answeredLate yX7_answeredLate ∈ big := big_0 (List.mem_of_getElem? (i := 60) rfl) rfl
theorem me_X7_shareOfHalf : Cond.selects RX7 yX7_shareOfHalf yX7_shareOfHalf ∈ big := big_0 (List.mem_of_getElem? (i := 61) rfl) rfl
theorem me_X7_shareMoved : Cond.selects RX7 yX7_shareMoved yX7_shareMoved ∈ big := big_0 (List.mem_of_getElem? (i := 62) rfl) rfl
theorem me_X7_noRound : Cond.selects RX7 yX7_noRound yX7_noRound ∈ big := big_0 (List.mem_of_getElem? (i := 63) rfl) rfl
theorem me_X7_wrong : Cond.selects RX7 yX7_wrong yX7_wrong ∈ big := big_0 (List.mem_of_getElem? (i := 64) rfl) rfl
theorem me_X7_told : Cond.selects RX7 yX7_told yX7_told ∈ big := big_0 (List.mem_of_getElem? (i := 65) rfl) rfl
theorem me_X7_draw : Cond.selects RX7 yX7_draw yX7_draw ∈ big := big_0 (List.mem_of_getElem? (i := 66) rfl) rfl
theorem me_X7_asksBy : Cond.selects RX7 yX7_asksBy yX7_asksBy ∈ big := big_0 (List.mem_of_getElem? (i := 67) rfl) rfl
theorem me_X7_ran : Cond.selects RX7 yX7_ran yX7_ran ∈ big := big_0 (List.mem_of_getElem? (i := 68) rfl) rfl
theorem me_X7_leansBy : Cond.selects RX7 yX7_leansBy yX7_leansBy ∈ big := big_0 (List.mem_of_getElem? (i := 69) rfl) rfl
theorem me_X7_sumsBy : Cond.selects RX7 yX7_sumsBy yX7_sumsBy ∈ big := big_0 (List.mem_of_getElem? (i := 70) rfl) rfl
theorem mt_L : Cond.initialized RL ∈ big := big_1 (List.mem_of_getElem? (i := 0) rfl) rfl
theorem mt_X6 : Cond.initialized RX6 ∈ big := big_1 (List.mem_of_getElem? (i := 1) rfl) rfl
theorem mt_X3 : Cond.initialized RX3 ∈ big := big_1 (List.mem_of_getElem? (i := 2) rfl) rfl
theorem mt_X1 : Cond.initialized RX1 ∈ big := big_1 (List.mem_of_getElem? (i := 3) rfl) rfl
theorem mt_X2 : Cond.initialized RX2 ∈ big := big_1 (List.mem_of_getElem? (i := 4) rfl) rfl
theorem mt_X4 : Cond.initialized RX4 ∈ big := big_1 (List.mem_of_getElem? (i := 5) rfl) rfl
theorem mt_X0 : Cond.initialized RX0 ∈ big := big_1 (List.mem_of_getElem? (i := 6) rfl) rfl
theorem mt_X7 : Cond.initialized RX7 ∈ big := big_1 (List.mem_of_getElem? (i := 7) rfl) rfl
theorem mt_J10 : Cond.initialized RJ10 ∈ big := big_1 (List.mem_of_getElem? (i := 8) rfl) rfl
theorem mt_J9 : Cond.initialized RJ9 ∈ big := big_1 (List.mem_of_getElem? (i := 9) rfl) rfl
theorem mt_J0 : Cond.initialized RJ0 ∈ big := big_1 (List.mem_of_getElem? (i := 10) rfl) rfl
theorem mt_J1 : Cond.initialized RJ1 ∈ big := big_1 (List.mem_of_getElem? (i := 11) rfl) rfl
theorem mt_J3 : Cond.initialized RJ3 ∈ big := big_1 (List.mem_of_getElem? (i := 12) rfl) rfl
theorem mt_J2 : Cond.initialized RJ2 ∈ big := big_1 (List.mem_of_getElem? (i := 13) rfl) rfl
theorem mt_X5 : Cond.initialized RX5 ∈ big := big_1 (List.mem_of_getElem? (i := 14) rfl) rfl
theorem mt_J6 : Cond.initialized RJ6 ∈ big := big_1 (List.mem_of_getElem? (i := 15) rfl) rfl
theorem mn_L_7 : Cond.classLink RL 7 RX6 ∈ big := big_1 (List.mem_of_getElem? (i := 16) rfl) rfl
theorem mb_X6 : Cond.instantiable RX6 9 ∈ big := big_1 (List.mem_of_getElem? (i := 17) rfl) rfl
theorem ml_L_9 : Cond.methodLink RL 9 yX6_init ∈ big := big_1 (List.mem_of_getElem? (i := 18) rfl) rfl
theorem mi_X6_init : Cond.instanceMethod yX6_init ∈ big := big_1 (List.mem_of_getElem? (i := 19) rfl) rfl
theorem mc_X6_init : Cond.code yX6_init cX6_init 1 (none) ∈ big := big_1 (List.mem_of_getElem? (i := 20) rfl) rfl
theorem ml_X6_1 : Cond.methodLink RX6 1 objectInit ∈ big := big_1 (List.mem_of_getElem? (i := 21) rfl) rfl
theorem mi_objectInit : Cond.instanceMethod objectInit ∈ big := big_1 (List.mem_of_getElem? (i := 22) rfl) rfl
theorem mc_objectInit : Cond.code objectInit ⟨#[0xb1]⟩ 1 none ∈ big := big_1 (List.mem_of_getElem? (i := 23) rfl) rfl
theorem mn_X6_7 : Cond.classLink RX6 7 RX3 ∈ big := big_1 (List.mem_of_getElem? (i := 24) rfl) rfl
theorem mb_X3 : Cond.instantiable RX3 10 ∈ big := big_1 (List.mem_of_getElem? (i := 25) rfl) rfl
theorem mi_X3_init : Cond.instanceMethod yX3_init ∈ big := big_1 (List.mem_of_getElem? (i := 27) rfl) rfl
theorem mc_X3_init : Cond.code yX3_init cX3_init 1 (none) ∈ big := big_1 (List.mem_of_getElem? (i := 28) rfl) rfl
theorem ml_X3_3 : Cond.methodLink RX3 3 objectInit ∈ big := big_1 (List.mem_of_getElem? (i := 29) rfl) rfl
theorem mf_X3_11 : Cond.fieldLink RX3 11 "AskedTheOtherWayAbout$Town" "questions" "[I" ∈ big := big_1 (List.mem_of_getElem? (i := 30) rfl) rfl
theorem mf_X3_15 : Cond.fieldLink RX3 15 "AskedTheOtherWayAbout$Town" "bearings" "[I" ∈ big := big_1 (List.mem_of_getElem? (i := 31) rfl) rfl
theorem mf_X3_18 : Cond.fieldLink RX3 18 "AskedTheOtherWayAbout$Town" "groups" "[I" ∈ big := big_1 (List.mem_of_getElem? (i := 32) rfl) rfl
theorem mf_X1_18 : Cond.fieldLink RX1 18 "AskedTheOtherWayAbout$Town" "questionCount" "I" ∈ big := big_1 (List.mem_of_getElem? (i := 33) rfl) rfl
theorem mf_X3_34 : Cond.fieldLink RX3 34 "AskedTheOtherWayAbout$Town" "questionCount" "I" ∈ big := big_1 (List.mem_of_getElem? (i := 34) rfl) rfl
theorem mf_X4_98 : Cond.fieldLink RX4 98 "AskedTheOtherWayAbout$Town" "questionCount" "I" ∈ big := big_1 (List.mem_of_getElem? (i := 35) rfl) rfl
theorem mf_X6_239 : Cond.fieldLink RX6 239 "AskedTheOtherWayAbout$Town" "questionCount" "I" ∈ big := big_1 (List.mem_of_getElem? (i := 36) rfl) rfl
theorem mf_X3_37 : Cond.fieldLink RX3 37 "AskedTheOtherWayAbout$Town" "groupCount" "I" ∈ big := big_1 (List.mem_of_getElem? (i := 37) rfl) rfl
theorem mf_X5_21 : Cond.fieldLink RX5 21 "AskedTheOtherWayAbout$Town" "groupCount" "I" ∈ big := big_1 (List.mem_of_getElem? (i := 38) rfl) rfl
theorem mf_X6_285 : Cond.fieldLink RX6 285 "AskedTheOtherWayAbout$Town" "groupCount" "I" ∈ big := big_1 (List.mem_of_getElem? (i := 39) rfl) rfl
theorem mf_X3_21 : Cond.fieldLink RX3 21 "AskedTheOtherWayAbout$Town" "penny" "I" ∈ big := big_1 (List.mem_of_getElem? (i := 40) rfl) rfl
theorem mf_X4_71 : Cond.fieldLink RX4 71 "AskedTheOtherWayAbout$Town" "penny" "I" ∈ big := big_1 (List.mem_of_getElem? (i := 41) rfl) rfl
theorem mf_X5_56 : Cond.fieldLink RX5 56 "AskedTheOtherWayAbout$Town" "penny" "I" ∈ big := big_1 (List.mem_of_getElem? (i := 42) rfl) rfl
theorem mf_X6_170 : Cond.fieldLink RX6 170 "AskedTheOtherWayAbout$Town" "penny" "I" ∈ big := big_1 (List.mem_of_getElem? (i := 43) rfl) rfl
theorem mf_X3_40 : Cond.fieldLink RX3 40 "AskedTheOtherWayAbout$Town" "half" "I" ∈ big := big_1 (List.mem_of_getElem? (i := 44) rfl) rfl
theorem mf_X4_75 : Cond.fieldLink RX4 75 "AskedTheOtherWayAbout$Town" "half" "I" ∈ big := big_1 (List.mem_of_getElem? (i := 45) rfl) rfl
theorem mf_X6_173 : Cond.fieldLink RX6 173 "AskedTheOtherWayAbout$Town" "half" "I" ∈ big := big_1 (List.mem_of_getElem? (i := 46) rfl) rfl
theorem mf_X3_25 : Cond.fieldLink RX3 25 "AskedTheOtherWayAbout$Town" "seed" "I" ∈ big := big_1 (List.mem_of_getElem? (i := 47) rfl) rfl
theorem mf_X6_294 : Cond.fieldLink RX6 294 "AskedTheOtherWayAbout$Town" "seed" "I" ∈ big := big_1 (List.mem_of_getElem? (i := 48) rfl) rfl
theorem mf_X3_43 : Cond.fieldLink RX3 43 "AskedTheOtherWayAbout$Town" "asked" "I" ∈ big := big_1 (List.mem_of_getElem? (i := 49) rfl) rfl
theorem mf_X6_317 : Cond.fieldLink RX6 317 "AskedTheOtherWayAbout$Town" "asked" "I" ∈ big := big_1 (List.mem_of_getElem? (i := 50) rfl) rfl
theorem mf_X3_46 : Cond.fieldLink RX3 46 "AskedTheOtherWayAbout$Town" "yeses" "I" ∈ big := big_1 (List.mem_of_getElem? (i := 51) rfl) rfl
theorem mf_X6_288 : Cond.fieldLink RX6 288 "AskedTheOtherWayAbout$Town" "yeses" "I" ∈ big := big_1 (List.mem_of_getElem? (i := 52) rfl) rfl
theorem ma_int : Cond.arrayClass .int ∈ big := big_1 (List.mem_of_getElem? (i := 74) rfl) rfl
theorem mn_X6_19 : Cond.classLink RX6 19 RX1 ∈ big := big_1 (List.mem_of_getElem? (i := 75) rfl) rfl
theorem mb_X1 : Cond.instantiable RX1 2 ∈ big := big_1 (List.mem_of_getElem? (i := 76) rfl) rfl
theorem mi_X1_init : Cond.instanceMethod yX1_init ∈ big := big_1 (List.mem_of_getElem? (i := 78) rfl) rfl
theorem mc_X1_init : Cond.code yX1_init cX1_init 1 (none) ∈ big := big_1 (List.mem_of_getElem? (i := 79) rfl) rfl
theorem ml_X1_3 : Cond.methodLink RX1 3 objectInit ∈ big := big_1 (List.mem_of_getElem? (i := 80) rfl) rfl
theorem mf_X1_9 : Cond.fieldLink RX1 9 "AskedTheOtherWayAbout$Orders" "shares" "[I" ∈ big := big_1 (List.mem_of_getElem? (i := 81) rfl) rfl
theorem mf_X1_15 : Cond.fieldLink RX1 15 "AskedTheOtherWayAbout$Orders" "leastOfRest" "[I" ∈ big := big_1 (List.mem_of_getElem? (i := 82) rfl) rfl
theorem mn_X6_26 : Cond.classLink RX6 26 RX2 ∈ big := big_1 (List.mem_of_getElem? (i := 88) rfl) rfl
theorem mb_X2 : Cond.instantiable RX2 3 ∈ big := big_1 (List.mem_of_getElem? (i := 89) rfl) rfl
theorem ml_X6_28 : Cond.methodLink RX6 28 yX2_init ∈ big := big_1 (List.mem_of_getElem? (i := 90) rfl) rfl
theorem mi_X2_init : Cond.instanceMethod yX2_init ∈ big := big_1 (List.mem_of_getElem? (i := 91) rfl) rfl
theorem mc_X2_init : Cond.code yX2_init cX2_init 2 (none) ∈ big := big_1 (List.mem_of_getElem? (i := 92) rfl) rfl
theorem ml_X2_3 : Cond.methodLink RX2 3 objectInit ∈ big := big_1 (List.mem_of_getElem? (i := 93) rfl) rfl
theorem mf_X2_9 : Cond.fieldLink RX2 9 "AskedTheOtherWayAbout$Shelves" "held" "[I" ∈ big := big_1 (List.mem_of_getElem? (i := 94) rfl) rfl
theorem mf_X2_15 : Cond.fieldLink RX2 15 "AskedTheOtherWayAbout$Shelves" "sizes" "[I" ∈ big := big_1 (List.mem_of_getElem? (i := 95) rfl) rfl
theorem mf_X2_18 : Cond.fieldLink RX2 18 "AskedTheOtherWayAbout$Shelves" "elements" "[J" ∈ big := big_1 (List.mem_of_getElem? (i := 96) rfl) rfl
theorem ma_long : Cond.arrayClass .long ∈ big := big_1 (List.mem_of_getElem? (i := 104) rfl) rfl
theorem mn_X6_33 : Cond.classLink RX6 33 RX4 ∈ big := big_1 (List.mem_of_getElem? (i := 105) rfl) rfl
theorem mb_X4 : Cond.instantiable RX4 5 ∈ big := big_1 (List.mem_of_getElem? (i := 106) rfl) rfl
theorem mi_X4_init : Cond.instanceMethod yX4_init ∈ big := big_1 (List.mem_of_getElem? (i := 108) rfl) rfl
theorem mc_X4_init : Cond.code yX4_init cX4_init 1 (none) ∈ big := big_1 (List.mem_of_getElem? (i := 109) rfl) rfl
theorem ml_X4_3 : Cond.methodLink RX4 3 objectInit ∈ big := big_1 (List.mem_of_getElem? (i := 110) rfl) rfl
theorem mn_X4_15 : Cond.classLink RX4 15 RX3 ∈ big := big_1 (List.mem_of_getElem? (i := 111) rfl) rfl
theorem mf_X4_9 : Cond.fieldLink RX4 9 "AskedTheOtherWayAbout$TownText" "letters" "[I" ∈ big := big_1 (List.mem_of_getElem? (i := 113) rfl) rfl
theorem mf_X6_176 : Cond.fieldLink RX6 176 "AskedTheOtherWayAbout$TownText" "letters" "[I" ∈ big := big_1 (List.mem_of_getElem? (i := 114) rfl) rfl
theorem mf_X4_18 : Cond.fieldLink RX4 18 "AskedTheOtherWayAbout$TownText" "draft" "LAskedTheOtherWayAbout$Town;" ∈ big := big_1 (List.mem_of_getElem? (i := 115) rfl) rfl
theorem mf_X6_193 : Cond.fieldLink RX6 193 "AskedTheOtherWayAbout$TownText" "draft" "LAskedTheOtherWayAbout$Town;" ∈ big := big_1 (List.mem_of_getElem? (i := 116) rfl) rfl
theorem mf_X4_22 : Cond.fieldLink RX4 22 "AskedTheOtherWayAbout$TownText" "fault" "I" ∈ big := big_1 (List.mem_of_getElem? (i := 117) rfl) rfl
theorem mf_X6_190 : Cond.fieldLink RX6 190 "AskedTheOtherWayAbout$TownText" "fault" "I" ∈ big := big_1 (List.mem_of_getElem? (i := 118) rfl) rfl
theorem mf_X4_30 : Cond.fieldLink RX4 30 "AskedTheOtherWayAbout$TownText" "size" "I" ∈ big := big_1 (List.mem_of_getElem? (i := 119) rfl) rfl
theorem mf_X4_33 : Cond.fieldLink RX4 33 "AskedTheOtherWayAbout$TownText" "place" "I" ∈ big := big_1 (List.mem_of_getElem? (i := 120) rfl) rfl
theorem mn_X6_40 : Cond.classLink RX6 40 RX0 ∈ big := big_1 (List.mem_of_getElem? (i := 132) rfl) rfl
theorem mb_X0 : Cond.instantiable RX0 5 ∈ big := big_1 (List.mem_of_getElem? (i := 133) rfl) rfl
theorem mi_X0_init : Cond.instanceMethod yX0_init ∈ big := big_1 (List.mem_of_getElem? (i := 135) rfl) rfl
theorem mc_X0_init : Cond.code yX0_init cX0_init 1 (none) ∈ big := big_1 (List.mem_of_getElem? (i := 136) rfl) rfl
theorem ml_X0_3 : Cond.methodLink RX0 3 objectInit ∈ big := big_1 (List.mem_of_getElem? (i := 137) rfl) rfl
theorem mf_X0_11 : Cond.fieldLink RX0 11 "AskedTheOtherWayAbout$Acts" "kept" "[I" ∈ big := big_1 (List.mem_of_getElem? (i := 138) rfl) rfl
theorem mf_X0_15 : Cond.fieldLink RX0 15 "AskedTheOtherWayAbout$Acts" "bodies" "I" ∈ big := big_1 (List.mem_of_getElem? (i := 139) rfl) rfl
theorem mf_X6_320 : Cond.fieldLink RX6 320 "AskedTheOtherWayAbout$Acts" "bodies" "I" ∈ big := big_1 (List.mem_of_getElem? (i := 140) rfl) rfl
theorem mf_X0_19 : Cond.fieldLink RX0 19 "AskedTheOtherWayAbout$Acts" "number" "I" ∈ big := big_1 (List.mem_of_getElem? (i := 141) rfl) rfl
theorem mf_X0_22 : Cond.fieldLink RX0 22 "AskedTheOtherWayAbout$Acts" "kind" "I" ∈ big := big_1 (List.mem_of_getElem? (i := 142) rfl) rfl
theorem mf_X0_25 : Cond.fieldLink RX0 25 "AskedTheOtherWayAbout$Acts" "a" "I" ∈ big := big_1 (List.mem_of_getElem? (i := 143) rfl) rfl
theorem mf_X6_10 : Cond.fieldLink RX6 10 "AskedTheOtherWayAbout" "town" "LAskedTheOtherWayAbout$Town;" ∈ big := big_1 (List.mem_of_getElem? (i := 155) rfl) rfl
theorem mf_X6_16 : Cond.fieldLink RX6 16 "AskedTheOtherWayAbout" "image" "LAskedTheOtherWayAbout$Town;" ∈ big := big_1 (List.mem_of_getElem? (i := 156) rfl) rfl
theorem mf_X6_306 : Cond.fieldLink RX6 306 "AskedTheOtherWayAbout" "imageTaken" "Z" ∈ big := big_1 (List.mem_of_getElem? (i := 157) rfl) rfl
theorem mf_X6_22 : Cond.fieldLink RX6 22 "AskedTheOtherWayAbout" "orders" "LAskedTheOtherWayAbout$Orders;" ∈ big := big_1 (List.mem_of_getElem? (i := 158) rfl) rfl
theorem mf_X6_29 : Cond.fieldLink RX6 29 "AskedTheOtherWayAbout" "shelves" "LAskedTheOtherWayAbout$Shelves;" ∈ big := big_1 (List.mem_of_getElem? (i := 159) rfl) rfl
theorem mf_X6_36 : Cond.fieldLink RX6 36 "AskedTheOtherWayAbout" "townText" "LAskedTheOtherWayAbout$TownText;" ∈ big := big_1 (List.mem_of_getElem? (i := 160) rfl) rfl
theorem mf_X6_43 : Cond.fieldLink RX6 43 "AskedTheOtherWayAbout" "acts" "LAskedTheOtherWayAbout$Acts;" ∈ big := big_1 (List.mem_of_getElem? (i := 161) rfl) rfl
theorem mf_X6_47 : Cond.fieldLink RX6 47 "AskedTheOtherWayAbout" "refusals" "[I" ∈ big := big_1 (List.mem_of_getElem? (i := 162) rfl) rfl
theorem mf_X6_51 : Cond.fieldLink RX6 51 "AskedTheOtherWayAbout" "latestFault" "I" ∈ big := big_1 (List.mem_of_getElem? (i := 163) rfl) rfl
theorem ml_L_13 : Cond.methodLink RL 13 yX6_row ∈ big := big_1 (List.mem_of_getElem? (i := 183) rfl) rfl
theorem mi_X6_row : Cond.instanceMethod yX6_row ∈ big := big_1 (List.mem_of_getElem? (i := 184) rfl) rfl
theorem me_X6_row : Cond.selects RX6 yX6_row yX6_row ∈ big := big_1 (List.mem_of_getElem? (i := 185) rfl) rfl
theorem mc_X6_row : Cond.code yX6_row cX6_row 4 (some .int) ∈ big := big_1 (List.mem_of_getElem? (i := 186) rfl) rfl
theorem ml_X6_55 : Cond.methodLink RX6 55 yX6_isShelf ∈ big := big_1 (List.mem_of_getElem? (i := 187) rfl) rfl
theorem ms_X6_isShelf : Cond.static yX6_isShelf ∈ big := big_1 (List.mem_of_getElem? (i := 188) rfl) rfl
theorem mc_X6_isShelf : Cond.code yX6_isShelf cX6_isShelf 1 (some .boolean) ∈ big := big_1 (List.mem_of_getElem? (i := 189) rfl) rfl
theorem ml_X6_63 : Cond.methodLink RX6 63 yX6_isWithin ∈ big := big_1 (List.mem_of_getElem? (i := 190) rfl) rfl
theorem ms_X6_isWithin : Cond.static yX6_isWithin ∈ big := big_1 (List.mem_of_getElem? (i := 191) rfl) rfl
theorem mc_X6_isWithin : Cond.code yX6_isWithin cX6_isWithin 3 (some .boolean) ∈ big := big_1 (List.mem_of_getElem? (i := 192) rfl) rfl
theorem ml_X6_59 : Cond.methodLink RX6 59 yX6_refuse ∈ big := big_1 (List.mem_of_getElem? (i := 193) rfl) rfl
theorem mi_X6_refuse : Cond.instanceMethod yX6_refuse ∈ big := big_1 (List.mem_of_getElem? (i := 195) rfl) rfl
theorem mc_X6_refuse : Cond.code yX6_refuse cX6_refuse 2 (some .int) ∈ big := big_1 (List.mem_of_getElem? (i := 196) rfl) rfl
theorem ml_X6_67 : Cond.methodLink RX6 67 yX2_putRow ∈ big := big_1 (List.mem_of_getElem? (i := 197) rfl) rfl
theorem mi_X2_putRow : Cond.instanceMethod yX2_putRow ∈ big := big_1 (List.mem_of_getElem? (i := 198) rfl) rfl
theorem me_X2_putRow : Cond.selects RX2 yX2_putRow yX2_putRow ∈ big := big_1 (List.mem_of_getElem? (i := 199) rfl) rfl
theorem mc_X2_putRow : Cond.code yX2_putRow cX2_putRow 5 (none) ∈ big := big_1 (List.mem_of_getElem? (i := 200) rfl) rfl
theorem ml_L_20 : Cond.methodLink RL 20 yX6_set ∈ big := big_1 (List.mem_of_getElem? (i := 201) rfl) rfl
theorem mi_X6_set : Cond.instanceMethod yX6_set ∈ big := big_1 (List.mem_of_getElem? (i := 202) rfl) rfl
theorem me_X6_set : Cond.selects RX6 yX6_set yX6_set ∈ big := big_1 (List.mem_of_getElem? (i := 203) rfl) rfl
theorem mc_X6_set : Cond.code yX6_set cX6_set 6 (some .int) ∈ big := big_1 (List.mem_of_getElem? (i := 204) rfl) rfl
theorem ml_X6_71 : Cond.methodLink RX6 71 yX2_refusalOfRow ∈ big := big_1 (List.mem_of_getElem? (i := 205) rfl) rfl
theorem mi_X2_refusalOfRow : Cond.instanceMethod yX2_refusalOfRow ∈ big := big_1 (List.mem_of_getElem? (i := 206) rfl) rfl
theorem me_X2_refusalOfRow : Cond.selects RX2 yX2_refusalOfRow yX2_refusalOfRow ∈ big := big_1 (List.mem_of_getElem? (i := 207) rfl) rfl
theorem mc_X2_refusalOfRow : Cond.code yX2_refusalOfRow cX2_refusalOfRow 2 (some .int) ∈ big := big_1 (List.mem_of_getElem? (i := 208) rfl) rfl
theorem ml_X2_22 : Cond.methodLink RX2 22 yX2_refusalOfRows ∈ big := big_1 (List.mem_of_getElem? (i := 209) rfl) rfl
theorem mi_X2_refusalOfRows : Cond.instanceMethod yX2_refusalOfRows ∈ big := big_1 (List.mem_of_getElem? (i := 210) rfl) rfl
theorem me_X2_refusalOfRows : Cond.selects RX2 yX2_refusalOfRows yX2_refusalOfRows ∈ big := big_1 (List.mem_of_getElem? (i := 211) rfl) rfl
theorem mc_X2_refusalOfRows : Cond.code yX2_refusalOfRows cX2_refusalOfRows 3 (some .int) ∈ big := big_1 (List.mem_of_getElem? (i := 212) rfl) rfl
theorem ml_X2_30 : Cond.methodLink RX2 30 yX2_holdsQuestion ∈ big := big_1 (List.mem_of_getElem? (i := 214) rfl) rfl
theorem mi_X2_holdsQuestion : Cond.instanceMethod yX2_holdsQuestion ∈ big := big_1 (List.mem_of_getElem? (i := 216) rfl) rfl
theorem mc_X2_holdsQuestion : Cond.code yX2_holdsQuestion cX2_holdsQuestion 2 (some .boolean) ∈ big := big_1 (List.mem_of_getElem? (i := 217) rfl) rfl
theorem ml_X2_33 : Cond.methodLink RX2 33 yX2_holdsRow ∈ big := big_1 (List.mem_of_getElem? (i := 218) rfl) rfl
theorem mi_X2_holdsRow : Cond.instanceMethod yX2_holdsRow ∈ big := big_1 (List.mem_of_getElem? (i := 220) rfl) rfl
theorem mc_X2_holdsRow : Cond.code yX2_holdsRow cX2_holdsRow 2 (some .boolean) ∈ big := big_1 (List.mem_of_getElem? (i := 221) rfl) rfl
theorem ml_X6_74 : Cond.methodLink RX6 74 yX2_has ∈ big := big_1 (List.mem_of_getElem? (i := 222) rfl) rfl
theorem mi_X2_has : Cond.instanceMethod yX2_has ∈ big := big_1 (List.mem_of_getElem? (i := 223) rfl) rfl
theorem me_X2_has : Cond.selects RX2 yX2_has yX2_has ∈ big := big_1 (List.mem_of_getElem? (i := 224) rfl) rfl
theorem mc_X2_has : Cond.code yX2_has cX2_has 4 (some .boolean) ∈ big := big_1 (List.mem_of_getElem? (i := 225) rfl) rfl
theorem ml_X6_77 : Cond.methodLink RX6 77 yX2_putElement ∈ big := big_1 (List.mem_of_getElem? (i := 226) rfl) rfl
theorem mi_X2_putElement : Cond.instanceMethod yX2_putElement ∈ big := big_1 (List.mem_of_getElem? (i := 227) rfl) rfl
theorem me_X2_putElement : Cond.selects RX2 yX2_putElement yX2_putElement ∈ big := big_1 (List.mem_of_getElem? (i := 228) rfl) rfl
theorem mc_X2_putElement : Cond.code yX2_putElement cX2_putElement 5 (none) ∈ big := big_1 (List.mem_of_getElem? (i := 229) rfl) rfl
theorem ml_X2_36 : Cond.methodLink RX2 36 yX2_lowestBits ∈ big := big_1 (List.mem_of_getElem? (i := 230) rfl) rfl
theorem ms_X2_lowestBits : Cond.static yX2_lowestBits ∈ big := big_1 (List.mem_of_getElem? (i := 231) rfl) rfl
theorem mc_X2_lowestBits : Cond.code yX2_lowestBits cX2_lowestBits 3 (some .long) ∈ big := big_1 (List.mem_of_getElem? (i := 232) rfl) rfl
theorem ml_L_25 : Cond.methodLink RL 25 yX6_copy ∈ big := big_1 (List.mem_of_getElem? (i := 233) rfl) rfl
theorem mi_X6_copy : Cond.instanceMethod yX6_copy ∈ big := big_1 (List.mem_of_getElem? (i := 234) rfl) rfl
theorem me_X6_copy : Cond.selects RX6 yX6_copy yX6_copy ∈ big := big_1 (List.mem_of_getElem? (i := 235) rfl) rfl
theorem mc_X6_copy : Cond.code yX6_copy cX6_copy 7 (some .int) ∈ big := big_1 (List.mem_of_getElem? (i := 236) rfl) rfl
theorem ml_X6_81 : Cond.methodLink RX6 81 yX2_refusalOfRows ∈ big := big_1 (List.mem_of_getElem? (i := 237) rfl) rfl
theorem ml_X6_85 : Cond.methodLink RX6 85 yX2_copyElements ∈ big := big_1 (List.mem_of_getElem? (i := 238) rfl) rfl
theorem mi_X2_copyElements : Cond.instanceMethod yX2_copyElements ∈ big := big_1 (List.mem_of_getElem? (i := 239) rfl) rfl
theorem me_X2_copyElements : Cond.selects RX2 yX2_copyElements yX2_copyElements ∈ big := big_2 (List.mem_of_getElem? (i := 0) rfl) rfl
theorem mc_X2_copyElements : Cond.code yX2_copyElements cX2_copyElements 6 (none) ∈ big := big_2 (List.mem_of_getElem? (i := 1) rfl) rfl
theorem ml_X2_40 : Cond.methodLink RX2 40 arraycopyName ∈ big := big_2 (List.mem_of_getElem? (i := 2) rfl) rfl
theorem ms_arraycopy : Cond.static arraycopyName ∈ big := big_2 (List.mem_of_getElem? (i := 3) rfl) rfl
theorem mv_arraycopy : Cond.native arraycopyName ∈ big := big_2 (List.mem_of_getElem? (i := 4) rfl) rfl
theorem ml_L_30 : Cond.methodLink RL 30 yX6_element ∈ big := big_2 (List.mem_of_getElem? (i := 5) rfl) rfl
theorem mi_X6_element : Cond.instanceMethod yX6_element ∈ big := big_2 (List.mem_of_getElem? (i := 6) rfl) rfl
theorem me_X6_element : Cond.selects RX6 yX6_element yX6_element ∈ big := big_2 (List.mem_of_getElem? (i := 7) rfl) rfl
theorem mc_X6_element : Cond.code yX6_element cX6_element 3 (some .long) ∈ big := big_2 (List.mem_of_getElem? (i := 8) rfl) rfl
theorem ml_X6_89 : Cond.methodLink RX6 89 yX2_longAt ∈ big := big_2 (List.mem_of_getElem? (i := 9) rfl) rfl
theorem mi_X2_longAt : Cond.instanceMethod yX2_longAt ∈ big := big_2 (List.mem_of_getElem? (i := 10) rfl) rfl
theorem me_X2_longAt : Cond.selects RX2 yX2_longAt yX2_longAt ∈ big := big_2 (List.mem_of_getElem? (i := 11) rfl) rfl
theorem mc_X2_longAt : Cond.code yX2_longAt cX2_longAt 3 (some .long) ∈ big := big_2 (List.mem_of_getElem? (i := 12) rfl) rfl
theorem ml_L_35 : Cond.methodLink RL 35 yX6_show ∈ big := big_2 (List.mem_of_getElem? (i := 13) rfl) rfl
theorem mi_X6_show : Cond.instanceMethod yX6_show ∈ big := big_2 (List.mem_of_getElem? (i := 14) rfl) rfl
theorem me_X6_show : Cond.selects RX6 yX6_show yX6_show ∈ big := big_2 (List.mem_of_getElem? (i := 15) rfl) rfl
theorem mc_X6_show : Cond.code yX6_show cX6_show 3 (some .int) ∈ big := big_2 (List.mem_of_getElem? (i := 16) rfl) rfl
theorem ml_X6_93 : Cond.methodLink RX6 93 yX3_hasQuestion ∈ big := big_2 (List.mem_of_getElem? (i := 17) rfl) rfl
theorem mi_X3_hasQuestion : Cond.instanceMethod yX3_hasQuestion ∈ big := big_2 (List.mem_of_getElem? (i := 18) rfl) rfl
theorem me_X3_hasQuestion : Cond.selects RX3 yX3_hasQuestion yX3_hasQuestion ∈ big := big_2 (List.mem_of_getElem? (i := 19) rfl) rfl
theorem mc_X3_hasQuestion : Cond.code yX3_hasQuestion cX3_hasQuestion 2 (some .boolean) ∈ big := big_2 (List.mem_of_getElem? (i := 20) rfl) rfl
theorem ml_X6_96 : Cond.methodLink RX6 96 yX2_putQuestion ∈ big := big_2 (List.mem_of_getElem? (i := 22) rfl) rfl
theorem mi_X2_putQuestion : Cond.instanceMethod yX2_putQuestion ∈ big := big_2 (List.mem_of_getElem? (i := 23) rfl) rfl
theorem me_X2_putQuestion : Cond.selects RX2 yX2_putQuestion yX2_putQuestion ∈ big := big_2 (List.mem_of_getElem? (i := 24) rfl) rfl
theorem mc_X2_putQuestion : Cond.code yX2_putQuestion cX2_putQuestion 3 (none) ∈ big := big_2 (List.mem_of_getElem? (i := 25) rfl) rfl
theorem ml_L_40 : Cond.methodLink RL 40 yX6_holds ∈ big := big_2 (List.mem_of_getElem? (i := 26) rfl) rfl
theorem mi_X6_holds : Cond.instanceMethod yX6_holds ∈ big := big_2 (List.mem_of_getElem? (i := 27) rfl) rfl
theorem me_X6_holds : Cond.selects RX6 yX6_holds yX6_holds ∈ big := big_2 (List.mem_of_getElem? (i := 28) rfl) rfl
theorem mc_X6_holds : Cond.code yX6_holds cX6_holds 2 (some .int) ∈ big := big_2 (List.mem_of_getElem? (i := 29) rfl) rfl
theorem ml_X6_100 : Cond.methodLink RX6 100 yX2_heldBy ∈ big := big_2 (List.mem_of_getElem? (i := 30) rfl) rfl
theorem mi_X2_heldBy : Cond.instanceMethod yX2_heldBy ∈ big := big_2 (List.mem_of_getElem? (i := 31) rfl) rfl
theorem me_X2_heldBy : Cond.selects RX2 yX2_heldBy yX2_heldBy ∈ big := big_2 (List.mem_of_getElem? (i := 32) rfl) rfl
theorem mc_X2_heldBy : Cond.code yX2_heldBy cX2_heldBy 2 (some .int) ∈ big := big_2 (List.mem_of_getElem? (i := 33) rfl) rfl
theorem ml_L_45 : Cond.methodLink RL 45 yX6_says ∈ big := big_2 (List.mem_of_getElem? (i := 34) rfl) rfl
theorem mi_X6_says : Cond.instanceMethod yX6_says ∈ big := big_2 (List.mem_of_getElem? (i := 35) rfl) rfl
theorem me_X6_says : Cond.selects RX6 yX6_says yX6_says ∈ big := big_2 (List.mem_of_getElem? (i := 36) rfl) rfl
theorem mc_X6_says : Cond.code yX6_says cX6_says 4 (some .int) ∈ big := big_2 (List.mem_of_getElem? (i := 37) rfl) rfl
theorem ml_X6_103 : Cond.methodLink RX6 103 yX6_isKind ∈ big := big_2 (List.mem_of_getElem? (i := 38) rfl) rfl
theorem ms_X6_isKind : Cond.static yX6_isKind ∈ big := big_2 (List.mem_of_getElem? (i := 39) rfl) rfl
theorem mc_X6_isKind : Cond.code yX6_isKind cX6_isKind 1 (some .boolean) ∈ big := big_2 (List.mem_of_getElem? (i := 40) rfl) rfl
theorem ml_X6_106 : Cond.methodLink RX6 106 yX3_kindOf ∈ big := big_2 (List.mem_of_getElem? (i := 41) rfl) rfl
theorem mi_X3_kindOf : Cond.instanceMethod yX3_kindOf ∈ big := big_2 (List.mem_of_getElem? (i := 42) rfl) rfl
theorem me_X3_kindOf : Cond.selects RX3 yX3_kindOf yX3_kindOf ∈ big := big_2 (List.mem_of_getElem? (i := 43) rfl) rfl
theorem mc_X3_kindOf : Cond.code yX3_kindOf cX3_kindOf 2 (some .int) ∈ big := big_2 (List.mem_of_getElem? (i := 44) rfl) rfl
theorem ml_X6_109 : Cond.methodLink RX6 109 yX6_isOrUnder ∈ big := big_2 (List.mem_of_getElem? (i := 45) rfl) rfl
theorem ms_X6_isOrUnder : Cond.static yX6_isOrUnder ∈ big := big_2 (List.mem_of_getElem? (i := 46) rfl) rfl
theorem mc_X6_isOrUnder : Cond.code yX6_isOrUnder cX6_isOrUnder 4 (some .boolean) ∈ big := big_2 (List.mem_of_getElem? (i := 47) rfl) rfl
theorem mf_X6_332 : Cond.fieldLink RX6 332 "AskedTheOtherWayAbout" "ABOVE" "[I" ∈ big := big_2 (List.mem_of_getElem? (i := 48) rfl) rfl
theorem ml_X6_113 : Cond.methodLink RX6 113 yX3_shareOf ∈ big := big_2 (List.mem_of_getElem? (i := 50) rfl) rfl
theorem mi_X3_shareOf : Cond.instanceMethod yX3_shareOf ∈ big := big_2 (List.mem_of_getElem? (i := 51) rfl) rfl
theorem me_X3_shareOf : Cond.selects RX3 yX3_shareOf yX3_shareOf ∈ big := big_2 (List.mem_of_getElem? (i := 52) rfl) rfl
theorem mc_X3_shareOf : Cond.code yX3_shareOf cX3_shareOf 3 (some .int) ∈ big := big_2 (List.mem_of_getElem? (i := 53) rfl) rfl
theorem ml_X3_90 : Cond.methodLink RX3 90 yX3_allOf ∈ big := big_2 (List.mem_of_getElem? (i := 54) rfl) rfl
theorem mi_X3_allOf : Cond.instanceMethod yX3_allOf ∈ big := big_2 (List.mem_of_getElem? (i := 55) rfl) rfl
theorem me_X3_allOf : Cond.selects RX3 yX3_allOf yX3_allOf ∈ big := big_2 (List.mem_of_getElem? (i := 56) rfl) rfl
theorem mc_X3_allOf : Cond.code yX3_allOf cX3_allOf 5 (some .int) ∈ big := big_2 (List.mem_of_getElem? (i := 57) rfl) rfl
theorem ms_X6_contains : Cond.static yX6_contains ∈ big := big_2 (List.mem_of_getElem? (i := 59) rfl) rfl
theorem mc_X6_contains : Cond.code yX6_contains cX6_contains 2 (some .boolean) ∈ big := big_2 (List.mem_of_getElem? (i := 60) rfl) rfl
theorem ml_X3_83 : Cond.methodLink RX3 83 yX3_countOf ∈ big := big_2 (List.mem_of_getElem? (i := 61) rfl) rfl
theorem mi_X3_countOf : Cond.instanceMethod yX3_countOf ∈ big := big_2 (List.mem_of_getElem? (i := 62) rfl) rfl
theorem me_X3_countOf : Cond.selects RX3 yX3_countOf yX3_countOf ∈ big := big_2 (List.mem_of_getElem? (i := 63) rfl) rfl
theorem mc_X3_countOf : Cond.code yX3_countOf cX3_countOf 2 (some .int) ∈ big := big_2 (List.mem_of_getElem? (i := 64) rfl) rfl
theorem ml_X3_86 : Cond.methodLink RX3 86 yX3_yesOf ∈ big := big_2 (List.mem_of_getElem? (i := 65) rfl) rfl
theorem mi_X3_yesOf : Cond.instanceMethod yX3_yesOf ∈ big := big_2 (List.mem_of_getElem? (i := 66) rfl) rfl
theorem me_X3_yesOf : Cond.selects RX3 yX3_yesOf yX3_yesOf ∈ big := big_2 (List.mem_of_getElem? (i := 67) rfl) rfl
theorem mc_X3_yesOf : Cond.code yX3_yesOf cX3_yesOf 4 (some .int) ∈ big := big_2 (List.mem_of_getElem? (i := 68) rfl) rfl
theorem ml_X3_67 : Cond.methodLink RX3 67 yX3_kindOf ∈ big := big_2 (List.mem_of_getElem? (i := 69) rfl) rfl
theorem ml_X3_70 : Cond.methodLink RX3 70 yX3_aOf ∈ big := big_2 (List.mem_of_getElem? (i := 70) rfl) rfl
theorem mi_X3_aOf : Cond.instanceMethod yX3_aOf ∈ big := big_2 (List.mem_of_getElem? (i := 71) rfl) rfl
theorem me_X3_aOf : Cond.selects RX3 yX3_aOf yX3_aOf ∈ big := big_2 (List.mem_of_getElem? (i := 72) rfl) rfl
theorem mc_X3_aOf : Cond.code yX3_aOf cX3_aOf 2 (some .int) ∈ big := big_2 (List.mem_of_getElem? (i := 73) rfl) rfl
theorem ml_X3_76 : Cond.methodLink RX3 76 yX3_viewOf ∈ big := big_2 (List.mem_of_getElem? (i := 74) rfl) rfl
theorem mi_X3_viewOf : Cond.instanceMethod yX3_viewOf ∈ big := big_2 (List.mem_of_getElem? (i := 75) rfl) rfl
theorem me_X3_viewOf : Cond.selects RX3 yX3_viewOf yX3_viewOf ∈ big := big_2 (List.mem_of_getElem? (i := 76) rfl) rfl
theorem mc_X3_viewOf : Cond.code yX3_viewOf cX3_viewOf 2 (some .int) ∈ big := big_2 (List.mem_of_getElem? (i := 77) rfl) rfl
theorem ml_X3_53 : Cond.methodLink RX3 53 yX3_gladOf ∈ big := big_2 (List.mem_of_getElem? (i := 78) rfl) rfl
theorem mi_X3_gladOf : Cond.instanceMethod yX3_gladOf ∈ big := big_2 (List.mem_of_getElem? (i := 79) rfl) rfl
theorem me_X3_gladOf : Cond.selects RX3 yX3_gladOf yX3_gladOf ∈ big := big_2 (List.mem_of_getElem? (i := 80) rfl) rfl
theorem mc_X3_gladOf : Cond.code yX3_gladOf cX3_gladOf 2 (some .int) ∈ big := big_2 (List.mem_of_getElem? (i := 81) rfl) rfl
theorem ms_X6_yesBy : Cond.static yX6_yesBy ∈ big := big_2 (List.mem_of_getElem? (i := 83) rfl) rfl
theorem mc_X6_yesBy : Cond.code yX6_yesBy cX6_yesBy 9 (some .int) ∈ big := big_2 (List.mem_of_getElem? (i := 84) rfl) rfl
theorem ml_X3_94 : Cond.methodLink RX3 94 yX3_peopleOf ∈ big := big_2 (List.mem_of_getElem? (i := 85) rfl) rfl
theorem mi_X3_peopleOf : Cond.instanceMethod yX3_peopleOf ∈ big := big_2 (List.mem_of_getElem? (i := 86) rfl) rfl
theorem me_X3_peopleOf : Cond.selects RX3 yX3_peopleOf yX3_peopleOf ∈ big := big_2 (List.mem_of_getElem? (i := 87) rfl) rfl
theorem mc_X3_peopleOf : Cond.code yX3_peopleOf cX3_peopleOf 4 (some .int) ∈ big := big_2 (List.mem_of_getElem? (i := 88) rfl) rfl
theorem ms_X6_thousandths : Cond.static yX6_thousandths ∈ big := big_2 (List.mem_of_getElem? (i := 90) rfl) rfl
theorem mc_X6_thousandths : Cond.code yX6_thousandths cX6_thousandths 2 (some .int) ∈ big := big_2 (List.mem_of_getElem? (i := 91) rfl) rfl
theorem ml_X6_116 : Cond.methodLink RX6 116 yX3_yesAs ∈ big := big_2 (List.mem_of_getElem? (i := 92) rfl) rfl
theorem mi_X3_yesAs : Cond.instanceMethod yX3_yesAs ∈ big := big_2 (List.mem_of_getElem? (i := 93) rfl) rfl
theorem me_X3_yesAs : Cond.selects RX3 yX3_yesAs yX3_yesAs ∈ big := big_2 (List.mem_of_getElem? (i := 94) rfl) rfl
theorem mc_X3_yesAs : Cond.code yX3_yesAs cX3_yesAs 5 (some .int) ∈ big := big_2 (List.mem_of_getElem? (i := 95) rfl) rfl
theorem ml_L_49 : Cond.methodLink RL 49 yX6_question ∈ big := big_2 (List.mem_of_getElem? (i := 96) rfl) rfl
theorem mi_X6_question : Cond.instanceMethod yX6_question ∈ big := big_2 (List.mem_of_getElem? (i := 97) rfl) rfl
theorem me_X6_question : Cond.selects RX6 yX6_question yX6_question ∈ big := big_2 (List.mem_of_getElem? (i := 98) rfl) rfl
theorem mc_X6_question : Cond.code yX6_question cX6_question 3 (some .int) ∈ big := big_2 (List.mem_of_getElem? (i := 99) rfl) rfl
theorem ml_X6_120 : Cond.methodLink RX6 120 yX3_hasRoomForQuestion ∈ big := big_2 (List.mem_of_getElem? (i := 100) rfl) rfl
theorem mi_X3_hasRoomForQuestion : Cond.instanceMethod yX3_hasRoomForQuestion ∈ big := big_2 (List.mem_of_getElem? (i := 101) rfl) rfl
theorem me_X3_hasRoomForQuestion : Cond.selects RX3 yX3_hasRoomForQuestion yX3_hasRoomForQuestion ∈ big := big_2 (List.mem_of_getElem? (i := 102) rfl) rfl
theorem mc_X3_hasRoomForQuestion : Cond.code yX3_hasRoomForQuestion cX3_hasRoomForQuestion 1 (some .boolean) ∈ big := big_2 (List.mem_of_getElem? (i := 103) rfl) rfl
theorem ml_X6_124 : Cond.methodLink RX6 124 yX3_addQuestion ∈ big := big_2 (List.mem_of_getElem? (i := 104) rfl) rfl
theorem mi_X3_addQuestion : Cond.instanceMethod yX3_addQuestion ∈ big := big_2 (List.mem_of_getElem? (i := 105) rfl) rfl
theorem me_X3_addQuestion : Cond.selects RX3 yX3_addQuestion yX3_addQuestion ∈ big := big_2 (List.mem_of_getElem? (i := 106) rfl) rfl
theorem mc_X3_addQuestion : Cond.code yX3_addQuestion cX3_addQuestion 4 (some .int) ∈ big := big_2 (List.mem_of_getElem? (i := 107) rfl) rfl
theorem ml_L_53 : Cond.methodLink RL 53 yX6_group ∈ big := big_2 (List.mem_of_getElem? (i := 108) rfl) rfl
theorem mi_X6_group : Cond.instanceMethod yX6_group ∈ big := big_2 (List.mem_of_getElem? (i := 109) rfl) rfl
theorem me_X6_group : Cond.selects RX6 yX6_group yX6_group ∈ big := big_2 (List.mem_of_getElem? (i := 110) rfl) rfl
theorem mc_X6_group : Cond.code yX6_group cX6_group 7 (some .int) ∈ big := big_2 (List.mem_of_getElem? (i := 111) rfl) rfl
theorem ml_X6_127 : Cond.methodLink RX6 127 yX3_hasRoomForGroup ∈ big := big_2 (List.mem_of_getElem? (i := 112) rfl) rfl
theorem mi_X3_hasRoomForGroup : Cond.instanceMethod yX3_hasRoomForGroup ∈ big := big_2 (List.mem_of_getElem? (i := 113) rfl) rfl
theorem me_X3_hasRoomForGroup : Cond.selects RX3 yX3_hasRoomForGroup yX3_hasRoomForGroup ∈ big := big_2 (List.mem_of_getElem? (i := 114) rfl) rfl
theorem mc_X3_hasRoomForGroup : Cond.code yX3_hasRoomForGroup cX3_hasRoomForGroup 1 (some .boolean) ∈ big := big_2 (List.mem_of_getElem? (i := 115) rfl) rfl
theorem ml_X6_130 : Cond.methodLink RX6 130 yX3_addGroup ∈ big := big_2 (List.mem_of_getElem? (i := 116) rfl) rfl
theorem mi_X3_addGroup : Cond.instanceMethod yX3_addGroup ∈ big := big_2 (List.mem_of_getElem? (i := 117) rfl) rfl
theorem me_X3_addGroup : Cond.selects RX3 yX3_addGroup yX3_addGroup ∈ big := big_2 (List.mem_of_getElem? (i := 118) rfl) rfl
theorem mc_X3_addGroup : Cond.code yX3_addGroup cX3_addGroup 8 (some .int) ∈ big := big_2 (List.mem_of_getElem? (i := 119) rfl) rfl
theorem ml_L_57 : Cond.methodLink RL 57 yX6_questionOf ∈ big := big_2 (List.mem_of_getElem? (i := 120) rfl) rfl
theorem mi_X6_questionOf : Cond.instanceMethod yX6_questionOf ∈ big := big_2 (List.mem_of_getElem? (i := 121) rfl) rfl
theorem me_X6_questionOf : Cond.selects RX6 yX6_questionOf yX6_questionOf ∈ big := big_2 (List.mem_of_getElem? (i := 122) rfl) rfl
theorem mc_X6_questionOf : Cond.code yX6_questionOf cX6_questionOf 3 (some .int) ∈ big := big_2 (List.mem_of_getElem? (i := 123) rfl) rfl
theorem ml_X6_134 : Cond.methodLink RX6 134 yX6_refuseFarBelow ∈ big := big_2 (List.mem_of_getElem? (i := 124) rfl) rfl
theorem mi_X6_refuseFarBelow : Cond.instanceMethod yX6_refuseFarBelow ∈ big := big_2 (List.mem_of_getElem? (i := 126) rfl) rfl
theorem mc_X6_refuseFarBelow : Cond.code yX6_refuseFarBelow cX6_refuseFarBelow 2 (some .int) ∈ big := big_2 (List.mem_of_getElem? (i := 127) rfl) rfl
theorem ml_X6_137 : Cond.methodLink RX6 137 yX3_aOf ∈ big := big_2 (List.mem_of_getElem? (i := 128) rfl) rfl
theorem ml_X6_140 : Cond.methodLink RX6 140 yX3_allOf ∈ big := big_2 (List.mem_of_getElem? (i := 129) rfl) rfl
theorem ml_X6_143 : Cond.methodLink RX6 143 yX3_wrongOf ∈ big := big_2 (List.mem_of_getElem? (i := 130) rfl) rfl
theorem mi_X3_wrongOf : Cond.instanceMethod yX3_wrongOf ∈ big := big_2 (List.mem_of_getElem? (i := 131) rfl) rfl
theorem me_X3_wrongOf : Cond.selects RX3 yX3_wrongOf yX3_wrongOf ∈ big := big_2 (List.mem_of_getElem? (i := 132) rfl) rfl
theorem mc_X3_wrongOf : Cond.code yX3_wrongOf cX3_wrongOf 4 (some .int) ∈ big := big_2 (List.mem_of_getElem? (i := 133) rfl) rfl
theorem ml_X3_111 : Cond.methodLink RX3 111 yX3_shareOf ∈ big := big_2 (List.mem_of_getElem? (i := 134) rfl) rfl
theorem ml_X3_117 : Cond.methodLink RX3 117 yX3_holding ∈ big := big_2 (List.mem_of_getElem? (i := 136) rfl) rfl
theorem mi_X3_holding : Cond.instanceMethod yX3_holding ∈ big := big_2 (List.mem_of_getElem? (i := 137) rfl) rfl
theorem me_X3_holding : Cond.selects RX3 yX3_holding yX3_holding ∈ big := big_2 (List.mem_of_getElem? (i := 138) rfl) rfl
theorem mc_X3_holding : Cond.code yX3_holding cX3_holding 3 (some .int) ∈ big := big_2 (List.mem_of_getElem? (i := 139) rfl) rfl
theorem ml_L_61 : Cond.methodLink RL 61 yX6_groupOf ∈ big := big_2 (List.mem_of_getElem? (i := 140) rfl) rfl
theorem mi_X6_groupOf : Cond.instanceMethod yX6_groupOf ∈ big := big_2 (List.mem_of_getElem? (i := 141) rfl) rfl
theorem me_X6_groupOf : Cond.selects RX6 yX6_groupOf yX6_groupOf ∈ big := big_2 (List.mem_of_getElem? (i := 142) rfl) rfl
theorem mc_X6_groupOf : Cond.code yX6_groupOf cX6_groupOf 3 (some .int) ∈ big := big_2 (List.mem_of_getElem? (i := 143) rfl) rfl
theorem ml_X6_146 : Cond.methodLink RX6 146 yX3_hasGroup ∈ big := big_2 (List.mem_of_getElem? (i := 144) rfl) rfl
theorem mi_X3_hasGroup : Cond.instanceMethod yX3_hasGroup ∈ big := big_2 (List.mem_of_getElem? (i := 145) rfl) rfl
theorem me_X3_hasGroup : Cond.selects RX3 yX3_hasGroup yX3_hasGroup ∈ big := big_2 (List.mem_of_getElem? (i := 146) rfl) rfl
theorem mc_X3_hasGroup : Cond.code yX3_hasGroup cX3_hasGroup 2 (some .boolean) ∈ big := big_2 (List.mem_of_getElem? (i := 147) rfl) rfl
theorem ml_X6_149 : Cond.methodLink RX6 149 yX3_countOf ∈ big := big_2 (List.mem_of_getElem? (i := 148) rfl) rfl
theorem ml_X6_152 : Cond.methodLink RX6 152 yX3_viewOf ∈ big := big_2 (List.mem_of_getElem? (i := 149) rfl) rfl
theorem ml_X6_155 : Cond.methodLink RX6 155 yX3_gladOf ∈ big := big_2 (List.mem_of_getElem? (i := 150) rfl) rfl
theorem ml_X6_158 : Cond.methodLink RX6 158 yX3_homeOf ∈ big := big_2 (List.mem_of_getElem? (i := 151) rfl) rfl
theorem mi_X3_homeOf : Cond.instanceMethod yX3_homeOf ∈ big := big_2 (List.mem_of_getElem? (i := 152) rfl) rfl
theorem me_X3_homeOf : Cond.selects RX3 yX3_homeOf yX3_homeOf ∈ big := big_2 (List.mem_of_getElem? (i := 153) rfl) rfl
theorem mc_X3_homeOf : Cond.code yX3_homeOf cX3_homeOf 2 (some .int) ∈ big := big_2 (List.mem_of_getElem? (i := 154) rfl) rfl
theorem ml_X6_161 : Cond.methodLink RX6 161 yX3_willOf ∈ big := big_2 (List.mem_of_getElem? (i := 155) rfl) rfl
theorem mi_X3_willOf : Cond.instanceMethod yX3_willOf ∈ big := big_2 (List.mem_of_getElem? (i := 156) rfl) rfl
theorem me_X3_willOf : Cond.selects RX3 yX3_willOf yX3_willOf ∈ big := big_2 (List.mem_of_getElem? (i := 157) rfl) rfl
theorem mc_X3_willOf : Cond.code yX3_willOf cX3_willOf 2 (some .int) ∈ big := big_2 (List.mem_of_getElem? (i := 158) rfl) rfl
theorem ml_L_65 : Cond.methodLink RL 65 yX6_bears ∈ big := big_2 (List.mem_of_getElem? (i := 159) rfl) rfl
theorem mi_X6_bears : Cond.instanceMethod yX6_bears ∈ big := big_2 (List.mem_of_getElem? (i := 160) rfl) rfl
theorem me_X6_bears : Cond.selects RX6 yX6_bears yX6_bears ∈ big := big_2 (List.mem_of_getElem? (i := 161) rfl) rfl
theorem mc_X6_bears : Cond.code yX6_bears cX6_bears 5 (some .int) ∈ big := big_2 (List.mem_of_getElem? (i := 162) rfl) rfl
theorem ml_X6_164 : Cond.methodLink RX6 164 yX3_bearingOf ∈ big := big_2 (List.mem_of_getElem? (i := 163) rfl) rfl
theorem mi_X3_bearingOf : Cond.instanceMethod yX3_bearingOf ∈ big := big_2 (List.mem_of_getElem? (i := 164) rfl) rfl
theorem me_X3_bearingOf : Cond.selects RX3 yX3_bearingOf yX3_bearingOf ∈ big := big_2 (List.mem_of_getElem? (i := 165) rfl) rfl
theorem mc_X3_bearingOf : Cond.code yX3_bearingOf cX3_bearingOf 3 (some .int) ∈ big := big_2 (List.mem_of_getElem? (i := 166) rfl) rfl
theorem ml_X6_167 : Cond.methodLink RX6 167 yX3_putBearing ∈ big := big_2 (List.mem_of_getElem? (i := 167) rfl) rfl
theorem mi_X3_putBearing : Cond.instanceMethod yX3_putBearing ∈ big := big_2 (List.mem_of_getElem? (i := 168) rfl) rfl
theorem me_X3_putBearing : Cond.selects RX3 yX3_putBearing yX3_putBearing ∈ big := big_2 (List.mem_of_getElem? (i := 169) rfl) rfl
theorem mc_X3_putBearing : Cond.code yX3_putBearing cX3_putBearing 4 (none) ∈ big := big_2 (List.mem_of_getElem? (i := 170) rfl) rfl
theorem ml_L_69 : Cond.methodLink RL 69 yX6_ask ∈ big := big_2 (List.mem_of_getElem? (i := 171) rfl) rfl
theorem mi_X6_ask : Cond.instanceMethod yX6_ask ∈ big := big_2 (List.mem_of_getElem? (i := 172) rfl) rfl
theorem me_X6_ask : Cond.selects RX6 yX6_ask yX6_ask ∈ big := big_2 (List.mem_of_getElem? (i := 173) rfl) rfl
theorem mc_X6_ask : Cond.code yX6_ask cX6_ask 4 (some .int) ∈ big := big_2 (List.mem_of_getElem? (i := 174) rfl) rfl
theorem ml_L_73 : Cond.methodLink RL 73 yX6_town ∈ big := big_2 (List.mem_of_getElem? (i := 175) rfl) rfl
theorem mi_X6_town : Cond.instanceMethod yX6_town ∈ big := big_2 (List.mem_of_getElem? (i := 176) rfl) rfl
theorem me_X6_town : Cond.selects RX6 yX6_town yX6_town ∈ big := big_2 (List.mem_of_getElem? (i := 177) rfl) rfl
theorem mc_X6_town : Cond.code yX6_town cX6_town 4 (some .int) ∈ big := big_2 (List.mem_of_getElem? (i := 178) rfl) rfl
theorem ml_X6_179 : Cond.methodLink RX6 179 yX2_copyInts ∈ big := big_2 (List.mem_of_getElem? (i := 179) rfl) rfl
theorem mi_X2_copyInts : Cond.instanceMethod yX2_copyInts ∈ big := big_2 (List.mem_of_getElem? (i := 180) rfl) rfl
theorem me_X2_copyInts : Cond.selects RX2 yX2_copyInts yX2_copyInts ∈ big := big_2 (List.mem_of_getElem? (i := 181) rfl) rfl
theorem mc_X2_copyInts : Cond.code yX2_copyInts cX2_copyInts 4 (none) ∈ big := big_2 (List.mem_of_getElem? (i := 182) rfl) rfl
theorem ml_X2_46 : Cond.methodLink RX2 46 yX2_intAt ∈ big := big_2 (List.mem_of_getElem? (i := 183) rfl) rfl
theorem mi_X2_intAt : Cond.instanceMethod yX2_intAt ∈ big := big_2 (List.mem_of_getElem? (i := 184) rfl) rfl
theorem me_X2_intAt : Cond.selects RX2 yX2_intAt yX2_intAt ∈ big := big_2 (List.mem_of_getElem? (i := 185) rfl) rfl
theorem mc_X2_intAt : Cond.code yX2_intAt cX2_intAt 3 (some .int) ∈ big := big_2 (List.mem_of_getElem? (i := 186) rfl) rfl
theorem ml_X6_183 : Cond.methodLink RX6 183 yX2_sizeOf ∈ big := big_2 (List.mem_of_getElem? (i := 187) rfl) rfl
theorem mi_X2_sizeOf : Cond.instanceMethod yX2_sizeOf ∈ big := big_2 (List.mem_of_getElem? (i := 188) rfl) rfl
theorem me_X2_sizeOf : Cond.selects RX2 yX2_sizeOf yX2_sizeOf ∈ big := big_2 (List.mem_of_getElem? (i := 189) rfl) rfl
theorem mc_X2_sizeOf : Cond.code yX2_sizeOf cX2_sizeOf 2 (some .int) ∈ big := big_2 (List.mem_of_getElem? (i := 190) rfl) rfl
theorem ml_X6_186 : Cond.methodLink RX6 186 yX4_read ∈ big := big_2 (List.mem_of_getElem? (i := 191) rfl) rfl
theorem mi_X4_read : Cond.instanceMethod yX4_read ∈ big := big_2 (List.mem_of_getElem? (i := 192) rfl) rfl
theorem me_X4_read : Cond.selects RX4 yX4_read yX4_read ∈ big := big_2 (List.mem_of_getElem? (i := 193) rfl) rfl
theorem mc_X4_read : Cond.code yX4_read cX4_read 5 (some .int) ∈ big := big_2 (List.mem_of_getElem? (i := 194) rfl) rfl
theorem ml_X4_26 : Cond.methodLink RX4 26 yX3_become ∈ big := big_2 (List.mem_of_getElem? (i := 195) rfl) rfl
theorem mi_X3_become : Cond.instanceMethod yX3_become ∈ big := big_2 (List.mem_of_getElem? (i := 196) rfl) rfl
theorem me_X3_become : Cond.selects RX3 yX3_become yX3_become ∈ big := big_2 (List.mem_of_getElem? (i := 197) rfl) rfl
theorem mc_X3_become : Cond.code yX3_become cX3_become 2 (none) ∈ big := big_2 (List.mem_of_getElem? (i := 198) rfl) rfl
theorem ml_X3_28 : Cond.methodLink RX3 28 arraycopyName ∈ big := big_2 (List.mem_of_getElem? (i := 199) rfl) rfl
theorem ml_X4_36 : Cond.methodLink RX4 36 yX4_readItem ∈ big := big_2 (List.mem_of_getElem? (i := 200) rfl) rfl
theorem mi_X4_readItem : Cond.instanceMethod yX4_readItem ∈ big := big_2 (List.mem_of_getElem? (i := 202) rfl) rfl
theorem mc_X4_readItem : Cond.code yX4_readItem cX4_readItem 1 (none) ∈ big := big_2 (List.mem_of_getElem? (i := 203) rfl) rfl
theorem ml_X4_43 : Cond.methodLink RX4 43 yX4_letterHere ∈ big := big_2 (List.mem_of_getElem? (i := 204) rfl) rfl
theorem mi_X4_letterHere : Cond.instanceMethod yX4_letterHere ∈ big := big_2 (List.mem_of_getElem? (i := 206) rfl) rfl
theorem mc_X4_letterHere : Cond.code yX4_letterHere cX4_letterHere 1 (some .int) ∈ big := big_2 (List.mem_of_getElem? (i := 207) rfl) rfl
theorem ml_X4_47 : Cond.methodLink RX4 47 yX4_readGroup ∈ big := big_2 (List.mem_of_getElem? (i := 208) rfl) rfl
theorem mi_X4_readGroup : Cond.instanceMethod yX4_readGroup ∈ big := big_2 (List.mem_of_getElem? (i := 210) rfl) rfl
theorem mc_X4_readGroup : Cond.code yX4_readGroup cX4_readGroup 7 (none) ∈ big := big_2 (List.mem_of_getElem? (i := 211) rfl) rfl
theorem ml_X4_55 : Cond.methodLink RX4 55 yX4_readWord ∈ big := big_2 (List.mem_of_getElem? (i := 213) rfl) rfl
theorem mi_X4_readWord : Cond.instanceMethod yX4_readWord ∈ big := big_2 (List.mem_of_getElem? (i := 215) rfl) rfl
theorem mc_X4_readWord : Cond.code yX4_readWord cX4_readWord 3 (none) ∈ big := big_2 (List.mem_of_getElem? (i := 216) rfl) rfl
theorem ml_X4_105 : Cond.methodLink RX4 105 yJ0_length_8abf5 ∈ big := big_2 (List.mem_of_getElem? (i := 217) rfl) rfl
theorem mi_J0_length_8abf5 : Cond.instanceMethod yJ0_length_8abf5 ∈ big := big_2 (List.mem_of_getElem? (i := 218) rfl) rfl
theorem me_J0_length_8abf5 : Cond.selects RJ0 yJ0_length_8abf5 yJ0_length_8abf5 ∈ big := big_2 (List.mem_of_getElem? (i := 219) rfl) rfl
theorem mc_J0_length_8abf5 : Cond.code yJ0_length_8abf5 cJ0_length_8abf5 1 (some .int) ∈ big := big_2 (List.mem_of_getElem? (i := 220) rfl) rfl
theorem ml_J0_335 : Cond.methodLink RJ0 335 yJ0_coder_7d493 ∈ big := big_2 (List.mem_of_getElem? (i := 221) rfl) rfl
theorem mi_J0_coder_7d493 : Cond.instanceMethod yJ0_coder_7d493 ∈ big := big_2 (List.mem_of_getElem? (i := 222) rfl) rfl
theorem me_J0_coder_7d493 : Cond.selects RJ0 yJ0_coder_7d493 yJ0_coder_7d493 ∈ big := big_2 (List.mem_of_getElem? (i := 223) rfl) rfl
theorem mc_J0_coder_7d493 : Cond.code yJ0_coder_7d493 cJ0_coder_7d493 1 (some .byte) ∈ big := big_2 (List.mem_of_getElem? (i := 224) rfl) rfl
theorem mf_J0_38 : Cond.fieldLink RJ0 38 "java/lang/String" "COMPACT_STRINGS" "Z" ∈ big := big_2 (List.mem_of_getElem? (i := 225) rfl) rfl
theorem ml_X4_110 : Cond.methodLink RX4 110 yJ0_charAt_5068e ∈ big := big_2 (List.mem_of_getElem? (i := 227) rfl) rfl
theorem mi_J0_charAt_5068e : Cond.instanceMethod yJ0_charAt_5068e ∈ big := big_2 (List.mem_of_getElem? (i := 228) rfl) rfl
theorem me_J0_charAt_5068e : Cond.selects RJ0 yJ0_charAt_5068e yJ0_charAt_5068e ∈ big := big_2 (List.mem_of_getElem? (i := 229) rfl) rfl
theorem mc_J0_charAt_5068e : Cond.code yJ0_charAt_5068e cJ0_charAt_5068e 2 (some .char) ∈ big := big_2 (List.mem_of_getElem? (i := 230) rfl) rfl
theorem ml_J0_492 : Cond.methodLink RJ0 492 yJ0_isLatin1_aae02 ∈ big := big_2 (List.mem_of_getElem? (i := 231) rfl) rfl
theorem mi_J0_isLatin1_aae02 : Cond.instanceMethod yJ0_isLatin1_aae02 ∈ big := big_2 (List.mem_of_getElem? (i := 232) rfl) rfl
theorem me_J0_isLatin1_aae02 : Cond.selects RJ0 yJ0_isLatin1_aae02 yJ0_isLatin1_aae02 ∈ big := big_2 (List.mem_of_getElem? (i := 233) rfl) rfl
theorem mc_J0_isLatin1_aae02 : Cond.code yJ0_isLatin1_aae02 cJ0_isLatin1_aae02 1 (some .boolean) ∈ big := big_2 (List.mem_of_getElem? (i := 234) rfl) rfl
theorem ml_J0_495 : Cond.methodLink RJ0 495 yJ1_charAt_3b067 ∈ big := big_2 (List.mem_of_getElem? (i := 235) rfl) rfl
theorem ms_J1_charAt_3b067 : Cond.static yJ1_charAt_3b067 ∈ big := big_2 (List.mem_of_getElem? (i := 236) rfl) rfl
theorem mc_J1_charAt_3b067 : Cond.code yJ1_charAt_3b067 cJ1_charAt_3b067 2 (some .char) ∈ big := big_2 (List.mem_of_getElem? (i := 237) rfl) rfl
theorem ml_J1_9 : Cond.methodLink RJ1 9 yJ0_checkIndex_df160 ∈ big := big_2 (List.mem_of_getElem? (i := 238) rfl) rfl
theorem ms_J0_checkIndex_df160 : Cond.static yJ0_checkIndex_df160 ∈ big := big_2 (List.mem_of_getElem? (i := 239) rfl) rfl
theorem mc_J0_checkIndex_df160 : Cond.code yJ0_checkIndex_df160 cJ0_checkIndex_df160 2 (none) ∈ big := big_3 (List.mem_of_getElem? (i := 0) rfl) rfl
theorem mf_J0_1053 : Cond.fieldLink RJ0 1053 "jdk/internal/util/Preconditions" "SIOOBE_FORMATTER" "Ljava/util/function/BiFunction;" ∈ big := big_3 (List.mem_of_getElem? (i := 1) rfl) rfl
theorem ml_J0_1059 : Cond.methodLink RJ0 1059 yJ3_checkIndex_8e157 ∈ big := big_3 (List.mem_of_getElem? (i := 3) rfl) rfl
theorem ms_J3_checkIndex_8e157 : Cond.static yJ3_checkIndex_8e157 ∈ big := big_3 (List.mem_of_getElem? (i := 4) rfl) rfl
theorem mc_J3_checkIndex_8e157 : Cond.code yJ3_checkIndex_8e157 cJ3_checkIndex_8e157 3 (some .int) ∈ big := big_3 (List.mem_of_getElem? (i := 5) rfl) rfl
theorem ml_J0_498 : Cond.methodLink RJ0 498 yJ2_charAt_3b067 ∈ big := big_3 (List.mem_of_getElem? (i := 6) rfl) rfl
theorem ms_J2_charAt_3b067 : Cond.static yJ2_charAt_3b067 ∈ big := big_3 (List.mem_of_getElem? (i := 7) rfl) rfl
theorem mc_J2_charAt_3b067 : Cond.code yJ2_charAt_3b067 cJ2_charAt_3b067 2 (some .char) ∈ big := big_3 (List.mem_of_getElem? (i := 8) rfl) rfl
theorem ml_J2_67 : Cond.methodLink RJ2 67 yJ2_checkIndex_2214a ∈ big := big_3 (List.mem_of_getElem? (i := 9) rfl) rfl
theorem ms_J2_checkIndex_2214a : Cond.static yJ2_checkIndex_2214a ∈ big := big_3 (List.mem_of_getElem? (i := 10) rfl) rfl
theorem mc_J2_checkIndex_2214a : Cond.code yJ2_checkIndex_2214a cJ2_checkIndex_2214a 2 (none) ∈ big := big_3 (List.mem_of_getElem? (i := 11) rfl) rfl
theorem ml_J2_48 : Cond.methodLink RJ2 48 yJ2_length_9d52b ∈ big := big_3 (List.mem_of_getElem? (i := 12) rfl) rfl
theorem ms_J2_length_9d52b : Cond.static yJ2_length_9d52b ∈ big := big_3 (List.mem_of_getElem? (i := 13) rfl) rfl
theorem mc_J2_length_9d52b : Cond.code yJ2_length_9d52b cJ2_length_9d52b 1 (some .int) ∈ big := big_3 (List.mem_of_getElem? (i := 14) rfl) rfl
theorem ml_J2_414 : Cond.methodLink RJ2 414 yJ0_checkIndex_df160 ∈ big := big_3 (List.mem_of_getElem? (i := 15) rfl) rfl
theorem ml_J2_71 : Cond.methodLink RJ2 71 yJ2_getChar_3b067 ∈ big := big_3 (List.mem_of_getElem? (i := 16) rfl) rfl
theorem ms_J2_getChar_3b067 : Cond.static yJ2_getChar_3b067 ∈ big := big_3 (List.mem_of_getElem? (i := 17) rfl) rfl
theorem mc_J2_getChar_3b067 : Cond.code yJ2_getChar_3b067 cJ2_getChar_3b067 2 (some .char) ∈ big := big_3 (List.mem_of_getElem? (i := 18) rfl) rfl
theorem mf_J2_44 : Cond.fieldLink RJ2 44 "java/lang/StringUTF16" "$assertionsDisabled" "Z" ∈ big := big_3 (List.mem_of_getElem? (i := 19) rfl) rfl
theorem mf_J2_59 : Cond.fieldLink RJ2 59 "java/lang/StringUTF16" "HI_BYTE_SHIFT" "I" ∈ big := big_3 (List.mem_of_getElem? (i := 21) rfl) rfl
theorem mf_J2_63 : Cond.fieldLink RJ2 63 "java/lang/StringUTF16" "LO_BYTE_SHIFT" "I" ∈ big := big_3 (List.mem_of_getElem? (i := 23) rfl) rfl
theorem ml_X4_39 : Cond.methodLink RX4 39 yX4_readLetter ∈ big := big_3 (List.mem_of_getElem? (i := 25) rfl) rfl
theorem mi_X4_readLetter : Cond.instanceMethod yX4_readLetter ∈ big := big_3 (List.mem_of_getElem? (i := 27) rfl) rfl
theorem mc_X4_readLetter : Cond.code yX4_readLetter cX4_readLetter 2 (none) ∈ big := big_3 (List.mem_of_getElem? (i := 28) rfl) rfl
theorem ml_X4_77 : Cond.methodLink RX4 77 yX4_faultAt ∈ big := big_3 (List.mem_of_getElem? (i := 29) rfl) rfl
theorem mi_X4_faultAt : Cond.instanceMethod yX4_faultAt ∈ big := big_3 (List.mem_of_getElem? (i := 31) rfl) rfl
theorem mc_X4_faultAt : Cond.code yX4_faultAt cX4_faultAt 2 (none) ∈ big := big_3 (List.mem_of_getElem? (i := 32) rfl) rfl
theorem ml_X4_82 : Cond.methodLink RX4 82 yX3_hasRoomForGroup ∈ big := big_3 (List.mem_of_getElem? (i := 33) rfl) rfl
theorem ml_X4_67 : Cond.methodLink RX4 67 yX4_readNumber ∈ big := big_3 (List.mem_of_getElem? (i := 34) rfl) rfl
theorem mi_X4_readNumber : Cond.instanceMethod yX4_readNumber ∈ big := big_3 (List.mem_of_getElem? (i := 36) rfl) rfl
theorem mc_X4_readNumber : Cond.code yX4_readNumber cX4_readNumber 6 (some .int) ∈ big := big_3 (List.mem_of_getElem? (i := 37) rfl) rfl
theorem ml_X4_86 : Cond.methodLink RX4 86 yX3_addGroup ∈ big := big_3 (List.mem_of_getElem? (i := 39) rfl) rfl
theorem ml_X4_50 : Cond.methodLink RX4 50 yX4_readQuestion ∈ big := big_3 (List.mem_of_getElem? (i := 40) rfl) rfl
theorem mi_X4_readQuestion : Cond.instanceMethod yX4_readQuestion ∈ big := big_3 (List.mem_of_getElem? (i := 42) rfl) rfl
theorem mc_X4_readQuestion : Cond.code yX4_readQuestion cX4_readQuestion 4 (none) ∈ big := big_3 (List.mem_of_getElem? (i := 43) rfl) rfl
theorem ml_X4_92 : Cond.methodLink RX4 92 yX3_hasRoomForQuestion ∈ big := big_3 (List.mem_of_getElem? (i := 45) rfl) rfl
theorem ml_X4_95 : Cond.methodLink RX4 95 yX3_addQuestion ∈ big := big_3 (List.mem_of_getElem? (i := 46) rfl) rfl
theorem ml_X4_59 : Cond.methodLink RX4 59 yX4_readBearing ∈ big := big_3 (List.mem_of_getElem? (i := 48) rfl) rfl
theorem mi_X4_readBearing : Cond.instanceMethod yX4_readBearing ∈ big := big_3 (List.mem_of_getElem? (i := 50) rfl) rfl
theorem mc_X4_readBearing : Cond.code yX4_readBearing cX4_readBearing 6 (none) ∈ big := big_3 (List.mem_of_getElem? (i := 51) rfl) rfl
theorem ml_X4_101 : Cond.methodLink RX4 101 yX3_putBearing ∈ big := big_3 (List.mem_of_getElem? (i := 52) rfl) rfl
theorem ml_X6_196 : Cond.methodLink RX6 196 yX3_become ∈ big := big_3 (List.mem_of_getElem? (i := 56) rfl) rfl
theorem ma_byte : Cond.arrayClass .byte ∈ big := big_3 (List.mem_of_getElem? (i := 57) rfl) rfl
theorem ml_L_77 : Cond.methodLink RL 77 yX6_fault ∈ big := big_3 (List.mem_of_getElem? (i := 58) rfl) rfl
theorem mi_X6_fault : Cond.instanceMethod yX6_fault ∈ big := big_3 (List.mem_of_getElem? (i := 59) rfl) rfl
theorem me_X6_fault : Cond.selects RX6 yX6_fault yX6_fault ∈ big := big_3 (List.mem_of_getElem? (i := 60) rfl) rfl
theorem mc_X6_fault : Cond.code yX6_fault cX6_fault 1 (some .int) ∈ big := big_3 (List.mem_of_getElem? (i := 61) rfl) rfl
theorem ml_L_82 : Cond.methodLink RL 82 yX6_yes ∈ big := big_3 (List.mem_of_getElem? (i := 62) rfl) rfl
theorem mi_X6_yes : Cond.instanceMethod yX6_yes ∈ big := big_3 (List.mem_of_getElem? (i := 63) rfl) rfl
theorem me_X6_yes : Cond.selects RX6 yX6_yes yX6_yes ∈ big := big_3 (List.mem_of_getElem? (i := 64) rfl) rfl
theorem mc_X6_yes : Cond.code yX6_yes cX6_yes 4 (some .int) ∈ big := big_3 (List.mem_of_getElem? (i := 65) rfl) rfl
theorem ml_X6_200 : Cond.methodLink RX6 200 yX3_yesOf ∈ big := big_3 (List.mem_of_getElem? (i := 66) rfl) rfl
theorem ml_L_86 : Cond.methodLink RL 86 yX6_answers ∈ big := big_3 (List.mem_of_getElem? (i := 67) rfl) rfl
theorem mi_X6_answers : Cond.instanceMethod yX6_answers ∈ big := big_3 (List.mem_of_getElem? (i := 68) rfl) rfl
theorem me_X6_answers : Cond.selects RX6 yX6_answers yX6_answers ∈ big := big_3 (List.mem_of_getElem? (i := 69) rfl) rfl
theorem mc_X6_answers : Cond.code yX6_answers cX6_answers 3 (some .int) ∈ big := big_3 (List.mem_of_getElem? (i := 70) rfl) rfl
theorem ml_X6_204 : Cond.methodLink RX6 204 yX5_answersBetween ∈ big := big_3 (List.mem_of_getElem? (i := 71) rfl) rfl
theorem ms_X5_answersBetween : Cond.static yX5_answersBetween ∈ big := big_3 (List.mem_of_getElem? (i := 72) rfl) rfl
theorem mc_X5_answersBetween : Cond.code yX5_answersBetween cX5_answersBetween 5 (some .int) ∈ big := big_3 (List.mem_of_getElem? (i := 73) rfl) rfl
theorem ml_X5_31 : Cond.methodLink RX5 31 yX5_answersOf ∈ big := big_3 (List.mem_of_getElem? (i := 74) rfl) rfl
theorem ms_X5_answersOf : Cond.static yX5_answersOf ∈ big := big_3 (List.mem_of_getElem? (i := 75) rfl) rfl
theorem mc_X5_answersOf : Cond.code yX5_answersOf cX5_answersOf 7 (some .int) ∈ big := big_3 (List.mem_of_getElem? (i := 76) rfl) rfl
theorem ml_X5_9 : Cond.methodLink RX5 9 yX3_countOf ∈ big := big_3 (List.mem_of_getElem? (i := 77) rfl) rfl
theorem ml_X5_15 : Cond.methodLink RX5 15 yX3_homeOf ∈ big := big_3 (List.mem_of_getElem? (i := 78) rfl) rfl
theorem ml_X5_18 : Cond.methodLink RX5 18 yX3_willOf ∈ big := big_3 (List.mem_of_getElem? (i := 79) rfl) rfl
theorem ml_X6_210 : Cond.methodLink RX6 210 yX5_leftBy ∈ big := big_3 (List.mem_of_getElem? (i := 80) rfl) rfl
theorem ms_X5_leftBy : Cond.static yX5_leftBy ∈ big := big_3 (List.mem_of_getElem? (i := 81) rfl) rfl
theorem mc_X5_leftBy : Cond.code yX5_leftBy cX5_leftBy 4 (some .int) ∈ big := big_3 (List.mem_of_getElem? (i := 82) rfl) rfl
theorem ml_X5_25 : Cond.methodLink RX5 25 yX5_leftOf ∈ big := big_3 (List.mem_of_getElem? (i := 83) rfl) rfl
theorem ms_X5_leftOf : Cond.static yX5_leftOf ∈ big := big_3 (List.mem_of_getElem? (i := 84) rfl) rfl
theorem mc_X5_leftOf : Cond.code yX5_leftOf cX5_leftOf 5 (some .int) ∈ big := big_3 (List.mem_of_getElem? (i := 85) rfl) rfl
theorem ml_L_90 : Cond.methodLink RL 90 yX6_by ∈ big := big_3 (List.mem_of_getElem? (i := 86) rfl) rfl
theorem mi_X6_by : Cond.instanceMethod yX6_by ∈ big := big_3 (List.mem_of_getElem? (i := 87) rfl) rfl
theorem me_X6_by : Cond.selects RX6 yX6_by yX6_by ∈ big := big_3 (List.mem_of_getElem? (i := 88) rfl) rfl
theorem mc_X6_by : Cond.code yX6_by cX6_by 4 (some .int) ∈ big := big_3 (List.mem_of_getElem? (i := 89) rfl) rfl
theorem ml_X6_214 : Cond.methodLink RX6 214 yX5_shareBetween ∈ big := big_3 (List.mem_of_getElem? (i := 90) rfl) rfl
theorem ms_X5_shareBetween : Cond.static yX5_shareBetween ∈ big := big_3 (List.mem_of_getElem? (i := 91) rfl) rfl
theorem mc_X5_shareBetween : Cond.code yX5_shareBetween cX5_shareBetween 6 (some .int) ∈ big := big_3 (List.mem_of_getElem? (i := 92) rfl) rfl
theorem ml_X5_34 : Cond.methodLink RX5 34 yX3_yesOf ∈ big := big_3 (List.mem_of_getElem? (i := 93) rfl) rfl
theorem ml_X5_38 : Cond.methodLink RX5 38 yX5_answersBetween ∈ big := big_3 (List.mem_of_getElem? (i := 94) rfl) rfl
theorem ml_X6_218 : Cond.methodLink RX6 218 yX5_offBy ∈ big := big_3 (List.mem_of_getElem? (i := 96) rfl) rfl
theorem ms_X5_offBy : Cond.static yX5_offBy ∈ big := big_3 (List.mem_of_getElem? (i := 97) rfl) rfl
theorem mc_X5_offBy : Cond.code yX5_offBy cX5_offBy 3 (some .int) ∈ big := big_3 (List.mem_of_getElem? (i := 98) rfl) rfl
theorem ml_X5_45 : Cond.methodLink RX5 45 yX5_shareBetween ∈ big := big_3 (List.mem_of_getElem? (i := 99) rfl) rfl
theorem ml_X5_49 : Cond.methodLink RX5 49 yX3_shareOf ∈ big := big_3 (List.mem_of_getElem? (i := 100) rfl) rfl
theorem ml_L_94 : Cond.methodLink RL 94 yX6_hold ∈ big := big_3 (List.mem_of_getElem? (i := 101) rfl) rfl
theorem mi_X6_hold : Cond.instanceMethod yX6_hold ∈ big := big_3 (List.mem_of_getElem? (i := 102) rfl) rfl
theorem me_X6_hold : Cond.selects RX6 yX6_hold yX6_hold ∈ big := big_3 (List.mem_of_getElem? (i := 103) rfl) rfl
theorem mc_X6_hold : Cond.code yX6_hold cX6_hold 1 (some .int) ∈ big := big_3 (List.mem_of_getElem? (i := 104) rfl) rfl
theorem ml_X6_221 : Cond.methodLink RX6 221 yX3_holding ∈ big := big_3 (List.mem_of_getElem? (i := 105) rfl) rfl
theorem ml_L_98 : Cond.methodLink RL 98 yX6_order ∈ big := big_3 (List.mem_of_getElem? (i := 106) rfl) rfl
theorem mi_X6_order : Cond.instanceMethod yX6_order ∈ big := big_3 (List.mem_of_getElem? (i := 107) rfl) rfl
theorem me_X6_order : Cond.selects RX6 yX6_order yX6_order ∈ big := big_3 (List.mem_of_getElem? (i := 108) rfl) rfl
theorem mc_X6_order : Cond.code yX6_order cX6_order 5 (some .int) ∈ big := big_3 (List.mem_of_getElem? (i := 109) rfl) rfl
theorem ml_X6_225 : Cond.methodLink RX6 225 yJ6_bitCount_0f7a4 ∈ big := big_3 (List.mem_of_getElem? (i := 110) rfl) rfl
theorem ms_J6_bitCount_0f7a4 : Cond.static yJ6_bitCount_0f7a4 ∈ big := big_3 (List.mem_of_getElem? (i := 111) rfl) rfl
theorem mc_J6_bitCount_0f7a4 : Cond.code yJ6_bitCount_0f7a4 cJ6_bitCount_0f7a4 1 (some .int) ∈ big := big_3 (List.mem_of_getElem? (i := 112) rfl) rfl
theorem mk_J6_265 : Cond.constant RJ6 265 (1431655765) ∈ big := big_3 (List.mem_of_getElem? (i := 113) rfl) rfl
theorem mk_J6_266 : Cond.constant RJ6 266 (858993459) ∈ big := big_3 (List.mem_of_getElem? (i := 114) rfl) rfl
theorem mk_J6_267 : Cond.constant RJ6 267 (252645135) ∈ big := big_3 (List.mem_of_getElem? (i := 115) rfl) rfl
theorem ml_X6_230 : Cond.methodLink RX6 230 yX3_hasQuestions ∈ big := big_3 (List.mem_of_getElem? (i := 116) rfl) rfl
theorem mi_X3_hasQuestions : Cond.instanceMethod yX3_hasQuestions ∈ big := big_3 (List.mem_of_getElem? (i := 117) rfl) rfl
theorem me_X3_hasQuestions : Cond.selects RX3 yX3_hasQuestions yX3_hasQuestions ∈ big := big_3 (List.mem_of_getElem? (i := 118) rfl) rfl
theorem mc_X3_hasQuestions : Cond.code yX3_hasQuestions cX3_hasQuestions 2 (some .boolean) ∈ big := big_3 (List.mem_of_getElem? (i := 119) rfl) rfl
theorem ml_X6_233 : Cond.methodLink RX6 233 yX1_leansOfBest ∈ big := big_3 (List.mem_of_getElem? (i := 120) rfl) rfl
theorem mi_X1_leansOfBest : Cond.instanceMethod yX1_leansOfBest ∈ big := big_3 (List.mem_of_getElem? (i := 121) rfl) rfl
theorem me_X1_leansOfBest : Cond.selects RX1 yX1_leansOfBest yX1_leansOfBest ∈ big := big_3 (List.mem_of_getElem? (i := 122) rfl) rfl
theorem mc_X1_leansOfBest : Cond.code yX1_leansOfBest cX1_leansOfBest 4 (some .int) ∈ big := big_3 (List.mem_of_getElem? (i := 123) rfl) rfl
theorem ml_X1_24 : Cond.methodLink RX1 24 yX3_shareOf ∈ big := big_3 (List.mem_of_getElem? (i := 124) rfl) rfl
theorem ml_X1_28 : Cond.methodLink RX1 28 yX1_leastOf ∈ big := big_3 (List.mem_of_getElem? (i := 125) rfl) rfl
theorem mi_X1_leastOf : Cond.instanceMethod yX1_leastOf ∈ big := big_3 (List.mem_of_getElem? (i := 127) rfl) rfl
theorem mc_X1_leastOf : Cond.code yX1_leastOf cX1_leastOf 6 (some .int) ∈ big := big_3 (List.mem_of_getElem? (i := 128) rfl) rfl
theorem mk_X1_35 : Cond.constant RX1 35 (1000000) ∈ big := big_3 (List.mem_of_getElem? (i := 129) rfl) rfl
theorem ml_X1_40 : Cond.methodLink RX1 40 yX1_leansWithFirst ∈ big := big_3 (List.mem_of_getElem? (i := 131) rfl) rfl
theorem mi_X1_leansWithFirst : Cond.instanceMethod yX1_leansWithFirst ∈ big := big_3 (List.mem_of_getElem? (i := 133) rfl) rfl
theorem mc_X1_leansWithFirst : Cond.code yX1_leansWithFirst cX1_leansWithFirst 6 (some .int) ∈ big := big_3 (List.mem_of_getElem? (i := 134) rfl) rfl
theorem ml_X1_49 : Cond.methodLink RX1 49 yX3_shareBehind ∈ big := big_3 (List.mem_of_getElem? (i := 135) rfl) rfl
theorem mi_X3_shareBehind : Cond.instanceMethod yX3_shareBehind ∈ big := big_3 (List.mem_of_getElem? (i := 136) rfl) rfl
theorem me_X3_shareBehind : Cond.selects RX3 yX3_shareBehind yX3_shareBehind ∈ big := big_3 (List.mem_of_getElem? (i := 137) rfl) rfl
theorem mc_X3_shareBehind : Cond.code yX3_shareBehind cX3_shareBehind 6 (some .int) ∈ big := big_3 (List.mem_of_getElem? (i := 138) rfl) rfl
theorem ml_X3_100 : Cond.methodLink RX3 100 yX3_bearingOf ∈ big := big_3 (List.mem_of_getElem? (i := 139) rfl) rfl
theorem ml_X3_103 : Cond.methodLink RX3 103 Lib.Math.min.name ∈ big := big_3 (List.mem_of_getElem? (i := 140) rfl) rfl
theorem ms_Mmin : Cond.static Lib.Math.min.name ∈ big := big_3 (List.mem_of_getElem? (i := 141) rfl) rfl
theorem mc_Mmin : Cond.code Lib.Math.min.name Lib.Math.min.code 2 (some .int) ∈ big := big_3 (List.mem_of_getElem? (i := 142) rfl) rfl
theorem ml_X3_108 : Cond.methodLink RX3 108 Lib.Math.max.name ∈ big := big_3 (List.mem_of_getElem? (i := 143) rfl) rfl
theorem ms_Mmax : Cond.static Lib.Math.max.name ∈ big := big_3 (List.mem_of_getElem? (i := 144) rfl) rfl
theorem mc_Mmax : Cond.code Lib.Math.max.name Lib.Math.max.code 2 (some .int) ∈ big := big_3 (List.mem_of_getElem? (i := 145) rfl) rfl
theorem ml_X1_53 : Cond.methodLink RX1 53 Lib.Math.abs.name ∈ big := big_3 (List.mem_of_getElem? (i := 146) rfl) rfl
theorem ms_Mabs : Cond.static Lib.Math.abs.name ∈ big := big_3 (List.mem_of_getElem? (i := 147) rfl) rfl
theorem mc_Mabs : Cond.code Lib.Math.abs.name Lib.Math.abs.code 1 (some .int) ∈ big := big_3 (List.mem_of_getElem? (i := 148) rfl) rfl
theorem ml_X1_44 : Cond.methodLink RX1 44 Lib.Math.min.name ∈ big := big_3 (List.mem_of_getElem? (i := 149) rfl) rfl
theorem ml_X6_236 : Cond.methodLink RX6 236 yX1_questionOfBest ∈ big := big_3 (List.mem_of_getElem? (i := 150) rfl) rfl
theorem mi_X1_questionOfBest : Cond.instanceMethod yX1_questionOfBest ∈ big := big_3 (List.mem_of_getElem? (i := 151) rfl) rfl
theorem me_X1_questionOfBest : Cond.selects RX1 yX1_questionOfBest yX1_questionOfBest ∈ big := big_3 (List.mem_of_getElem? (i := 152) rfl) rfl
theorem mc_X1_questionOfBest : Cond.code yX1_questionOfBest cX1_questionOfBest 6 (some .int) ∈ big := big_3 (List.mem_of_getElem? (i := 153) rfl) rfl
theorem ml_X1_32 : Cond.methodLink RX1 32 yX1_firstOf ∈ big := big_3 (List.mem_of_getElem? (i := 154) rfl) rfl
theorem mi_X1_firstOf : Cond.instanceMethod yX1_firstOf ∈ big := big_3 (List.mem_of_getElem? (i := 156) rfl) rfl
theorem mc_X1_firstOf : Cond.code yX1_firstOf cX1_firstOf 5 (some .int) ∈ big := big_3 (List.mem_of_getElem? (i := 157) rfl) rfl
theorem ml_L_102 : Cond.methodLink RL 102 yX6_blame ∈ big := big_3 (List.mem_of_getElem? (i := 158) rfl) rfl
theorem mi_X6_blame : Cond.instanceMethod yX6_blame ∈ big := big_3 (List.mem_of_getElem? (i := 159) rfl) rfl
theorem me_X6_blame : Cond.selects RX6 yX6_blame yX6_blame ∈ big := big_3 (List.mem_of_getElem? (i := 160) rfl) rfl
theorem mc_X6_blame : Cond.code yX6_blame cX6_blame 6 (some .int) ∈ big := big_3 (List.mem_of_getElem? (i := 161) rfl) rfl
theorem ml_X6_242 : Cond.methodLink RX6 242 Lib.Math.abs.name ∈ big := big_3 (List.mem_of_getElem? (i := 162) rfl) rfl
theorem ml_L_106 : Cond.methodLink RL 106 yX6_nothing ∈ big := big_3 (List.mem_of_getElem? (i := 163) rfl) rfl
theorem mi_X6_nothing : Cond.instanceMethod yX6_nothing ∈ big := big_3 (List.mem_of_getElem? (i := 164) rfl) rfl
theorem me_X6_nothing : Cond.selects RX6 yX6_nothing yX6_nothing ∈ big := big_3 (List.mem_of_getElem? (i := 165) rfl) rfl
theorem mc_X6_nothing : Cond.code yX6_nothing cX6_nothing 3 (some .int) ∈ big := big_3 (List.mem_of_getElem? (i := 166) rfl) rfl
theorem ml_L_110 : Cond.methodLink RL 110 yX6_enough ∈ big := big_3 (List.mem_of_getElem? (i := 167) rfl) rfl
theorem mi_X6_enough : Cond.instanceMethod yX6_enough ∈ big := big_3 (List.mem_of_getElem? (i := 168) rfl) rfl
theorem me_X6_enough : Cond.selects RX6 yX6_enough yX6_enough ∈ big := big_3 (List.mem_of_getElem? (i := 169) rfl) rfl
theorem mc_X6_enough : Cond.code yX6_enough cX6_enough 3 (some .int) ∈ big := big_3 (List.mem_of_getElem? (i := 170) rfl) rfl
theorem ml_X6_247 : Cond.methodLink RX6 247 yX6_refuseBelowNone ∈ big := big_3 (List.mem_of_getElem? (i := 171) rfl) rfl
theorem mi_X6_refuseBelowNone : Cond.instanceMethod yX6_refuseBelowNone ∈ big := big_3 (List.mem_of_getElem? (i := 173) rfl) rfl
theorem mc_X6_refuseBelowNone : Cond.code yX6_refuseBelowNone cX6_refuseBelowNone 2 (some .int) ∈ big := big_3 (List.mem_of_getElem? (i := 174) rfl) rfl
theorem ml_X6_250 : Cond.methodLink RX6 250 yX5_enoughFor ∈ big := big_3 (List.mem_of_getElem? (i := 175) rfl) rfl
theorem ms_X5_enoughFor : Cond.static yX5_enoughFor ∈ big := big_3 (List.mem_of_getElem? (i := 176) rfl) rfl
theorem mc_X5_enoughFor : Cond.code yX5_enoughFor cX5_enoughFor 4 (some .int) ∈ big := big_3 (List.mem_of_getElem? (i := 177) rfl) rfl
theorem ml_X5_59 : Cond.methodLink RX5 59 yX5_offBy ∈ big := big_3 (List.mem_of_getElem? (i := 178) rfl) rfl
theorem ml_X5_62 : Cond.methodLink RX5 62 Lib.Math.abs.name ∈ big := big_3 (List.mem_of_getElem? (i := 179) rfl) rfl
theorem ml_L_114 : Cond.methodLink RL 114 yX6_cost ∈ big := big_3 (List.mem_of_getElem? (i := 180) rfl) rfl
theorem mi_X6_cost : Cond.instanceMethod yX6_cost ∈ big := big_3 (List.mem_of_getElem? (i := 181) rfl) rfl
theorem me_X6_cost : Cond.selects RX6 yX6_cost yX6_cost ∈ big := big_3 (List.mem_of_getElem? (i := 182) rfl) rfl
theorem mc_X6_cost : Cond.code yX6_cost cX6_cost 2 (some .int) ∈ big := big_3 (List.mem_of_getElem? (i := 183) rfl) rfl
theorem ml_X6_253 : Cond.methodLink RX6 253 yX5_costOf ∈ big := big_3 (List.mem_of_getElem? (i := 184) rfl) rfl
theorem ms_X5_costOf : Cond.static yX5_costOf ∈ big := big_3 (List.mem_of_getElem? (i := 185) rfl) rfl
theorem mc_X5_costOf : Cond.code yX5_costOf cX5_costOf 4 (some .int) ∈ big := big_3 (List.mem_of_getElem? (i := 186) rfl) rfl
theorem ml_X5_52 : Cond.methodLink RX5 52 yX5_leftBy ∈ big := big_3 (List.mem_of_getElem? (i := 187) rfl) rfl
theorem ml_L_118 : Cond.methodLink RL 118 yX6_fine ∈ big := big_3 (List.mem_of_getElem? (i := 188) rfl) rfl
theorem mi_X6_fine : Cond.instanceMethod yX6_fine ∈ big := big_3 (List.mem_of_getElem? (i := 189) rfl) rfl
theorem me_X6_fine : Cond.selects RX6 yX6_fine yX6_fine ∈ big := big_3 (List.mem_of_getElem? (i := 190) rfl) rfl
theorem mc_X6_fine : Cond.code yX6_fine cX6_fine 3 (some .int) ∈ big := big_3 (List.mem_of_getElem? (i := 191) rfl) rfl
theorem ml_X6_256 : Cond.methodLink RX6 256 yX5_finest ∈ big := big_3 (List.mem_of_getElem? (i := 192) rfl) rfl
theorem ms_X5_finest : Cond.static yX5_finest ∈ big := big_3 (List.mem_of_getElem? (i := 193) rfl) rfl
theorem mc_X5_finest : Cond.code yX5_finest cX5_finest 7 (some .int) ∈ big := big_3 (List.mem_of_getElem? (i := 194) rfl) rfl
theorem mk_X5_67 : Cond.constant RX5 67 (1000000) ∈ big := big_3 (List.mem_of_getElem? (i := 195) rfl) rfl
theorem ml_X5_68 : Cond.methodLink RX5 68 yX5_costOf ∈ big := big_3 (List.mem_of_getElem? (i := 196) rfl) rfl
theorem ml_L_122 : Cond.methodLink RL 122 yX6_never ∈ big := big_3 (List.mem_of_getElem? (i := 197) rfl) rfl
theorem mi_X6_never : Cond.instanceMethod yX6_never ∈ big := big_3 (List.mem_of_getElem? (i := 198) rfl) rfl
theorem me_X6_never : Cond.selects RX6 yX6_never yX6_never ∈ big := big_3 (List.mem_of_getElem? (i := 199) rfl) rfl
theorem mc_X6_never : Cond.code yX6_never cX6_never 1 (some .int) ∈ big := big_3 (List.mem_of_getElem? (i := 200) rfl) rfl
theorem ml_X6_259 : Cond.methodLink RX6 259 yX5_groupsThatNeverAnswer ∈ big := big_3 (List.mem_of_getElem? (i := 201) rfl) rfl
theorem ms_X5_groupsThatNeverAnswer : Cond.static yX5_groupsThatNeverAnswer ∈ big := big_3 (List.mem_of_getElem? (i := 202) rfl) rfl
theorem mc_X5_groupsThatNeverAnswer : Cond.code yX5_groupsThatNeverAnswer cX5_groupsThatNeverAnswer 3 (some .int) ∈ big := big_3 (List.mem_of_getElem? (i := 203) rfl) rfl
theorem ml_L_126 : Cond.methodLink RL 126 yX6_late ∈ big := big_3 (List.mem_of_getElem? (i := 204) rfl) rfl
theorem mi_X6_late : Cond.instanceMethod yX6_late ∈ big := big_3 (List.mem_of_getElem? (i := 205) rfl) rfl
theorem me_X6_late : Cond.selects RX6 yX6_late yX6_late ∈ big := big_3 (List.mem_of_getElem? (i := 206) rfl) rfl
theorem mc_X6_late : Cond.code yX6_late cX6_late 3 (some .int) ∈ big := big_3 (List.mem_of_getElem? (i := 207) rfl) rfl
theorem ml_L_130 : Cond.methodLink RL 130 yX6_fits ∈ big := big_3 (List.mem_of_getElem? (i := 208) rfl) rfl
theorem mi_X6_fits : Cond.instanceMethod yX6_fits ∈ big := big_3 (List.mem_of_getElem? (i := 209) rfl) rfl
theorem me_X6_fits : Cond.selects RX6 yX6_fits yX6_fits ∈ big := big_3 (List.mem_of_getElem? (i := 210) rfl) rfl
theorem mc_X6_fits : Cond.code yX6_fits cX6_fits 5 (some .int) ∈ big := big_3 (List.mem_of_getElem? (i := 211) rfl) rfl
theorem ml_L_134 : Cond.methodLink RL 134 yX6_halves ∈ big := big_3 (List.mem_of_getElem? (i := 212) rfl) rfl
theorem mi_X6_halves : Cond.instanceMethod yX6_halves ∈ big := big_3 (List.mem_of_getElem? (i := 213) rfl) rfl
theorem me_X6_halves : Cond.selects RX6 yX6_halves yX6_halves ∈ big := big_3 (List.mem_of_getElem? (i := 214) rfl) rfl
theorem mc_X6_halves : Cond.code yX6_halves cX6_halves 2 (some .int) ∈ big := big_3 (List.mem_of_getElem? (i := 215) rfl) rfl
theorem ml_L_138 : Cond.methodLink RL 138 yX6_twin ∈ big := big_3 (List.mem_of_getElem? (i := 216) rfl) rfl
theorem mi_X6_twin : Cond.instanceMethod yX6_twin ∈ big := big_3 (List.mem_of_getElem? (i := 217) rfl) rfl
theorem me_X6_twin : Cond.selects RX6 yX6_twin yX6_twin ∈ big := big_3 (List.mem_of_getElem? (i := 218) rfl) rfl
theorem mc_X6_twin : Cond.code yX6_twin cX6_twin 7 (some .int) ∈ big := big_3 (List.mem_of_getElem? (i := 219) rfl) rfl
theorem mk_X6_263 : Cond.constant RX6 263 (1000000) ∈ big := big_3 (List.mem_of_getElem? (i := 220) rfl) rfl
theorem ml_L_142 : Cond.methodLink RL 142 yX6_nearest ∈ big := big_3 (List.mem_of_getElem? (i := 221) rfl) rfl
theorem mi_X6_nearest : Cond.instanceMethod yX6_nearest ∈ big := big_3 (List.mem_of_getElem? (i := 222) rfl) rfl
theorem me_X6_nearest : Cond.selects RX6 yX6_nearest yX6_nearest ∈ big := big_3 (List.mem_of_getElem? (i := 223) rfl) rfl
theorem mc_X6_nearest : Cond.code yX6_nearest cX6_nearest 5 (some .int) ∈ big := big_3 (List.mem_of_getElem? (i := 224) rfl) rfl
theorem ml_L_146 : Cond.methodLink RL 146 yX6_move ∈ big := big_3 (List.mem_of_getElem? (i := 225) rfl) rfl
theorem mi_X6_move : Cond.instanceMethod yX6_move ∈ big := big_3 (List.mem_of_getElem? (i := 226) rfl) rfl
theorem me_X6_move : Cond.selects RX6 yX6_move yX6_move ∈ big := big_3 (List.mem_of_getElem? (i := 227) rfl) rfl
theorem mc_X6_move : Cond.code yX6_move cX6_move 3 (some .int) ∈ big := big_3 (List.mem_of_getElem? (i := 228) rfl) rfl
theorem ml_X6_264 : Cond.methodLink RX6 264 yX3_leastMoved ∈ big := big_3 (List.mem_of_getElem? (i := 229) rfl) rfl
theorem mi_X3_leastMoved : Cond.instanceMethod yX3_leastMoved ∈ big := big_3 (List.mem_of_getElem? (i := 230) rfl) rfl
theorem me_X3_leastMoved : Cond.selects RX3 yX3_leastMoved yX3_leastMoved ∈ big := big_3 (List.mem_of_getElem? (i := 231) rfl) rfl
theorem mc_X3_leastMoved : Cond.code yX3_leastMoved cX3_leastMoved 10 (some .int) ∈ big := big_3 (List.mem_of_getElem? (i := 232) rfl) rfl
theorem ml_X3_121 : Cond.methodLink RX3 121 yX3_yesAs ∈ big := big_3 (List.mem_of_getElem? (i := 233) rfl) rfl
theorem ml_L_150 : Cond.methodLink RL 150 yX6_judge ∈ big := big_3 (List.mem_of_getElem? (i := 234) rfl) rfl
theorem mi_X6_judge : Cond.instanceMethod yX6_judge ∈ big := big_3 (List.mem_of_getElem? (i := 235) rfl) rfl
theorem me_X6_judge : Cond.selects RX6 yX6_judge yX6_judge ∈ big := big_3 (List.mem_of_getElem? (i := 236) rfl) rfl
theorem mc_X6_judge : Cond.code yX6_judge cX6_judge 4 (some .int) ∈ big := big_3 (List.mem_of_getElem? (i := 237) rfl) rfl
theorem ml_X6_267 : Cond.methodLink RX6 267 yX6_refusalOfRound ∈ big := big_3 (List.mem_of_getElem? (i := 238) rfl) rfl
theorem mi_X6_refusalOfRound : Cond.instanceMethod yX6_refusalOfRound ∈ big := big_4 (List.mem_of_getElem? (i := 0) rfl) rfl
theorem mc_X6_refusalOfRound : Cond.code yX6_refusalOfRound cX6_refusalOfRound 5 (some .int) ∈ big := big_4 (List.mem_of_getElem? (i := 1) rfl) rfl
theorem ml_X6_270 : Cond.methodLink RX6 270 yX6_wrongOfRound ∈ big := big_4 (List.mem_of_getElem? (i := 2) rfl) rfl
theorem mi_X6_wrongOfRound : Cond.instanceMethod yX6_wrongOfRound ∈ big := big_4 (List.mem_of_getElem? (i := 4) rfl) rfl
theorem mc_X6_wrongOfRound : Cond.code yX6_wrongOfRound cX6_wrongOfRound 6 (some .int) ∈ big := big_4 (List.mem_of_getElem? (i := 5) rfl) rfl
theorem ml_X6_323 : Cond.methodLink RX6 323 yX2_intAt ∈ big := big_4 (List.mem_of_getElem? (i := 6) rfl) rfl
theorem ml_X6_326 : Cond.methodLink RX6 326 yX6_contains ∈ big := big_4 (List.mem_of_getElem? (i := 7) rfl) rfl
theorem ml_L_154 : Cond.methodLink RL 154 yX6_round ∈ big := big_4 (List.mem_of_getElem? (i := 8) rfl) rfl
theorem mi_X6_round : Cond.instanceMethod yX6_round ∈ big := big_4 (List.mem_of_getElem? (i := 9) rfl) rfl
theorem me_X6_round : Cond.selects RX6 yX6_round yX6_round ∈ big := big_4 (List.mem_of_getElem? (i := 10) rfl) rfl
theorem mc_X6_round : Cond.code yX6_round cX6_round 5 (some .int) ∈ big := big_4 (List.mem_of_getElem? (i := 11) rfl) rfl
theorem ml_X6_273 : Cond.methodLink RX6 273 yX6_leansOfRound ∈ big := big_4 (List.mem_of_getElem? (i := 12) rfl) rfl
theorem mi_X6_leansOfRound : Cond.instanceMethod yX6_leansOfRound ∈ big := big_4 (List.mem_of_getElem? (i := 14) rfl) rfl
theorem mc_X6_leansOfRound : Cond.code yX6_leansOfRound cX6_leansOfRound 8 (some .int) ∈ big := big_4 (List.mem_of_getElem? (i := 15) rfl) rfl
theorem ml_X6_329 : Cond.methodLink RX6 329 yX3_shareBehind ∈ big := big_4 (List.mem_of_getElem? (i := 16) rfl) rfl
theorem ml_X6_276 : Cond.methodLink RX6 276 yX6_shareInRound ∈ big := big_4 (List.mem_of_getElem? (i := 17) rfl) rfl
theorem mi_X6_shareInRound : Cond.instanceMethod yX6_shareInRound ∈ big := big_4 (List.mem_of_getElem? (i := 19) rfl) rfl
theorem mc_X6_shareInRound : Cond.code yX6_shareInRound cX6_shareInRound 5 (some .int) ∈ big := big_4 (List.mem_of_getElem? (i := 20) rfl) rfl
theorem ml_L_158 : Cond.methodLink RL 158 yX6_change ∈ big := big_4 (List.mem_of_getElem? (i := 21) rfl) rfl
theorem mi_X6_change : Cond.instanceMethod yX6_change ∈ big := big_4 (List.mem_of_getElem? (i := 22) rfl) rfl
theorem me_X6_change : Cond.selects RX6 yX6_change yX6_change ∈ big := big_4 (List.mem_of_getElem? (i := 23) rfl) rfl
theorem mc_X6_change : Cond.code yX6_change cX6_change 5 (some .int) ∈ big := big_4 (List.mem_of_getElem? (i := 24) rfl) rfl
theorem ml_X6_279 : Cond.methodLink RX6 279 yX3_putView ∈ big := big_4 (List.mem_of_getElem? (i := 25) rfl) rfl
theorem mi_X3_putView : Cond.instanceMethod yX3_putView ∈ big := big_4 (List.mem_of_getElem? (i := 26) rfl) rfl
theorem me_X3_putView : Cond.selects RX3 yX3_putView yX3_putView ∈ big := big_4 (List.mem_of_getElem? (i := 27) rfl) rfl
theorem mc_X3_putView : Cond.code yX3_putView cX3_putView 3 (none) ∈ big := big_4 (List.mem_of_getElem? (i := 28) rfl) rfl
theorem ml_X6_282 : Cond.methodLink RX6 282 yX3_splitGroup ∈ big := big_4 (List.mem_of_getElem? (i := 29) rfl) rfl
theorem mi_X3_splitGroup : Cond.instanceMethod yX3_splitGroup ∈ big := big_4 (List.mem_of_getElem? (i := 30) rfl) rfl
theorem me_X3_splitGroup : Cond.selects RX3 yX3_splitGroup yX3_splitGroup ∈ big := big_4 (List.mem_of_getElem? (i := 31) rfl) rfl
theorem mc_X3_splitGroup : Cond.code yX3_splitGroup cX3_splitGroup 4 (some .int) ∈ big := big_4 (List.mem_of_getElem? (i := 32) rfl) rfl
theorem ml_X3_57 : Cond.methodLink RX3 57 yX3_homeOf ∈ big := big_4 (List.mem_of_getElem? (i := 33) rfl) rfl
theorem ml_X3_60 : Cond.methodLink RX3 60 yX3_willOf ∈ big := big_4 (List.mem_of_getElem? (i := 34) rfl) rfl
theorem ml_X3_63 : Cond.methodLink RX3 63 yX3_addGroup ∈ big := big_4 (List.mem_of_getElem? (i := 35) rfl) rfl
theorem ml_L_162 : Cond.methodLink RL 162 yX6_doors ∈ big := big_4 (List.mem_of_getElem? (i := 36) rfl) rfl
theorem mi_X6_doors : Cond.instanceMethod yX6_doors ∈ big := big_4 (List.mem_of_getElem? (i := 37) rfl) rfl
theorem me_X6_doors : Cond.selects RX6 yX6_doors yX6_doors ∈ big := big_4 (List.mem_of_getElem? (i := 38) rfl) rfl
theorem mc_X6_doors : Cond.code yX6_doors cX6_doors 4 (some .int) ∈ big := big_4 (List.mem_of_getElem? (i := 39) rfl) rfl
theorem ml_X6_291 : Cond.methodLink RX6 291 yX3_knock ∈ big := big_4 (List.mem_of_getElem? (i := 40) rfl) rfl
theorem mi_X3_knock : Cond.instanceMethod yX3_knock ∈ big := big_4 (List.mem_of_getElem? (i := 41) rfl) rfl
theorem me_X3_knock : Cond.selects RX3 yX3_knock yX3_knock ∈ big := big_4 (List.mem_of_getElem? (i := 42) rfl) rfl
theorem mc_X3_knock : Cond.code yX3_knock cX3_knock 4 (none) ∈ big := big_4 (List.mem_of_getElem? (i := 43) rfl) rfl
theorem ml_X3_125 : Cond.methodLink RX3 125 yX3_draw ∈ big := big_4 (List.mem_of_getElem? (i := 44) rfl) rfl
theorem mi_X3_draw : Cond.instanceMethod yX3_draw ∈ big := big_4 (List.mem_of_getElem? (i := 46) rfl) rfl
theorem mc_X3_draw : Cond.code yX3_draw cX3_draw 2 (some .int) ∈ big := big_4 (List.mem_of_getElem? (i := 47) rfl) rfl
theorem mk_X3_128 : Cond.constant RX3 128 (1103515245) ∈ big := big_4 (List.mem_of_getElem? (i := 48) rfl) rfl
theorem ml_L_166 : Cond.methodLink RL 166 yX6_seed ∈ big := big_4 (List.mem_of_getElem? (i := 49) rfl) rfl
theorem mi_X6_seed : Cond.instanceMethod yX6_seed ∈ big := big_4 (List.mem_of_getElem? (i := 50) rfl) rfl
theorem me_X6_seed : Cond.selects RX6 yX6_seed yX6_seed ∈ big := big_4 (List.mem_of_getElem? (i := 51) rfl) rfl
theorem mc_X6_seed : Cond.code yX6_seed cX6_seed 3 (some .int) ∈ big := big_4 (List.mem_of_getElem? (i := 52) rfl) rfl
theorem ml_L_170 : Cond.methodLink RL 170 yX6_act ∈ big := big_4 (List.mem_of_getElem? (i := 53) rfl) rfl
theorem mi_X6_act : Cond.instanceMethod yX6_act ∈ big := big_4 (List.mem_of_getElem? (i := 54) rfl) rfl
theorem me_X6_act : Cond.selects RX6 yX6_act yX6_act ∈ big := big_4 (List.mem_of_getElem? (i := 55) rfl) rfl
theorem mc_X6_act : Cond.code yX6_act cX6_act 4 (some .int) ∈ big := big_4 (List.mem_of_getElem? (i := 56) rfl) rfl
theorem ml_X6_297 : Cond.methodLink RX6 297 yX0_forget ∈ big := big_4 (List.mem_of_getElem? (i := 57) rfl) rfl
theorem mi_X0_forget : Cond.instanceMethod yX0_forget ∈ big := big_4 (List.mem_of_getElem? (i := 58) rfl) rfl
theorem me_X0_forget : Cond.selects RX0 yX0_forget yX0_forget ∈ big := big_4 (List.mem_of_getElem? (i := 59) rfl) rfl
theorem mc_X0_forget : Cond.code yX0_forget cX0_forget 1 (none) ∈ big := big_4 (List.mem_of_getElem? (i := 60) rfl) rfl
theorem ml_X6_300 : Cond.methodLink RX6 300 yX0_run ∈ big := big_4 (List.mem_of_getElem? (i := 61) rfl) rfl
theorem mi_X0_run : Cond.instanceMethod yX0_run ∈ big := big_4 (List.mem_of_getElem? (i := 62) rfl) rfl
theorem me_X0_run : Cond.selects RX0 yX0_run yX0_run ∈ big := big_4 (List.mem_of_getElem? (i := 63) rfl) rfl
theorem mc_X0_run : Cond.code yX0_run cX0_run 6 (some .int) ∈ big := big_4 (List.mem_of_getElem? (i := 64) rfl) rfl
theorem ml_X0_28 : Cond.methodLink RX0 28 yX0_asksFrom ∈ big := big_4 (List.mem_of_getElem? (i := 65) rfl) rfl
theorem mi_X0_asksFrom : Cond.instanceMethod yX0_asksFrom ∈ big := big_4 (List.mem_of_getElem? (i := 67) rfl) rfl
theorem mc_X0_asksFrom : Cond.code yX0_asksFrom cX0_asksFrom 3 (some .int) ∈ big := big_4 (List.mem_of_getElem? (i := 68) rfl) rfl
theorem ml_X0_47 : Cond.methodLink RX0 47 yX0_begin ∈ big := big_4 (List.mem_of_getElem? (i := 69) rfl) rfl
theorem mi_X0_begin : Cond.instanceMethod yX0_begin ∈ big := big_4 (List.mem_of_getElem? (i := 71) rfl) rfl
theorem mc_X0_begin : Cond.code yX0_begin cX0_begin 2 (none) ∈ big := big_4 (List.mem_of_getElem? (i := 72) rfl) rfl
theorem ml_X0_32 : Cond.methodLink RX0 32 yX0_leansFrom ∈ big := big_4 (List.mem_of_getElem? (i := 73) rfl) rfl
theorem mi_X0_leansFrom : Cond.instanceMethod yX0_leansFrom ∈ big := big_4 (List.mem_of_getElem? (i := 75) rfl) rfl
theorem mc_X0_leansFrom : Cond.code yX0_leansFrom cX0_leansFrom 3 (some .int) ∈ big := big_4 (List.mem_of_getElem? (i := 76) rfl) rfl
theorem ml_X0_35 : Cond.methodLink RX0 35 yX0_sumsFrom ∈ big := big_4 (List.mem_of_getElem? (i := 77) rfl) rfl
theorem mi_X0_sumsFrom : Cond.instanceMethod yX0_sumsFrom ∈ big := big_4 (List.mem_of_getElem? (i := 79) rfl) rfl
theorem mc_X0_sumsFrom : Cond.code yX0_sumsFrom cX0_sumsFrom 3 (some .int) ∈ big := big_4 (List.mem_of_getElem? (i := 80) rfl) rfl
theorem ml_L_174 : Cond.methodLink RL 174 yX6_trace ∈ big := big_4 (List.mem_of_getElem? (i := 81) rfl) rfl
theorem mi_X6_trace : Cond.instanceMethod yX6_trace ∈ big := big_4 (List.mem_of_getElem? (i := 82) rfl) rfl
theorem me_X6_trace : Cond.selects RX6 yX6_trace yX6_trace ∈ big := big_4 (List.mem_of_getElem? (i := 83) rfl) rfl
theorem mc_X6_trace : Cond.code yX6_trace cX6_trace 2 (some .int) ∈ big := big_4 (List.mem_of_getElem? (i := 84) rfl) rfl
theorem ml_X6_303 : Cond.methodLink RX6 303 yX0_traceAt ∈ big := big_4 (List.mem_of_getElem? (i := 85) rfl) rfl
theorem mi_X0_traceAt : Cond.instanceMethod yX0_traceAt ∈ big := big_4 (List.mem_of_getElem? (i := 86) rfl) rfl
theorem me_X0_traceAt : Cond.selects RX0 yX0_traceAt yX0_traceAt ∈ big := big_4 (List.mem_of_getElem? (i := 87) rfl) rfl
theorem mc_X0_traceAt : Cond.code yX0_traceAt cX0_traceAt 2 (some .int) ∈ big := big_4 (List.mem_of_getElem? (i := 88) rfl) rfl
theorem ml_X0_38 : Cond.methodLink RX0 38 Lib.Math.min.name ∈ big := big_4 (List.mem_of_getElem? (i := 89) rfl) rfl
theorem ml_L_178 : Cond.methodLink RL 178 yX6_image ∈ big := big_4 (List.mem_of_getElem? (i := 91) rfl) rfl
theorem mi_X6_image : Cond.instanceMethod yX6_image ∈ big := big_4 (List.mem_of_getElem? (i := 92) rfl) rfl
theorem me_X6_image : Cond.selects RX6 yX6_image yX6_image ∈ big := big_4 (List.mem_of_getElem? (i := 93) rfl) rfl
theorem mc_X6_image : Cond.code yX6_image cX6_image 1 (some .int) ∈ big := big_4 (List.mem_of_getElem? (i := 94) rfl) rfl
theorem ml_L_182 : Cond.methodLink RL 182 yX6_restore ∈ big := big_4 (List.mem_of_getElem? (i := 95) rfl) rfl
theorem mi_X6_restore : Cond.instanceMethod yX6_restore ∈ big := big_4 (List.mem_of_getElem? (i := 96) rfl) rfl
theorem me_X6_restore : Cond.selects RX6 yX6_restore yX6_restore ∈ big := big_4 (List.mem_of_getElem? (i := 97) rfl) rfl
theorem mc_X6_restore : Cond.code yX6_restore cX6_restore 1 (some .int) ∈ big := big_4 (List.mem_of_getElem? (i := 98) rfl) rfl
theorem ml_X6_310 : Cond.methodLink RX6 310 yX2_dropQuestionsFrom ∈ big := big_4 (List.mem_of_getElem? (i := 99) rfl) rfl
theorem mi_X2_dropQuestionsFrom : Cond.instanceMethod yX2_dropQuestionsFrom ∈ big := big_4 (List.mem_of_getElem? (i := 100) rfl) rfl
theorem me_X2_dropQuestionsFrom : Cond.selects RX2 yX2_dropQuestionsFrom yX2_dropQuestionsFrom ∈ big := big_4 (List.mem_of_getElem? (i := 101) rfl) rfl
theorem mc_X2_dropQuestionsFrom : Cond.code yX2_dropQuestionsFrom cX2_dropQuestionsFrom 3 (none) ∈ big := big_4 (List.mem_of_getElem? (i := 102) rfl) rfl
theorem ml_L_186 : Cond.methodLink RL 186 yX6_status ∈ big := big_4 (List.mem_of_getElem? (i := 103) rfl) rfl
theorem mi_X6_status : Cond.instanceMethod yX6_status ∈ big := big_4 (List.mem_of_getElem? (i := 104) rfl) rfl
theorem me_X6_status : Cond.selects RX6 yX6_status yX6_status ∈ big := big_4 (List.mem_of_getElem? (i := 105) rfl) rfl
theorem mc_X6_status : Cond.code yX6_status cX6_status 2 (some .int) ∈ big := big_4 (List.mem_of_getElem? (i := 106) rfl) rfl
theorem ml_X6_314 : Cond.methodLink RX6 314 yX3_peopleOf ∈ big := big_4 (List.mem_of_getElem? (i := 107) rfl) rfl
theorem mn_L_10 : Cond.classLink RL 10 RX7 ∈ big := big_4 (List.mem_of_getElem? (i := 108) rfl) rfl
theorem mb_X7 : Cond.instantiable RX7 33 ∈ big := big_4 (List.mem_of_getElem? (i := 109) rfl) rfl
theorem ml_L_12 : Cond.methodLink RL 12 yX7_init ∈ big := big_4 (List.mem_of_getElem? (i := 110) rfl) rfl
theorem mi_X7_init : Cond.instanceMethod yX7_init ∈ big := big_4 (List.mem_of_getElem? (i := 111) rfl) rfl
theorem mc_X7_init : Cond.code yX7_init cX7_init 2 (none) ∈ big := big_4 (List.mem_of_getElem? (i := 112) rfl) rfl
theorem ml_X7_1 : Cond.methodLink RX7 1 objectInit ∈ big := big_4 (List.mem_of_getElem? (i := 113) rfl) rfl
theorem mf_X7_7 : Cond.fieldLink RX7 7 "AskedTheOtherWayAboutModel" "holding" "[I" ∈ big := big_4 (List.mem_of_getElem? (i := 114) rfl) rfl
theorem mf_X7_13 : Cond.fieldLink RX7 13 "AskedTheOtherWayAboutModel" "rowLength" "[I" ∈ big := big_4 (List.mem_of_getElem? (i := 115) rfl) rfl
theorem mf_X7_16 : Cond.fieldLink RX7 16 "AskedTheOtherWayAboutModel" "rowOf" "[J" ∈ big := big_4 (List.mem_of_getElem? (i := 116) rfl) rfl
theorem mf_X7_85 : Cond.fieldLink RX7 85 "AskedTheOtherWayAboutModel" "questions" "I" ∈ big := big_4 (List.mem_of_getElem? (i := 117) rfl) rfl
theorem mf_X7_20 : Cond.fieldLink RX7 20 "AskedTheOtherWayAboutModel" "kind" "[I" ∈ big := big_4 (List.mem_of_getElem? (i := 118) rfl) rfl
theorem mf_X7_23 : Cond.fieldLink RX7 23 "AskedTheOtherWayAboutModel" "own" "[I" ∈ big := big_4 (List.mem_of_getElem? (i := 119) rfl) rfl
theorem mf_X7_26 : Cond.fieldLink RX7 26 "AskedTheOtherWayAboutModel" "bears" "[I" ∈ big := big_4 (List.mem_of_getElem? (i := 120) rfl) rfl
theorem mf_X7_92 : Cond.fieldLink RX7 92 "AskedTheOtherWayAboutModel" "groups" "I" ∈ big := big_4 (List.mem_of_getElem? (i := 121) rfl) rfl
theorem mf_X7_29 : Cond.fieldLink RX7 29 "AskedTheOtherWayAboutModel" "count" "[I" ∈ big := big_4 (List.mem_of_getElem? (i := 122) rfl) rfl
theorem mf_X7_32 : Cond.fieldLink RX7 32 "AskedTheOtherWayAboutModel" "view" "[I" ∈ big := big_4 (List.mem_of_getElem? (i := 123) rfl) rfl
theorem mf_X7_35 : Cond.fieldLink RX7 35 "AskedTheOtherWayAboutModel" "glad" "[I" ∈ big := big_4 (List.mem_of_getElem? (i := 124) rfl) rfl
theorem mf_X7_38 : Cond.fieldLink RX7 38 "AskedTheOtherWayAboutModel" "home" "[I" ∈ big := big_4 (List.mem_of_getElem? (i := 125) rfl) rfl
theorem mf_X7_41 : Cond.fieldLink RX7 41 "AskedTheOtherWayAboutModel" "will" "[I" ∈ big := big_4 (List.mem_of_getElem? (i := 126) rfl) rfl
theorem mf_X7_71 : Cond.fieldLink RX7 71 "AskedTheOtherWayAboutModel" "penny" "I" ∈ big := big_4 (List.mem_of_getElem? (i := 127) rfl) rfl
theorem mf_X7_139 : Cond.fieldLink RX7 139 "AskedTheOtherWayAboutModel" "half" "I" ∈ big := big_4 (List.mem_of_getElem? (i := 128) rfl) rfl
theorem mf_X7_297 : Cond.fieldLink RX7 297 "AskedTheOtherWayAboutModel" "asked" "I" ∈ big := big_4 (List.mem_of_getElem? (i := 129) rfl) rfl
theorem mf_X7_291 : Cond.fieldLink RX7 291 "AskedTheOtherWayAboutModel" "yeses" "I" ∈ big := big_4 (List.mem_of_getElem? (i := 130) rfl) rfl
theorem mf_X7_75 : Cond.fieldLink RX7 75 "AskedTheOtherWayAboutModel" "seed" "I" ∈ big := big_4 (List.mem_of_getElem? (i := 131) rfl) rfl
theorem mf_X7_78 : Cond.fieldLink RX7 78 "AskedTheOtherWayAboutModel" "fault" "I" ∈ big := big_4 (List.mem_of_getElem? (i := 132) rfl) rfl
theorem mf_X7_44 : Cond.fieldLink RX7 44 "AskedTheOtherWayAboutModel" "refusals" "[I" ∈ big := big_4 (List.mem_of_getElem? (i := 133) rfl) rfl
theorem mf_X7_300 : Cond.fieldLink RX7 300 "AskedTheOtherWayAboutModel" "traced" "I" ∈ big := big_4 (List.mem_of_getElem? (i := 134) rfl) rfl
theorem mf_X7_47 : Cond.fieldLink RX7 47 "AskedTheOtherWayAboutModel" "traces" "[I" ∈ big := big_4 (List.mem_of_getElem? (i := 135) rfl) rfl
theorem mf_X7_316 : Cond.fieldLink RX7 316 "AskedTheOtherWayAboutModel" "imaged" "Z" ∈ big := big_4 (List.mem_of_getElem? (i := 136) rfl) rfl
theorem mf_X7_50 : Cond.fieldLink RX7 50 "AskedTheOtherWayAboutModel" "old" "[I" ∈ big := big_4 (List.mem_of_getElem? (i := 137) rfl) rfl
theorem mf_X7_53 : Cond.fieldLink RX7 53 "AskedTheOtherWayAboutModel" "ahead" "[I" ∈ big := big_4 (List.mem_of_getElem? (i := 138) rfl) rfl
theorem mf_X7_145 : Cond.fieldLink RX7 145 "AskedTheOtherWayAboutModel" "reading" "I" ∈ big := big_4 (List.mem_of_getElem? (i := 139) rfl) rfl
theorem mf_X7_142 : Cond.fieldLink RX7 142 "AskedTheOtherWayAboutModel" "at" "I" ∈ big := big_4 (List.mem_of_getElem? (i := 140) rfl) rfl
theorem mf_X7_56 : Cond.fieldLink RX7 56 "AskedTheOtherWayAboutModel" "numbers" "[I" ∈ big := big_4 (List.mem_of_getElem? (i := 141) rfl) rfl
theorem mf_X7_59 : Cond.fieldLink RX7 59 "AskedTheOtherWayAboutModel" "answer" "[I" ∈ big := big_4 (List.mem_of_getElem? (i := 142) rfl) rfl
theorem mf_X7_62 : Cond.fieldLink RX7 62 "AskedTheOtherWayAboutModel" "left" "[I" ∈ big := big_4 (List.mem_of_getElem? (i := 143) rfl) rfl
theorem mf_X7_65 : Cond.fieldLink RX7 65 "AskedTheOtherWayAboutModel" "order" "[I" ∈ big := big_4 (List.mem_of_getElem? (i := 144) rfl) rfl
theorem mf_X7_68 : Cond.fieldLink RX7 68 "AskedTheOtherWayAboutModel" "best" "[I" ∈ big := big_4 (List.mem_of_getElem? (i := 145) rfl) rfl
theorem mf_X7_245 : Cond.fieldLink RX7 245 "AskedTheOtherWayAboutModel" "many" "I" ∈ big := big_4 (List.mem_of_getElem? (i := 146) rfl) rfl
theorem ml_L_17 : Cond.methodLink RL 17 yX7_row ∈ big := big_4 (List.mem_of_getElem? (i := 214) rfl) rfl
theorem mi_X7_row : Cond.instanceMethod yX7_row ∈ big := big_4 (List.mem_of_getElem? (i := 215) rfl) rfl
theorem me_X7_row : Cond.selects RX7 yX7_row yX7_row ∈ big := big_4 (List.mem_of_getElem? (i := 216) rfl) rfl
theorem mc_X7_row : Cond.code yX7_row cX7_row 5 (some .int) ∈ big := big_4 (List.mem_of_getElem? (i := 217) rfl) rfl
theorem ml_X7_88 : Cond.methodLink RX7 88 yX7_within ∈ big := big_4 (List.mem_of_getElem? (i := 218) rfl) rfl
theorem ms_X7_within : Cond.static yX7_within ∈ big := big_4 (List.mem_of_getElem? (i := 219) rfl) rfl
theorem mc_X7_within : Cond.code yX7_within cX7_within 3 (some .boolean) ∈ big := big_4 (List.mem_of_getElem? (i := 220) rfl) rfl
theorem ml_X7_81 : Cond.methodLink RX7 81 yX7_no ∈ big := big_4 (List.mem_of_getElem? (i := 221) rfl) rfl
theorem mi_X7_no : Cond.instanceMethod yX7_no ∈ big := big_4 (List.mem_of_getElem? (i := 223) rfl) rfl
theorem mc_X7_no : Cond.code yX7_no cX7_no 2 (some .int) ∈ big := big_4 (List.mem_of_getElem? (i := 224) rfl) rfl
theorem ml_L_24 : Cond.methodLink RL 24 yX7_set ∈ big := big_4 (List.mem_of_getElem? (i := 225) rfl) rfl
theorem mi_X7_set : Cond.instanceMethod yX7_set ∈ big := big_4 (List.mem_of_getElem? (i := 226) rfl) rfl
theorem me_X7_set : Cond.selects RX7 yX7_set yX7_set ∈ big := big_4 (List.mem_of_getElem? (i := 227) rfl) rfl
theorem mc_X7_set : Cond.code yX7_set cX7_set 7 (some .int) ∈ big := big_4 (List.mem_of_getElem? (i := 228) rfl) rfl
theorem ml_X7_99 : Cond.methodLink RX7 99 yX7_noRow ∈ big := big_4 (List.mem_of_getElem? (i := 229) rfl) rfl
theorem mi_X7_noRow : Cond.instanceMethod yX7_noRow ∈ big := big_4 (List.mem_of_getElem? (i := 231) rfl) rfl
theorem mc_X7_noRow : Cond.code yX7_noRow cX7_noRow 2 (some .int) ∈ big := big_4 (List.mem_of_getElem? (i := 232) rfl) rfl
theorem ml_X7_95 : Cond.methodLink RX7 95 yX7_isRow ∈ big := big_4 (List.mem_of_getElem? (i := 233) rfl) rfl
theorem mi_X7_isRow : Cond.instanceMethod yX7_isRow ∈ big := big_4 (List.mem_of_getElem? (i := 235) rfl) rfl
theorem mc_X7_isRow : Cond.code yX7_isRow cX7_isRow 2 (some .boolean) ∈ big := big_4 (List.mem_of_getElem? (i := 236) rfl) rfl
theorem ml_L_29 : Cond.methodLink RL 29 yX7_copy ∈ big := big_4 (List.mem_of_getElem? (i := 237) rfl) rfl
theorem mi_X7_copy : Cond.instanceMethod yX7_copy ∈ big := big_4 (List.mem_of_getElem? (i := 238) rfl) rfl
theorem me_X7_copy : Cond.selects RX7 yX7_copy yX7_copy ∈ big := big_4 (List.mem_of_getElem? (i := 239) rfl) rfl
theorem mc_X7_copy : Cond.code yX7_copy cX7_copy 7 (some .int) ∈ big := big_5 (List.mem_of_getElem? (i := 0) rfl) rfl
theorem ml_L_34 : Cond.methodLink RL 34 yX7_element ∈ big := big_5 (List.mem_of_getElem? (i := 1) rfl) rfl
theorem mi_X7_element : Cond.instanceMethod yX7_element ∈ big := big_5 (List.mem_of_getElem? (i := 2) rfl) rfl
theorem me_X7_element : Cond.selects RX7 yX7_element yX7_element ∈ big := big_5 (List.mem_of_getElem? (i := 3) rfl) rfl
theorem mc_X7_element : Cond.code yX7_element cX7_element 3 (some .long) ∈ big := big_5 (List.mem_of_getElem? (i := 4) rfl) rfl
theorem ml_L_39 : Cond.methodLink RL 39 yX7_show ∈ big := big_5 (List.mem_of_getElem? (i := 5) rfl) rfl
theorem mi_X7_show : Cond.instanceMethod yX7_show ∈ big := big_5 (List.mem_of_getElem? (i := 6) rfl) rfl
theorem me_X7_show : Cond.selects RX7 yX7_show yX7_show ∈ big := big_5 (List.mem_of_getElem? (i := 7) rfl) rfl
theorem mc_X7_show : Cond.code yX7_show cX7_show 3 (some .int) ∈ big := big_5 (List.mem_of_getElem? (i := 8) rfl) rfl
theorem ml_X7_102 : Cond.methodLink RX7 102 yX7_isQuestion ∈ big := big_5 (List.mem_of_getElem? (i := 9) rfl) rfl
theorem mi_X7_isQuestion : Cond.instanceMethod yX7_isQuestion ∈ big := big_5 (List.mem_of_getElem? (i := 11) rfl) rfl
theorem mc_X7_isQuestion : Cond.code yX7_isQuestion cX7_isQuestion 2 (some .boolean) ∈ big := big_5 (List.mem_of_getElem? (i := 12) rfl) rfl
theorem ml_L_44 : Cond.methodLink RL 44 yX7_holds ∈ big := big_5 (List.mem_of_getElem? (i := 13) rfl) rfl
theorem mi_X7_holds : Cond.instanceMethod yX7_holds ∈ big := big_5 (List.mem_of_getElem? (i := 14) rfl) rfl
theorem me_X7_holds : Cond.selects RX7 yX7_holds yX7_holds ∈ big := big_5 (List.mem_of_getElem? (i := 15) rfl) rfl
theorem mc_X7_holds : Cond.code yX7_holds cX7_holds 2 (some .int) ∈ big := big_5 (List.mem_of_getElem? (i := 16) rfl) rfl
theorem ml_L_48 : Cond.methodLink RL 48 yX7_says ∈ big := big_5 (List.mem_of_getElem? (i := 17) rfl) rfl
theorem mi_X7_says : Cond.instanceMethod yX7_says ∈ big := big_5 (List.mem_of_getElem? (i := 18) rfl) rfl
theorem me_X7_says : Cond.selects RX7 yX7_says yX7_says ∈ big := big_5 (List.mem_of_getElem? (i := 19) rfl) rfl
theorem mc_X7_says : Cond.code yX7_says cX7_says 4 (some .int) ∈ big := big_5 (List.mem_of_getElem? (i := 20) rfl) rfl
theorem ml_X7_108 : Cond.methodLink RX7 108 yX7_isUnder ∈ big := big_5 (List.mem_of_getElem? (i := 21) rfl) rfl
theorem ms_X7_isUnder : Cond.static yX7_isUnder ∈ big := big_5 (List.mem_of_getElem? (i := 22) rfl) rfl
theorem mc_X7_isUnder : Cond.code yX7_isUnder cX7_isUnder 3 (some .boolean) ∈ big := big_5 (List.mem_of_getElem? (i := 23) rfl) rfl
theorem ml_X7_105 : Cond.methodLink RX7 105 yX7_above ∈ big := big_5 (List.mem_of_getElem? (i := 24) rfl) rfl
theorem ms_X7_above : Cond.static yX7_above ∈ big := big_5 (List.mem_of_getElem? (i := 25) rfl) rfl
theorem mc_X7_above : Cond.code yX7_above cX7_above 1 (some .int) ∈ big := big_5 (List.mem_of_getElem? (i := 26) rfl) rfl
theorem ml_X7_112 : Cond.methodLink RX7 112 yX7_shareOf ∈ big := big_5 (List.mem_of_getElem? (i := 27) rfl) rfl
theorem mi_X7_shareOf : Cond.instanceMethod yX7_shareOf ∈ big := big_5 (List.mem_of_getElem? (i := 29) rfl) rfl
theorem mc_X7_shareOf : Cond.code yX7_shareOf cX7_shareOf 2 (some .int) ∈ big := big_5 (List.mem_of_getElem? (i := 30) rfl) rfl
theorem ml_X7_130 : Cond.methodLink RX7 130 yX7_all ∈ big := big_5 (List.mem_of_getElem? (i := 31) rfl) rfl
theorem mi_X7_all : Cond.instanceMethod yX7_all ∈ big := big_5 (List.mem_of_getElem? (i := 33) rfl) rfl
theorem mc_X7_all : Cond.code yX7_all cX7_all 4 (some .int) ∈ big := big_5 (List.mem_of_getElem? (i := 34) rfl) rfl
theorem ml_X7_207 : Cond.methodLink RX7 207 yX7_yesBy ∈ big := big_5 (List.mem_of_getElem? (i := 35) rfl) rfl
theorem mi_X7_yesBy : Cond.instanceMethod yX7_yesBy ∈ big := big_5 (List.mem_of_getElem? (i := 37) rfl) rfl
theorem mc_X7_yesBy : Cond.code yX7_yesBy cX7_yesBy 4 (some .int) ∈ big := big_5 (List.mem_of_getElem? (i := 38) rfl) rfl
theorem ml_X7_115 : Cond.methodLink RX7 115 yX7_yesOf ∈ big := big_5 (List.mem_of_getElem? (i := 39) rfl) rfl
theorem mi_X7_yesOf : Cond.instanceMethod yX7_yesOf ∈ big := big_5 (List.mem_of_getElem? (i := 41) rfl) rfl
theorem mc_X7_yesOf : Cond.code yX7_yesOf cX7_yesOf 8 (some .int) ∈ big := big_5 (List.mem_of_getElem? (i := 42) rfl) rfl
theorem ml_X7_202 : Cond.methodLink RX7 202 Lib.Math.min.name ∈ big := big_5 (List.mem_of_getElem? (i := 43) rfl) rfl
theorem ml_X7_211 : Cond.methodLink RX7 211 yX7_people ∈ big := big_5 (List.mem_of_getElem? (i := 44) rfl) rfl
theorem mi_X7_people : Cond.instanceMethod yX7_people ∈ big := big_5 (List.mem_of_getElem? (i := 46) rfl) rfl
theorem mc_X7_people : Cond.code yX7_people cX7_people 3 (some .int) ∈ big := big_5 (List.mem_of_getElem? (i := 47) rfl) rfl
theorem ml_X7_214 : Cond.methodLink RX7 214 yX7_thousandths ∈ big := big_5 (List.mem_of_getElem? (i := 48) rfl) rfl
theorem ms_X7_thousandths : Cond.static yX7_thousandths ∈ big := big_5 (List.mem_of_getElem? (i := 49) rfl) rfl
theorem mc_X7_thousandths : Cond.code yX7_thousandths cX7_thousandths 2 (some .int) ∈ big := big_5 (List.mem_of_getElem? (i := 50) rfl) rfl
theorem ml_L_52 : Cond.methodLink RL 52 yX7_question ∈ big := big_5 (List.mem_of_getElem? (i := 51) rfl) rfl
theorem mi_X7_question : Cond.instanceMethod yX7_question ∈ big := big_5 (List.mem_of_getElem? (i := 52) rfl) rfl
theorem me_X7_question : Cond.selects RX7 yX7_question yX7_question ∈ big := big_5 (List.mem_of_getElem? (i := 53) rfl) rfl
theorem mc_X7_question : Cond.code yX7_question cX7_question 3 (some .int) ∈ big := big_5 (List.mem_of_getElem? (i := 54) rfl) rfl
theorem ml_X7_119 : Cond.methodLink RX7 119 yX7_newQuestion ∈ big := big_5 (List.mem_of_getElem? (i := 55) rfl) rfl
theorem mi_X7_newQuestion : Cond.instanceMethod yX7_newQuestion ∈ big := big_5 (List.mem_of_getElem? (i := 57) rfl) rfl
theorem mc_X7_newQuestion : Cond.code yX7_newQuestion cX7_newQuestion 4 (some .int) ∈ big := big_5 (List.mem_of_getElem? (i := 58) rfl) rfl
theorem ml_L_56 : Cond.methodLink RL 56 yX7_group ∈ big := big_5 (List.mem_of_getElem? (i := 59) rfl) rfl
theorem mi_X7_group : Cond.instanceMethod yX7_group ∈ big := big_5 (List.mem_of_getElem? (i := 60) rfl) rfl
theorem me_X7_group : Cond.selects RX7 yX7_group yX7_group ∈ big := big_5 (List.mem_of_getElem? (i := 61) rfl) rfl
theorem mc_X7_group : Cond.code yX7_group cX7_group 6 (some .int) ∈ big := big_5 (List.mem_of_getElem? (i := 62) rfl) rfl
theorem ml_X7_123 : Cond.methodLink RX7 123 yX7_newGroup ∈ big := big_5 (List.mem_of_getElem? (i := 63) rfl) rfl
theorem mi_X7_newGroup : Cond.instanceMethod yX7_newGroup ∈ big := big_5 (List.mem_of_getElem? (i := 65) rfl) rfl
theorem mc_X7_newGroup : Cond.code yX7_newGroup cX7_newGroup 6 (some .int) ∈ big := big_5 (List.mem_of_getElem? (i := 66) rfl) rfl
theorem ml_L_60 : Cond.methodLink RL 60 yX7_questionOf ∈ big := big_5 (List.mem_of_getElem? (i := 67) rfl) rfl
theorem mi_X7_questionOf : Cond.instanceMethod yX7_questionOf ∈ big := big_5 (List.mem_of_getElem? (i := 68) rfl) rfl
theorem me_X7_questionOf : Cond.selects RX7 yX7_questionOf yX7_questionOf ∈ big := big_5 (List.mem_of_getElem? (i := 69) rfl) rfl
theorem mc_X7_questionOf : Cond.code yX7_questionOf cX7_questionOf 3 (some .int) ∈ big := big_5 (List.mem_of_getElem? (i := 70) rfl) rfl
theorem ml_X7_127 : Cond.methodLink RX7 127 yX7_noMuch ∈ big := big_5 (List.mem_of_getElem? (i := 71) rfl) rfl
theorem mi_X7_noMuch : Cond.instanceMethod yX7_noMuch ∈ big := big_5 (List.mem_of_getElem? (i := 73) rfl) rfl
theorem mc_X7_noMuch : Cond.code yX7_noMuch cX7_noMuch 2 (some .int) ∈ big := big_5 (List.mem_of_getElem? (i := 74) rfl) rfl
theorem ml_X7_133 : Cond.methodLink RX7 133 yX7_wrongOf ∈ big := big_5 (List.mem_of_getElem? (i := 75) rfl) rfl
theorem mi_X7_wrongOf : Cond.instanceMethod yX7_wrongOf ∈ big := big_5 (List.mem_of_getElem? (i := 77) rfl) rfl
theorem mc_X7_wrongOf : Cond.code yX7_wrongOf cX7_wrongOf 3 (some .int) ∈ big := big_5 (List.mem_of_getElem? (i := 78) rfl) rfl
theorem ml_X7_232 : Cond.methodLink RX7 232 yX7_hold ∈ big := big_5 (List.mem_of_getElem? (i := 79) rfl) rfl
theorem mi_X7_hold : Cond.instanceMethod yX7_hold ∈ big := big_5 (List.mem_of_getElem? (i := 80) rfl) rfl
theorem me_X7_hold : Cond.selects RX7 yX7_hold yX7_hold ∈ big := big_5 (List.mem_of_getElem? (i := 81) rfl) rfl
theorem mc_X7_hold : Cond.code yX7_hold cX7_hold 3 (some .int) ∈ big := big_5 (List.mem_of_getElem? (i := 82) rfl) rfl
theorem ml_L_64 : Cond.methodLink RL 64 yX7_groupOf ∈ big := big_5 (List.mem_of_getElem? (i := 83) rfl) rfl
theorem mi_X7_groupOf : Cond.instanceMethod yX7_groupOf ∈ big := big_5 (List.mem_of_getElem? (i := 84) rfl) rfl
theorem me_X7_groupOf : Cond.selects RX7 yX7_groupOf yX7_groupOf ∈ big := big_5 (List.mem_of_getElem? (i := 85) rfl) rfl
theorem mc_X7_groupOf : Cond.code yX7_groupOf cX7_groupOf 3 (some .int) ∈ big := big_5 (List.mem_of_getElem? (i := 86) rfl) rfl
theorem ml_X7_136 : Cond.methodLink RX7 136 yX7_isGroup ∈ big := big_5 (List.mem_of_getElem? (i := 87) rfl) rfl
theorem mi_X7_isGroup : Cond.instanceMethod yX7_isGroup ∈ big := big_5 (List.mem_of_getElem? (i := 89) rfl) rfl
theorem mc_X7_isGroup : Cond.code yX7_isGroup cX7_isGroup 2 (some .boolean) ∈ big := big_5 (List.mem_of_getElem? (i := 90) rfl) rfl
theorem ml_L_68 : Cond.methodLink RL 68 yX7_bears ∈ big := big_5 (List.mem_of_getElem? (i := 91) rfl) rfl
theorem mi_X7_bears : Cond.instanceMethod yX7_bears ∈ big := big_5 (List.mem_of_getElem? (i := 92) rfl) rfl
theorem me_X7_bears : Cond.selects RX7 yX7_bears yX7_bears ∈ big := big_5 (List.mem_of_getElem? (i := 93) rfl) rfl
theorem mc_X7_bears : Cond.code yX7_bears cX7_bears 5 (some .int) ∈ big := big_5 (List.mem_of_getElem? (i := 94) rfl) rfl
theorem ml_L_72 : Cond.methodLink RL 72 yX7_ask ∈ big := big_5 (List.mem_of_getElem? (i := 95) rfl) rfl
theorem mi_X7_ask : Cond.instanceMethod yX7_ask ∈ big := big_5 (List.mem_of_getElem? (i := 96) rfl) rfl
theorem me_X7_ask : Cond.selects RX7 yX7_ask yX7_ask ∈ big := big_5 (List.mem_of_getElem? (i := 97) rfl) rfl
theorem mc_X7_ask : Cond.code yX7_ask cX7_ask 4 (some .int) ∈ big := big_5 (List.mem_of_getElem? (i := 98) rfl) rfl
theorem ml_L_76 : Cond.methodLink RL 76 yX7_town ∈ big := big_5 (List.mem_of_getElem? (i := 99) rfl) rfl
theorem mi_X7_town : Cond.instanceMethod yX7_town ∈ big := big_5 (List.mem_of_getElem? (i := 100) rfl) rfl
theorem me_X7_town : Cond.selects RX7 yX7_town yX7_town ∈ big := big_5 (List.mem_of_getElem? (i := 101) rfl) rfl
theorem mc_X7_town : Cond.code yX7_town cX7_town 5 (some .int) ∈ big := big_5 (List.mem_of_getElem? (i := 102) rfl) rfl
theorem ml_X7_192 : Cond.methodLink RX7 192 yX7_keep ∈ big := big_5 (List.mem_of_getElem? (i := 103) rfl) rfl
theorem mi_X7_keep : Cond.instanceMethod yX7_keep ∈ big := big_5 (List.mem_of_getElem? (i := 105) rfl) rfl
theorem mc_X7_keep : Cond.code yX7_keep cX7_keep 3 (none) ∈ big := big_5 (List.mem_of_getElem? (i := 106) rfl) rfl
theorem ml_X7_196 : Cond.methodLink RX7 196 yX7_item ∈ big := big_5 (List.mem_of_getElem? (i := 107) rfl) rfl
theorem mi_X7_item : Cond.instanceMethod yX7_item ∈ big := big_5 (List.mem_of_getElem? (i := 109) rfl) rfl
theorem mc_X7_item : Cond.code yX7_item cX7_item 1 (some .boolean) ∈ big := big_5 (List.mem_of_getElem? (i := 110) rfl) rfl
theorem ml_X7_148 : Cond.methodLink RX7 148 yX7_sign ∈ big := big_5 (List.mem_of_getElem? (i := 111) rfl) rfl
theorem mi_X7_sign : Cond.instanceMethod yX7_sign ∈ big := big_5 (List.mem_of_getElem? (i := 113) rfl) rfl
theorem mc_X7_sign : Cond.code yX7_sign cX7_sign 1 (some .int) ∈ big := big_5 (List.mem_of_getElem? (i := 114) rfl) rfl
theorem ml_X7_178 : Cond.methodLink RX7 178 yX7_word_ ∈ big := big_5 (List.mem_of_getElem? (i := 116) rfl) rfl
theorem mi_X7_word_ : Cond.instanceMethod yX7_word_ ∈ big := big_5 (List.mem_of_getElem? (i := 118) rfl) rfl
theorem mc_X7_word_ : Cond.code yX7_word_ cX7_word_ 5 (some .boolean) ∈ big := big_5 (List.mem_of_getElem? (i := 119) rfl) rfl
theorem ml_X7_165 : Cond.methodLink RX7 165 yX7_word ∈ big := big_5 (List.mem_of_getElem? (i := 120) rfl) rfl
theorem mi_X7_word : Cond.instanceMethod yX7_word ∈ big := big_5 (List.mem_of_getElem? (i := 122) rfl) rfl
theorem mc_X7_word : Cond.code yX7_word cX7_word 3 (some .boolean) ∈ big := big_5 (List.mem_of_getElem? (i := 123) rfl) rfl
theorem ml_X7_152 : Cond.methodLink RX7 152 yJ0_length_8abf5 ∈ big := big_5 (List.mem_of_getElem? (i := 124) rfl) rfl
theorem ml_X7_157 : Cond.methodLink RX7 157 yJ0_charAt_5068e ∈ big := big_5 (List.mem_of_getElem? (i := 125) rfl) rfl
theorem ml_X7_161 : Cond.methodLink RX7 161 yX7_is ∈ big := big_5 (List.mem_of_getElem? (i := 126) rfl) rfl
theorem mi_X7_is : Cond.instanceMethod yX7_is ∈ big := big_5 (List.mem_of_getElem? (i := 128) rfl) rfl
theorem mc_X7_is : Cond.code yX7_is cX7_is 2 (some .boolean) ∈ big := big_5 (List.mem_of_getElem? (i := 129) rfl) rfl
theorem ml_X7_169 : Cond.methodLink RX7 169 yX7_number ∈ big := big_5 (List.mem_of_getElem? (i := 130) rfl) rfl
theorem mi_X7_number : Cond.instanceMethod yX7_number ∈ big := big_5 (List.mem_of_getElem? (i := 132) rfl) rfl
theorem mc_X7_number : Cond.code yX7_number cX7_number 7 (some .boolean) ∈ big := big_5 (List.mem_of_getElem? (i := 133) rfl) rfl
theorem ml_X7_184 : Cond.methodLink RX7 184 yX7_two ∈ big := big_5 (List.mem_of_getElem? (i := 136) rfl) rfl
theorem mi_X7_two : Cond.instanceMethod yX7_two ∈ big := big_5 (List.mem_of_getElem? (i := 138) rfl) rfl
theorem mc_X7_two : Cond.code yX7_two cX7_two 2 (some .boolean) ∈ big := big_5 (List.mem_of_getElem? (i := 139) rfl) rfl
theorem ml_X7_172 : Cond.methodLink RX7 172 yX7_stands ∈ big := big_5 (List.mem_of_getElem? (i := 140) rfl) rfl
theorem mi_X7_stands : Cond.instanceMethod yX7_stands ∈ big := big_5 (List.mem_of_getElem? (i := 142) rfl) rfl
theorem mc_X7_stands : Cond.code yX7_stands cX7_stands 3 (some .boolean) ∈ big := big_5 (List.mem_of_getElem? (i := 143) rfl) rfl
theorem ml_X7_199 : Cond.methodLink RX7 199 yX7_again ∈ big := big_5 (List.mem_of_getElem? (i := 147) rfl) rfl
theorem mi_X7_again : Cond.instanceMethod yX7_again ∈ big := big_5 (List.mem_of_getElem? (i := 149) rfl) rfl
theorem mc_X7_again : Cond.code yX7_again cX7_again 3 (none) ∈ big := big_5 (List.mem_of_getElem? (i := 150) rfl) rfl
theorem ml_L_81 : Cond.methodLink RL 81 yX7_fault ∈ big := big_5 (List.mem_of_getElem? (i := 151) rfl) rfl
theorem mi_X7_fault : Cond.instanceMethod yX7_fault ∈ big := big_5 (List.mem_of_getElem? (i := 152) rfl) rfl
theorem me_X7_fault : Cond.selects RX7 yX7_fault yX7_fault ∈ big := big_5 (List.mem_of_getElem? (i := 153) rfl) rfl
theorem mc_X7_fault : Cond.code yX7_fault cX7_fault 1 (some .int) ∈ big := big_5 (List.mem_of_getElem? (i := 154) rfl) rfl
theorem ml_L_85 : Cond.methodLink RL 85 yX7_yes ∈ big := big_5 (List.mem_of_getElem? (i := 155) rfl) rfl
theorem mi_X7_yes : Cond.instanceMethod yX7_yes ∈ big := big_5 (List.mem_of_getElem? (i := 156) rfl) rfl
theorem me_X7_yes : Cond.selects RX7 yX7_yes yX7_yes ∈ big := big_5 (List.mem_of_getElem? (i := 157) rfl) rfl
theorem mc_X7_yes : Cond.code yX7_yes cX7_yes 4 (some .int) ∈ big := big_5 (List.mem_of_getElem? (i := 158) rfl) rfl
theorem ml_L_89 : Cond.methodLink RL 89 yX7_answers ∈ big := big_5 (List.mem_of_getElem? (i := 159) rfl) rfl
theorem mi_X7_answers : Cond.instanceMethod yX7_answers ∈ big := big_5 (List.mem_of_getElem? (i := 160) rfl) rfl
theorem me_X7_answers : Cond.selects RX7 yX7_answers yX7_answers ∈ big := big_5 (List.mem_of_getElem? (i := 161) rfl) rfl
theorem mc_X7_answers : Cond.code yX7_answers cX7_answers 6 (some .int) ∈ big := big_5 (List.mem_of_getElem? (i := 162) rfl) rfl
theorem ml_X7_223 : Cond.methodLink RX7 223 yX7_isTries ∈ big := big_5 (List.mem_of_getElem? (i := 163) rfl) rfl
theorem ms_X7_isTries : Cond.static yX7_isTries ∈ big := big_5 (List.mem_of_getElem? (i := 164) rfl) rfl
theorem mc_X7_isTries : Cond.code yX7_isTries cX7_isTries 1 (some .boolean) ∈ big := big_5 (List.mem_of_getElem? (i := 165) rfl) rfl
theorem ml_X7_220 : Cond.methodLink RX7 220 yX7_answered ∈ big := big_5 (List.mem_of_getElem? (i := 166) rfl) rfl
theorem mi_X7_answered : Cond.instanceMethod yX7_answered ∈ big := big_5 (List.mem_of_getElem? (i := 168) rfl) rfl
theorem mc_X7_answered : Cond.code yX7_answered cX7_answered 5 (some .int) ∈ big := big_5 (List.mem_of_getElem? (i := 169) rfl) rfl
theorem ml_X7_217 : Cond.methodLink RX7 217 yX7_tries ∈ big := big_5 (List.mem_of_getElem? (i := 170) rfl) rfl
theorem mi_X7_tries : Cond.instanceMethod yX7_tries ∈ big := big_5 (List.mem_of_getElem? (i := 172) rfl) rfl
theorem mc_X7_tries : Cond.code yX7_tries cX7_tries 3 (some .int) ∈ big := big_5 (List.mem_of_getElem? (i := 173) rfl) rfl
theorem ml_L_93 : Cond.methodLink RL 93 yX7_by ∈ big := big_5 (List.mem_of_getElem? (i := 174) rfl) rfl
theorem mi_X7_by : Cond.instanceMethod yX7_by ∈ big := big_5 (List.mem_of_getElem? (i := 175) rfl) rfl
theorem me_X7_by : Cond.selects RX7 yX7_by yX7_by ∈ big := big_5 (List.mem_of_getElem? (i := 176) rfl) rfl
theorem mc_X7_by : Cond.code yX7_by cX7_by 4 (some .int) ∈ big := big_5 (List.mem_of_getElem? (i := 177) rfl) rfl
theorem ml_X7_226 : Cond.methodLink RX7 226 yX7_shareOfAnswers ∈ big := big_5 (List.mem_of_getElem? (i := 178) rfl) rfl
theorem mi_X7_shareOfAnswers : Cond.instanceMethod yX7_shareOfAnswers ∈ big := big_5 (List.mem_of_getElem? (i := 180) rfl) rfl
theorem mc_X7_shareOfAnswers : Cond.code yX7_shareOfAnswers cX7_shareOfAnswers 5 (some .int) ∈ big := big_5 (List.mem_of_getElem? (i := 181) rfl) rfl
theorem ml_X7_229 : Cond.methodLink RX7 229 yX7_offBy ∈ big := big_5 (List.mem_of_getElem? (i := 182) rfl) rfl
theorem mi_X7_offBy : Cond.instanceMethod yX7_offBy ∈ big := big_5 (List.mem_of_getElem? (i := 184) rfl) rfl
theorem mc_X7_offBy : Cond.code yX7_offBy cX7_offBy 3 (some .int) ∈ big := big_5 (List.mem_of_getElem? (i := 185) rfl) rfl
theorem ml_L_97 : Cond.methodLink RL 97 yX7_hold ∈ big := big_5 (List.mem_of_getElem? (i := 186) rfl) rfl
theorem ml_L_101 : Cond.methodLink RL 101 yX7_order ∈ big := big_5 (List.mem_of_getElem? (i := 187) rfl) rfl
theorem mi_X7_order : Cond.instanceMethod yX7_order ∈ big := big_5 (List.mem_of_getElem? (i := 188) rfl) rfl
theorem me_X7_order : Cond.selects RX7 yX7_order yX7_order ∈ big := big_5 (List.mem_of_getElem? (i := 189) rfl) rfl
theorem mc_X7_order : Cond.code yX7_order cX7_order 7 (some .int) ∈ big := big_5 (List.mem_of_getElem? (i := 190) rfl) rfl
theorem ml_X7_252 : Cond.methodLink RX7 252 yJ6_bitCount_0f7a4 ∈ big := big_5 (List.mem_of_getElem? (i := 191) rfl) rfl
theorem ml_X7_257 : Cond.methodLink RX7 257 yX7_has ∈ big := big_5 (List.mem_of_getElem? (i := 192) rfl) rfl
theorem ms_X7_has : Cond.static yX7_has ∈ big := big_5 (List.mem_of_getElem? (i := 193) rfl) rfl
theorem mc_X7_has : Cond.code yX7_has cX7_has 2 (some .boolean) ∈ big := big_5 (List.mem_of_getElem? (i := 194) rfl) rfl
theorem ml_X7_260 : Cond.methodLink RX7 260 yX7_leansOf ∈ big := big_5 (List.mem_of_getElem? (i := 195) rfl) rfl
theorem mi_X7_leansOf : Cond.instanceMethod yX7_leansOf ∈ big := big_5 (List.mem_of_getElem? (i := 197) rfl) rfl
theorem mc_X7_leansOf : Cond.code yX7_leansOf cX7_leansOf 5 (some .int) ∈ big := big_5 (List.mem_of_getElem? (i := 198) rfl) rfl
theorem ml_X7_238 : Cond.methodLink RX7 238 yX7_shareIn ∈ big := big_5 (List.mem_of_getElem? (i := 199) rfl) rfl
theorem mi_X7_shareIn : Cond.instanceMethod yX7_shareIn ∈ big := big_5 (List.mem_of_getElem? (i := 201) rfl) rfl
theorem mc_X7_shareIn : Cond.code yX7_shareIn cX7_shareIn 5 (some .int) ∈ big := big_5 (List.mem_of_getElem? (i := 202) rfl) rfl
theorem ml_X7_235 : Cond.methodLink RX7 235 Lib.Math.max.name ∈ big := big_5 (List.mem_of_getElem? (i := 203) rfl) rfl
theorem ml_X7_242 : Cond.methodLink RX7 242 Lib.Math.abs.name ∈ big := big_5 (List.mem_of_getElem? (i := 204) rfl) rfl
theorem ml_X7_263 : Cond.methodLink RX7 263 yX7_next ∈ big := big_5 (List.mem_of_getElem? (i := 205) rfl) rfl
theorem mi_X7_next : Cond.instanceMethod yX7_next ∈ big := big_5 (List.mem_of_getElem? (i := 207) rfl) rfl
theorem mc_X7_next : Cond.code yX7_next cX7_next 5 (some .boolean) ∈ big := big_5 (List.mem_of_getElem? (i := 208) rfl) rfl
theorem ml_X7_248 : Cond.methodLink RX7 248 yX7_swap ∈ big := big_5 (List.mem_of_getElem? (i := 209) rfl) rfl
theorem mi_X7_swap : Cond.instanceMethod yX7_swap ∈ big := big_5 (List.mem_of_getElem? (i := 211) rfl) rfl
theorem mc_X7_swap : Cond.code yX7_swap cX7_swap 4 (none) ∈ big := big_5 (List.mem_of_getElem? (i := 212) rfl) rfl
theorem ml_L_105 : Cond.methodLink RL 105 yX7_blame ∈ big := big_5 (List.mem_of_getElem? (i := 213) rfl) rfl
theorem mi_X7_blame : Cond.instanceMethod yX7_blame ∈ big := big_5 (List.mem_of_getElem? (i := 214) rfl) rfl
theorem me_X7_blame : Cond.selects RX7 yX7_blame yX7_blame ∈ big := big_5 (List.mem_of_getElem? (i := 215) rfl) rfl
theorem mc_X7_blame : Cond.code yX7_blame cX7_blame 6 (some .int) ∈ big := big_5 (List.mem_of_getElem? (i := 216) rfl) rfl
theorem ml_L_109 : Cond.methodLink RL 109 yX7_nothing ∈ big := big_5 (List.mem_of_getElem? (i := 217) rfl) rfl
theorem mi_X7_nothing : Cond.instanceMethod yX7_nothing ∈ big := big_5 (List.mem_of_getElem? (i := 218) rfl) rfl
theorem me_X7_nothing : Cond.selects RX7 yX7_nothing yX7_nothing ∈ big := big_5 (List.mem_of_getElem? (i := 219) rfl) rfl
theorem mc_X7_nothing : Cond.code yX7_nothing cX7_nothing 3 (some .int) ∈ big := big_5 (List.mem_of_getElem? (i := 220) rfl) rfl
theorem ml_L_113 : Cond.methodLink RL 113 yX7_enough ∈ big := big_5 (List.mem_of_getElem? (i := 221) rfl) rfl
theorem mi_X7_enough : Cond.instanceMethod yX7_enough ∈ big := big_5 (List.mem_of_getElem? (i := 222) rfl) rfl
theorem me_X7_enough : Cond.selects RX7 yX7_enough yX7_enough ∈ big := big_5 (List.mem_of_getElem? (i := 223) rfl) rfl
theorem mc_X7_enough : Cond.code yX7_enough cX7_enough 4 (some .int) ∈ big := big_5 (List.mem_of_getElem? (i := 224) rfl) rfl
theorem ml_X7_266 : Cond.methodLink RX7 266 yX7_no10 ∈ big := big_5 (List.mem_of_getElem? (i := 225) rfl) rfl
theorem mi_X7_no10 : Cond.instanceMethod yX7_no10 ∈ big := big_5 (List.mem_of_getElem? (i := 227) rfl) rfl
theorem mc_X7_no10 : Cond.code yX7_no10 cX7_no10 2 (some .int) ∈ big := big_5 (List.mem_of_getElem? (i := 228) rfl) rfl
theorem ml_L_117 : Cond.methodLink RL 117 yX7_cost ∈ big := big_5 (List.mem_of_getElem? (i := 229) rfl) rfl
theorem mi_X7_cost : Cond.instanceMethod yX7_cost ∈ big := big_5 (List.mem_of_getElem? (i := 230) rfl) rfl
theorem me_X7_cost : Cond.selects RX7 yX7_cost yX7_cost ∈ big := big_5 (List.mem_of_getElem? (i := 231) rfl) rfl
theorem mc_X7_cost : Cond.code yX7_cost cX7_cost 2 (some .int) ∈ big := big_5 (List.mem_of_getElem? (i := 232) rfl) rfl
theorem ml_X7_269 : Cond.methodLink RX7 269 yX7_costOf ∈ big := big_5 (List.mem_of_getElem? (i := 233) rfl) rfl
theorem mi_X7_costOf : Cond.instanceMethod yX7_costOf ∈ big := big_5 (List.mem_of_getElem? (i := 235) rfl) rfl
theorem mc_X7_costOf : Cond.code yX7_costOf cX7_costOf 5 (some .int) ∈ big := big_5 (List.mem_of_getElem? (i := 236) rfl) rfl
theorem ml_L_121 : Cond.methodLink RL 121 yX7_fine ∈ big := big_5 (List.mem_of_getElem? (i := 237) rfl) rfl
theorem mi_X7_fine : Cond.instanceMethod yX7_fine ∈ big := big_5 (List.mem_of_getElem? (i := 238) rfl) rfl
theorem me_X7_fine : Cond.selects RX7 yX7_fine yX7_fine ∈ big := big_5 (List.mem_of_getElem? (i := 239) rfl) rfl
theorem mc_X7_fine : Cond.code yX7_fine cX7_fine 5 (some .int) ∈ big := big_6 (List.mem_of_getElem? (i := 0) rfl) rfl
theorem ml_L_125 : Cond.methodLink RL 125 yX7_never ∈ big := big_6 (List.mem_of_getElem? (i := 1) rfl) rfl
theorem mi_X7_never : Cond.instanceMethod yX7_never ∈ big := big_6 (List.mem_of_getElem? (i := 2) rfl) rfl
theorem me_X7_never : Cond.selects RX7 yX7_never yX7_never ∈ big := big_6 (List.mem_of_getElem? (i := 3) rfl) rfl
theorem mc_X7_never : Cond.code yX7_never cX7_never 3 (some .int) ∈ big := big_6 (List.mem_of_getElem? (i := 4) rfl) rfl
theorem ml_L_129 : Cond.methodLink RL 129 yX7_late ∈ big := big_6 (List.mem_of_getElem? (i := 5) rfl) rfl
theorem mi_X7_late : Cond.instanceMethod yX7_late ∈ big := big_6 (List.mem_of_getElem? (i := 6) rfl) rfl
theorem me_X7_late : Cond.selects RX7 yX7_late yX7_late ∈ big := big_6 (List.mem_of_getElem? (i := 7) rfl) rfl
theorem mc_X7_late : Cond.code yX7_late cX7_late 4 (some .int) ∈ big := big_6 (List.mem_of_getElem? (i := 8) rfl) rfl
theorem ml_X7_272 : Cond.methodLink RX7 272 yX7_answeredLate ∈ big := big_6 (List.mem_of_getElem? (i := 9) rfl) rfl
theorem mi_X7_answeredLate : Cond.instanceMethod yX7_answeredLate ∈ big := big_6 (List.mem_of_getElem? (i := 11) rfl) rfl
theorem mc_X7_answeredLate : Cond.code yX7_answeredLate cX7_answeredLate 4 (some .int) ∈ big := big_6 (List.mem_of_getElem? (i := 12) rfl) rfl
theorem ml_L_133 : Cond.methodLink RL 133 yX7_fits ∈ big := big_6 (List.mem_of_getElem? (i := 13) rfl) rfl
theorem mi_X7_fits : Cond.instanceMethod yX7_fits ∈ big := big_6 (List.mem_of_getElem? (i := 14) rfl) rfl
theorem me_X7_fits : Cond.selects RX7 yX7_fits yX7_fits ∈ big := big_6 (List.mem_of_getElem? (i := 15) rfl) rfl
theorem mc_X7_fits : Cond.code yX7_fits cX7_fits 5 (some .int) ∈ big := big_6 (List.mem_of_getElem? (i := 16) rfl) rfl
theorem ml_L_137 : Cond.methodLink RL 137 yX7_halves ∈ big := big_6 (List.mem_of_getElem? (i := 17) rfl) rfl
theorem mi_X7_halves : Cond.instanceMethod yX7_halves ∈ big := big_6 (List.mem_of_getElem? (i := 18) rfl) rfl
theorem me_X7_halves : Cond.selects RX7 yX7_halves yX7_halves ∈ big := big_6 (List.mem_of_getElem? (i := 19) rfl) rfl
theorem mc_X7_halves : Cond.code yX7_halves cX7_halves 2 (some .int) ∈ big := big_6 (List.mem_of_getElem? (i := 20) rfl) rfl
theorem ml_X7_275 : Cond.methodLink RX7 275 yX7_shareOfHalf ∈ big := big_6 (List.mem_of_getElem? (i := 21) rfl) rfl
theorem mi_X7_shareOfHalf : Cond.instanceMethod yX7_shareOfHalf ∈ big := big_6 (List.mem_of_getElem? (i := 23) rfl) rfl
theorem mc_X7_shareOfHalf : Cond.code yX7_shareOfHalf cX7_shareOfHalf 6 (some .int) ∈ big := big_6 (List.mem_of_getElem? (i := 24) rfl) rfl
theorem ml_L_141 : Cond.methodLink RL 141 yX7_twin ∈ big := big_6 (List.mem_of_getElem? (i := 25) rfl) rfl
theorem mi_X7_twin : Cond.instanceMethod yX7_twin ∈ big := big_6 (List.mem_of_getElem? (i := 26) rfl) rfl
theorem me_X7_twin : Cond.selects RX7 yX7_twin yX7_twin ∈ big := big_6 (List.mem_of_getElem? (i := 27) rfl) rfl
theorem mc_X7_twin : Cond.code yX7_twin cX7_twin 6 (some .int) ∈ big := big_6 (List.mem_of_getElem? (i := 28) rfl) rfl
theorem ml_L_145 : Cond.methodLink RL 145 yX7_nearest ∈ big := big_6 (List.mem_of_getElem? (i := 29) rfl) rfl
theorem mi_X7_nearest : Cond.instanceMethod yX7_nearest ∈ big := big_6 (List.mem_of_getElem? (i := 30) rfl) rfl
theorem me_X7_nearest : Cond.selects RX7 yX7_nearest yX7_nearest ∈ big := big_6 (List.mem_of_getElem? (i := 31) rfl) rfl
theorem mc_X7_nearest : Cond.code yX7_nearest cX7_nearest 3 (some .int) ∈ big := big_6 (List.mem_of_getElem? (i := 32) rfl) rfl
theorem ml_L_149 : Cond.methodLink RL 149 yX7_move ∈ big := big_6 (List.mem_of_getElem? (i := 33) rfl) rfl
theorem mi_X7_move : Cond.instanceMethod yX7_move ∈ big := big_6 (List.mem_of_getElem? (i := 34) rfl) rfl
theorem me_X7_move : Cond.selects RX7 yX7_move yX7_move ∈ big := big_6 (List.mem_of_getElem? (i := 35) rfl) rfl
theorem mc_X7_move : Cond.code yX7_move cX7_move 5 (some .int) ∈ big := big_6 (List.mem_of_getElem? (i := 36) rfl) rfl
theorem ml_X7_278 : Cond.methodLink RX7 278 yX7_shareMoved ∈ big := big_6 (List.mem_of_getElem? (i := 37) rfl) rfl
theorem mi_X7_shareMoved : Cond.instanceMethod yX7_shareMoved ∈ big := big_6 (List.mem_of_getElem? (i := 39) rfl) rfl
theorem mc_X7_shareMoved : Cond.code yX7_shareMoved cX7_shareMoved 7 (some .int) ∈ big := big_6 (List.mem_of_getElem? (i := 40) rfl) rfl
theorem ml_L_153 : Cond.methodLink RL 153 yX7_judge ∈ big := big_6 (List.mem_of_getElem? (i := 41) rfl) rfl
theorem mi_X7_judge : Cond.instanceMethod yX7_judge ∈ big := big_6 (List.mem_of_getElem? (i := 42) rfl) rfl
theorem me_X7_judge : Cond.selects RX7 yX7_judge yX7_judge ∈ big := big_6 (List.mem_of_getElem? (i := 43) rfl) rfl
theorem mc_X7_judge : Cond.code yX7_judge cX7_judge 4 (some .int) ∈ big := big_6 (List.mem_of_getElem? (i := 44) rfl) rfl
theorem ml_X7_284 : Cond.methodLink RX7 284 yX7_noRound ∈ big := big_6 (List.mem_of_getElem? (i := 45) rfl) rfl
theorem mi_X7_noRound : Cond.instanceMethod yX7_noRound ∈ big := big_6 (List.mem_of_getElem? (i := 47) rfl) rfl
theorem mc_X7_noRound : Cond.code yX7_noRound cX7_noRound 4 (some .int) ∈ big := big_6 (List.mem_of_getElem? (i := 48) rfl) rfl
theorem ml_X7_287 : Cond.methodLink RX7 287 yX7_wrong ∈ big := big_6 (List.mem_of_getElem? (i := 49) rfl) rfl
theorem mi_X7_wrong : Cond.instanceMethod yX7_wrong ∈ big := big_6 (List.mem_of_getElem? (i := 51) rfl) rfl
theorem mc_X7_wrong : Cond.code yX7_wrong cX7_wrong 5 (some .int) ∈ big := big_6 (List.mem_of_getElem? (i := 52) rfl) rfl
theorem ml_X7_281 : Cond.methodLink RX7 281 yX7_told ∈ big := big_6 (List.mem_of_getElem? (i := 53) rfl) rfl
theorem mi_X7_told : Cond.instanceMethod yX7_told ∈ big := big_6 (List.mem_of_getElem? (i := 55) rfl) rfl
theorem mc_X7_told : Cond.code yX7_told cX7_told 3 (some .int) ∈ big := big_6 (List.mem_of_getElem? (i := 56) rfl) rfl
theorem ml_L_157 : Cond.methodLink RL 157 yX7_round ∈ big := big_6 (List.mem_of_getElem? (i := 57) rfl) rfl
theorem mi_X7_round : Cond.instanceMethod yX7_round ∈ big := big_6 (List.mem_of_getElem? (i := 58) rfl) rfl
theorem me_X7_round : Cond.selects RX7 yX7_round yX7_round ∈ big := big_6 (List.mem_of_getElem? (i := 59) rfl) rfl
theorem mc_X7_round : Cond.code yX7_round cX7_round 7 (some .int) ∈ big := big_6 (List.mem_of_getElem? (i := 60) rfl) rfl
theorem ml_L_161 : Cond.methodLink RL 161 yX7_change ∈ big := big_6 (List.mem_of_getElem? (i := 61) rfl) rfl
theorem mi_X7_change : Cond.instanceMethod yX7_change ∈ big := big_6 (List.mem_of_getElem? (i := 62) rfl) rfl
theorem me_X7_change : Cond.selects RX7 yX7_change yX7_change ∈ big := big_6 (List.mem_of_getElem? (i := 63) rfl) rfl
theorem mc_X7_change : Cond.code yX7_change cX7_change 4 (some .int) ∈ big := big_6 (List.mem_of_getElem? (i := 64) rfl) rfl
theorem ml_L_165 : Cond.methodLink RL 165 yX7_doors ∈ big := big_6 (List.mem_of_getElem? (i := 65) rfl) rfl
theorem mi_X7_doors : Cond.instanceMethod yX7_doors ∈ big := big_6 (List.mem_of_getElem? (i := 66) rfl) rfl
theorem me_X7_doors : Cond.selects RX7 yX7_doors yX7_doors ∈ big := big_6 (List.mem_of_getElem? (i := 67) rfl) rfl
theorem mc_X7_doors : Cond.code yX7_doors cX7_doors 6 (some .int) ∈ big := big_6 (List.mem_of_getElem? (i := 68) rfl) rfl
theorem ml_X7_294 : Cond.methodLink RX7 294 yX7_draw ∈ big := big_6 (List.mem_of_getElem? (i := 69) rfl) rfl
theorem mi_X7_draw : Cond.instanceMethod yX7_draw ∈ big := big_6 (List.mem_of_getElem? (i := 71) rfl) rfl
theorem mc_X7_draw : Cond.code yX7_draw cX7_draw 2 (some .int) ∈ big := big_6 (List.mem_of_getElem? (i := 72) rfl) rfl
theorem mk_X7_290 : Cond.constant RX7 290 (1103515245) ∈ big := big_6 (List.mem_of_getElem? (i := 73) rfl) rfl
theorem ml_L_169 : Cond.methodLink RL 169 yX7_seed ∈ big := big_6 (List.mem_of_getElem? (i := 74) rfl) rfl
theorem mi_X7_seed : Cond.instanceMethod yX7_seed ∈ big := big_6 (List.mem_of_getElem? (i := 75) rfl) rfl
theorem me_X7_seed : Cond.selects RX7 yX7_seed yX7_seed ∈ big := big_6 (List.mem_of_getElem? (i := 76) rfl) rfl
theorem mc_X7_seed : Cond.code yX7_seed cX7_seed 3 (some .int) ∈ big := big_6 (List.mem_of_getElem? (i := 77) rfl) rfl
theorem ml_L_173 : Cond.methodLink RL 173 yX7_act ∈ big := big_6 (List.mem_of_getElem? (i := 78) rfl) rfl
theorem mi_X7_act : Cond.instanceMethod yX7_act ∈ big := big_6 (List.mem_of_getElem? (i := 79) rfl) rfl
theorem me_X7_act : Cond.selects RX7 yX7_act yX7_act ∈ big := big_6 (List.mem_of_getElem? (i := 80) rfl) rfl
theorem mc_X7_act : Cond.code yX7_act cX7_act 4 (some .int) ∈ big := big_6 (List.mem_of_getElem? (i := 81) rfl) rfl
theorem ml_X7_307 : Cond.methodLink RX7 307 yX7_asksBy ∈ big := big_6 (List.mem_of_getElem? (i := 82) rfl) rfl
theorem mi_X7_asksBy : Cond.instanceMethod yX7_asksBy ∈ big := big_6 (List.mem_of_getElem? (i := 84) rfl) rfl
theorem mc_X7_asksBy : Cond.code yX7_asksBy cX7_asksBy 5 (some .int) ∈ big := big_6 (List.mem_of_getElem? (i := 85) rfl) rfl
theorem ml_X7_303 : Cond.methodLink RX7 303 yX7_ran ∈ big := big_6 (List.mem_of_getElem? (i := 86) rfl) rfl
theorem mi_X7_ran : Cond.instanceMethod yX7_ran ∈ big := big_6 (List.mem_of_getElem? (i := 88) rfl) rfl
theorem mc_X7_ran : Cond.code yX7_ran cX7_ran 2 (none) ∈ big := big_6 (List.mem_of_getElem? (i := 89) rfl) rfl
theorem ml_X7_310 : Cond.methodLink RX7 310 yX7_leansBy ∈ big := big_6 (List.mem_of_getElem? (i := 90) rfl) rfl
theorem mi_X7_leansBy : Cond.instanceMethod yX7_leansBy ∈ big := big_6 (List.mem_of_getElem? (i := 92) rfl) rfl
theorem mc_X7_leansBy : Cond.code yX7_leansBy cX7_leansBy 6 (some .int) ∈ big := big_6 (List.mem_of_getElem? (i := 93) rfl) rfl
theorem ml_X7_313 : Cond.methodLink RX7 313 yX7_sumsBy ∈ big := big_6 (List.mem_of_getElem? (i := 94) rfl) rfl
theorem mi_X7_sumsBy : Cond.instanceMethod yX7_sumsBy ∈ big := big_6 (List.mem_of_getElem? (i := 96) rfl) rfl
theorem mc_X7_sumsBy : Cond.code yX7_sumsBy cX7_sumsBy 6 (some .int) ∈ big := big_6 (List.mem_of_getElem? (i := 97) rfl) rfl
theorem ml_L_177 : Cond.methodLink RL 177 yX7_trace ∈ big := big_6 (List.mem_of_getElem? (i := 98) rfl) rfl
theorem mi_X7_trace : Cond.instanceMethod yX7_trace ∈ big := big_6 (List.mem_of_getElem? (i := 99) rfl) rfl
theorem me_X7_trace : Cond.selects RX7 yX7_trace yX7_trace ∈ big := big_6 (List.mem_of_getElem? (i := 100) rfl) rfl
theorem mc_X7_trace : Cond.code yX7_trace cX7_trace 2 (some .int) ∈ big := big_6 (List.mem_of_getElem? (i := 101) rfl) rfl
theorem ml_L_181 : Cond.methodLink RL 181 yX7_image ∈ big := big_6 (List.mem_of_getElem? (i := 102) rfl) rfl
theorem mi_X7_image : Cond.instanceMethod yX7_image ∈ big := big_6 (List.mem_of_getElem? (i := 103) rfl) rfl
theorem me_X7_image : Cond.selects RX7 yX7_image yX7_image ∈ big := big_6 (List.mem_of_getElem? (i := 104) rfl) rfl
theorem mc_X7_image : Cond.code yX7_image cX7_image 1 (some .int) ∈ big := big_6 (List.mem_of_getElem? (i := 105) rfl) rfl
theorem ml_L_185 : Cond.methodLink RL 185 yX7_restore ∈ big := big_6 (List.mem_of_getElem? (i := 106) rfl) rfl
theorem mi_X7_restore : Cond.instanceMethod yX7_restore ∈ big := big_6 (List.mem_of_getElem? (i := 107) rfl) rfl
theorem me_X7_restore : Cond.selects RX7 yX7_restore yX7_restore ∈ big := big_6 (List.mem_of_getElem? (i := 108) rfl) rfl
theorem mc_X7_restore : Cond.code yX7_restore cX7_restore 2 (some .int) ∈ big := big_6 (List.mem_of_getElem? (i := 109) rfl) rfl
theorem ml_L_189 : Cond.methodLink RL 189 yX7_status ∈ big := big_6 (List.mem_of_getElem? (i := 110) rfl) rfl
theorem mi_X7_status : Cond.instanceMethod yX7_status ∈ big := big_6 (List.mem_of_getElem? (i := 111) rfl) rfl
theorem me_X7_status : Cond.selects RX7 yX7_status yX7_status ∈ big := big_6 (List.mem_of_getElem? (i := 112) rfl) rfl
theorem mc_X7_status : Cond.code yX7_status cX7_status 2 (some .int) ∈ big := big_6 (List.mem_of_getElem? (i := 113) rfl) rfl
theorem mk_L_18 : Cond.constantLong RL 18 (4294967295) ∈ big := big_6 (List.mem_of_getElem? (i := 114) rfl) rfl
theorem mf_J0_9 : Cond.fieldLink RJ0 9 "java/lang/String" "value" "[B" ∈ big := big_6 (List.mem_of_getElem? (i := 115) rfl) rfl
theorem mf_J0_15 : Cond.fieldLink RJ0 15 "java/lang/String" "coder" "B" ∈ big := big_6 (List.mem_of_getElem? (i := 116) rfl) rfl
theorem ib_X0 : ∀ w ∈ u_ws RX0 TX0 5, w ∈ big := List.forall_mem_cons.mpr ⟨big_1 (List.mem_of_getElem? (i := 144) rfl) rfl, List.forall_mem_cons.mpr ⟨big_1 (List.mem_of_getElem? (i := 146) rfl) rfl, List.forall_mem_cons.mpr ⟨big_1 (List.mem_of_getElem? (i := 148) rfl) rfl, List.forall_mem_cons.mpr ⟨big_1 (List.mem_of_getElem? (i := 150) rfl) rfl, List.forall_mem_cons.mpr ⟨big_1 (List.mem_of_getElem? (i := 152) rfl) rfl, fun _ h => absurd h List.not_mem_nil⟩⟩⟩⟩⟩
theorem ib_X1 : ∀ w ∈ u_ws RX1 TX1 2, w ∈ big := List.forall_mem_cons.mpr ⟨big_1 (List.mem_of_getElem? (i := 83) rfl) rfl, List.forall_mem_cons.mpr ⟨big_1 (List.mem_of_getElem? (i := 85) rfl) rfl, fun _ h => absurd h List.not_mem_nil⟩⟩
theorem ib_X2 : ∀ w ∈ u_ws RX2 TX2 3, w ∈ big := List.forall_mem_cons.mpr ⟨big_1 (List.mem_of_getElem? (i := 97) rfl) rfl, List.forall_mem_cons.mpr ⟨big_1 (List.mem_of_getElem? (i := 99) rfl) rfl, List.forall_mem_cons.mpr ⟨big_1 (List.mem_of_getElem? (i := 101) rfl) rfl, fun _ h => absurd h List.not_mem_nil⟩⟩⟩
theorem ib_X3 : ∀ w ∈ u_ws RX3 TX3 10, w ∈ big := List.forall_mem_cons.mpr ⟨big_1 (List.mem_of_getElem? (i := 53) rfl) rfl, List.forall_mem_cons.mpr ⟨big_1 (List.mem_of_getElem? (i := 55) rfl) rfl, List.forall_mem_cons.mpr ⟨big_1 (List.mem_of_getElem? (i := 57) rfl) rfl, List.forall_mem_cons.mpr ⟨big_1 (List.mem_of_getElem? (i := 59) rfl) rfl, List.forall_mem_cons.mpr ⟨big_1 (List.mem_of_getElem? (i := 61) rfl) rfl, List.forall_mem_cons.mpr ⟨big_1 (List.mem_of_getElem? (i := 63) rfl) rfl, List.forall_mem_cons.mpr ⟨big_1 (List.mem_of_getElem? (i := 65) rfl) rfl, List.forall_mem_cons.mpr ⟨big_1 (List.mem_of_getElem? (i := 67) rfl) rfl, List.forall_mem_cons.mpr ⟨big_1 (List.mem_of_getElem? (i := 69) rfl) rfl, List.forall_mem_cons.mpr ⟨big_1 (List.mem_of_getElem? (i := 71) rfl) rfl, fun _ h => absurd h List.not_mem_nil⟩⟩⟩⟩⟩⟩⟩⟩⟩⟩
theorem ib_X4 : ∀ w ∈ u_ws RX4 TX4 5, w ∈ big := List.forall_mem_cons.mpr ⟨big_1 (List.mem_of_getElem? (i := 121) rfl) rfl, List.forall_mem_cons.mpr ⟨big_1 (List.mem_of_getElem? (i := 123) rfl) rfl, List.forall_mem_cons.mpr ⟨big_1 (List.mem_of_getElem? (i := 125) rfl) rfl, List.forall_mem_cons.mpr ⟨big_1 (List.mem_of_getElem? (i := 127) rfl) rfl, List.forall_mem_cons.mpr ⟨big_1 (List.mem_of_getElem? (i := 129) rfl) rfl, fun _ h => absurd h List.not_mem_nil⟩⟩⟩⟩⟩
theorem ib_X6 : ∀ w ∈ u_ws RX6 TX6 9, w ∈ big := List.forall_mem_cons.mpr ⟨big_1 (List.mem_of_getElem? (i := 164) rfl) rfl, List.forall_mem_cons.mpr ⟨big_1 (List.mem_of_getElem? (i := 166) rfl) rfl, List.forall_mem_cons.mpr ⟨big_1 (List.mem_of_getElem? (i := 168) rfl) rfl, List.forall_mem_cons.mpr ⟨big_1 (List.mem_of_getElem? (i := 170) rfl) rfl, List.forall_mem_cons.mpr ⟨big_1 (List.mem_of_getElem? (i := 172) rfl) rfl, List.forall_mem_cons.mpr ⟨big_1 (List.mem_of_getElem? (i := 174) rfl) rfl, List.forall_mem_cons.mpr ⟨big_1 (List.mem_of_getElem? (i := 176) rfl) rfl, List.forall_mem_cons.mpr ⟨big_1 (List.mem_of_getElem? (i := 178) rfl) rfl, List.forall_mem_cons.mpr ⟨big_1 (List.mem_of_getElem? (i := 180) rfl) rfl, fun _ h => absurd h List.not_mem_nil⟩⟩⟩⟩⟩⟩⟩⟩⟩
theorem ib_X7 : ∀ w ∈ u_ws RX7 TX7 33, w ∈ big := List.forall_mem_cons.mpr ⟨big_4 (List.mem_of_getElem? (i := 147) rfl) rfl, List.forall_mem_cons.mpr ⟨big_4 (List.mem_of_getElem? (i := 149) rfl) rfl, List.forall_mem_cons.mpr ⟨big_4 (List.mem_of_getElem? (i := 151) rfl) rfl, List.forall_mem_cons.mpr ⟨big_4 (List.mem_of_getElem? (i := 153) rfl) rfl, List.forall_mem_cons.mpr ⟨big_4 (List.mem_of_getElem? (i := 155) rfl) rfl, List.forall_mem_cons.mpr ⟨big_4 (List.mem_of_getElem? (i := 157) rfl) rfl, List.forall_mem_cons.mpr ⟨big_4 (List.mem_of_getElem? (i := 159) rfl) rfl, List.forall_mem_cons.mpr ⟨big_4 (List.mem_of_getElem? (i := 161) rfl) rfl, List.forall_mem_cons.mpr ⟨big_4 (List.mem_of_getElem? (i := 163) rfl) rfl, List.forall_mem_cons.mpr ⟨big_4 (List.mem_of_getElem? (i := 165) rfl) rfl, List.forall_mem_cons.mpr ⟨big_4 (List.mem_of_getElem? (i := 167) rfl) rfl, List.forall_mem_cons.mpr ⟨big_4 (List.mem_of_getElem? (i := 169) rfl) rfl, List.forall_mem_cons.mpr ⟨big_4 (List.mem_of_getElem? (i := 171) rfl) rfl, List.forall_mem_cons.mpr ⟨big_4 (List.mem_of_getElem? (i := 173) rfl) rfl, List.forall_mem_cons.mpr ⟨big_4 (List.mem_of_getElem? (i := 175) rfl) rfl, List.forall_mem_cons.mpr ⟨big_4 (List.mem_of_getElem? (i := 177) rfl) rfl, List.forall_mem_cons.mpr ⟨big_4 (List.mem_of_getElem? (i := 179) rfl) rfl, List.forall_mem_cons.mpr ⟨big_4 (List.mem_of_getElem? (i := 181) rfl) rfl, List.forall_mem_cons.mpr ⟨big_4 (List.mem_of_getElem? (i := 183) rfl) rfl, List.forall_mem_cons.mpr ⟨big_4 (List.mem_of_getElem? (i := 185) rfl) rfl, List.forall_mem_cons.mpr ⟨big_4 (List.mem_of_getElem? (i := 187) rfl) rfl, List.forall_mem_cons.mpr ⟨big_4 (List.mem_of_getElem? (i := 189) rfl) rfl, List.forall_mem_cons.mpr ⟨big_4 (List.mem_of_getElem? (i := 191) rfl) rfl, List.forall_mem_cons.mpr ⟨big_4 (List.mem_of_getElem? (i := 193) rfl) rfl, List.forall_mem_cons.mpr ⟨big_4 (List.mem_of_getElem? (i := 195) rfl) rfl, List.forall_mem_cons.mpr ⟨big_4 (List.mem_of_getElem? (i := 197) rfl) rfl, List.forall_mem_cons.mpr ⟨big_4 (List.mem_of_getElem? (i := 199) rfl) rfl, List.forall_mem_cons.mpr ⟨big_4 (List.mem_of_getElem? (i := 201) rfl) rfl, List.forall_mem_cons.mpr ⟨big_4 (List.mem_of_getElem? (i := 203) rfl) rfl, List.forall_mem_cons.mpr ⟨big_4 (List.mem_of_getElem? (i := 205) rfl) rfl, List.forall_mem_cons.mpr ⟨big_4 (List.mem_of_getElem? (i := 207) rfl) rfl, List.forall_mem_cons.mpr ⟨big_4 (List.mem_of_getElem? (i := 209) rfl) rfl, List.forall_mem_cons.mpr ⟨big_4 (List.mem_of_getElem? (i := 211) rfl) rfl, fun _ h => absurd h List.not_mem_nil⟩⟩⟩⟩⟩⟩⟩⟩⟩⟩⟩⟩⟩⟩⟩⟩⟩⟩⟩⟩⟩⟩⟩⟩⟩⟩⟩⟩⟩⟩⟩⟩⟩
