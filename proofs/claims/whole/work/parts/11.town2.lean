set_option maxRecDepth 20000 in
set_option maxHeartbeats 4000000 in
theorem c_X6_yesBy (l : Launch) (G : gT) (k : Int32) (a : Int32) (v : Int32) (g : Int32) (n : Int32) : RI l yX6_yesBy cX6_yesBy 9 (some .int) 0 G [.int k, .int a, .int v, .int g, .int n] (([] : va_W)) (sYes k a v g n) := by
  refine start_R (by decide) (Nat.le_of_ble_eq_true rfl) (fun p9 e9 s9 m9 a9 b9 t9 c9 C => ?_)
  refine g_lv (lv' := [(0, .int k), (1, .int a), (2, .int v), (3, .int g), (4, .int n)]) rfl ?_
  have key_66 : GW p9 l e9 (rmh 0 0 0) s9 m9 a9 b9 t9 c9 (MQ b9 (QcI (sYes k a v g n)) a9 s9 0 0 NoA) G NoA false 9 0 0 (([] : va_W)) [(0, .int k), (1, .int a), (2, .int v), (3, .int g), (4, .int n), (5, .int (n / 2)), (6, .int (sPl v n)), (7, .int (sTu v n))] 66 [.int (sLd g a)] := by
    refine g_istore (pc := 66) (lv' := [(8, .int (sLd g a)), (0, .int k), (1, .int a), (2, .int v), (3, .int g), (4, .int n), (5, .int (n / 2)), (6, .int (sPl v n)), (7, .int (sTu v n))]) C dX6_yesBy_66 (by decide) rfl ?_
    refine g_iload_n (pc := 68) C dX6_yesBy_68 1 rfl ?_
    by_cases h69_1 : k = 1
    · refine g_top (z := 1) h69_1 ?_
      refine g_tsIn (pc := 69) (off := 39) (tgt := 108) C dX6_yesBy_69 (by decide) (by decide) (by decide) (by decide) ?_
      refine g_iload (pc := 108) C dX6_yesBy_108 7 rfl ?_
      refine g_iload (pc := 110) C dX6_yesBy_110 5 rfl ?_
      refine g_iload (pc := 112) C dX6_yesBy_112 7 rfl ?_
      refine g_isub (pc := 114) C dX6_yesBy_114 ?_
      refine g_iload_n (pc := 115) C dX6_yesBy_115 4 rfl ?_
      refine g_imul (pc := 116) C dX6_yesBy_116 ?_
      refine g_bipush (pc := 117) (v := 10) C dX6_yesBy_117 (by decide) ?_
      refine g_idiv (pc := 119) C dX6_yesBy_119 (by decide) ?_
      refine g_iadd (pc := 120) C dX6_yesBy_120 ?_
      exact g_retIR (pc := 121) C (rfl) (by simp [sYes, *]) dX6_yesBy_121
    by_cases h69_2 : k = 2
    · refine g_top (z := 2) h69_2 ?_
      refine g_tsIn (pc := 69) (off := 53) (tgt := 122) C dX6_yesBy_69 (by decide) (by decide) (by decide) (by decide) ?_
      refine g_iload (pc := 122) C dX6_yesBy_122 8 rfl ?_
      exact g_retIR (pc := 124) C (rfl) (by simp [sYes, *]) dX6_yesBy_124
    by_cases h69_3 : k = 3
    · refine g_top (z := 3) h69_3 ?_
      refine g_tsIn (pc := 69) (off := 56) (tgt := 125) C dX6_yesBy_69 (by decide) (by decide) (by decide) (by decide) ?_
      refine g_iload (pc := 125) C dX6_yesBy_125 7 rfl ?_
      refine g_iload (pc := 127) C dX6_yesBy_127 5 rfl ?_
      refine g_iload (pc := 129) C dX6_yesBy_129 7 rfl ?_
      refine g_isub (pc := 131) C dX6_yesBy_131 ?_
      refine g_iload (pc := 132) C dX6_yesBy_132 0 rfl ?_
      refine g_imul (pc := 134) C dX6_yesBy_134 ?_
      refine g_bipush (pc := 135) (v := 10) C dX6_yesBy_135 (by decide) ?_
      refine g_idiv (pc := 137) C dX6_yesBy_137 (by decide) ?_
      refine g_iadd (pc := 138) C dX6_yesBy_138 ?_
      exact g_retIR (pc := 139) C (rfl) (by simp [sYes, *]) dX6_yesBy_139
    by_cases h69_4 : k = 4
    · refine g_top (z := 4) h69_4 ?_
      refine g_tsIn (pc := 69) (off := 71) (tgt := 140) C dX6_yesBy_69 (by decide) (by decide) (by decide) (by decide) ?_
      refine g_iload (pc := 140) C dX6_yesBy_140 7 rfl ?_
      refine g_bipush (pc := 142) (v := 10) C dX6_yesBy_142 (by decide) ?_
      refine g_iload_n (pc := 144) C dX6_yesBy_144 2 rfl ?_
      refine g_isub (pc := 145) C dX6_yesBy_145 ?_
      refine g_imul (pc := 146) C dX6_yesBy_146 ?_
      refine g_bipush (pc := 147) (v := 10) C dX6_yesBy_147 (by decide) ?_
      refine g_idiv (pc := 149) C dX6_yesBy_149 (by decide) ?_
      exact g_retIR (pc := 150) C (rfl) (by simp [sYes, *]) dX6_yesBy_150
    by_cases h69_5 : k = 5
    · refine g_top (z := 5) h69_5 ?_
      refine g_tsIn (pc := 69) (off := 82) (tgt := 151) C dX6_yesBy_69 (by decide) (by decide) (by decide) (by decide) ?_
      refine g_iload (pc := 151) C dX6_yesBy_151 8 rfl ?_
      refine g_bipush (pc := 153) (v := 10) C dX6_yesBy_153 (by decide) ?_
      refine g_iload_n (pc := 155) C dX6_yesBy_155 2 rfl ?_
      refine g_isub (pc := 156) C dX6_yesBy_156 ?_
      refine g_imul (pc := 157) C dX6_yesBy_157 ?_
      refine g_bipush (pc := 158) (v := 10) C dX6_yesBy_158 (by decide) ?_
      refine g_idiv (pc := 160) C dX6_yesBy_160 (by decide) ?_
      exact g_retIR (pc := 161) C (rfl) (by simp [sYes, *]) dX6_yesBy_161
    by_cases h69_6 : k = 6
    · refine g_top (z := 6) h69_6 ?_
      refine g_tsIn (pc := 69) (off := 93) (tgt := 162) C dX6_yesBy_69 (by decide) (by decide) (by decide) (by decide) ?_
      refine g_iload (pc := 162) C dX6_yesBy_162 6 rfl ?_
      refine g_bipush (pc := 164) (v := 10) C dX6_yesBy_164 (by decide) ?_
      refine g_iload_n (pc := 166) C dX6_yesBy_166 2 rfl ?_
      refine g_isub (pc := 167) C dX6_yesBy_167 ?_
      refine g_imul (pc := 168) C dX6_yesBy_168 ?_
      refine g_bipush (pc := 169) (v := 10) C dX6_yesBy_169 (by decide) ?_
      refine g_idiv (pc := 171) C dX6_yesBy_171 (by decide) ?_
      exact g_retIR (pc := 172) C (rfl) (by simp [sYes, *]) dX6_yesBy_172
    refine g_tsOut (pc := 69) (tgt := 173) C dX6_yesBy_69 (by have a0 := lv_neT h69_1 (a := 1) rfl; have a1 := lv_neT h69_2 (a := 2) rfl; have a2 := lv_neT h69_3 (a := 3) rfl; have a3 := lv_neT h69_4 (a := 4) rfl; have a4 := lv_neT h69_5 (a := 5) rfl; have a5 := lv_neT h69_6 (a := 6) rfl; omega) (by decide) ?_
    refine g_iload (pc := 173) C dX6_yesBy_173 7 rfl ?_
    exact g_retIR (pc := 175) C (rfl) (by simp [sYes, *]) dX6_yesBy_175
  have key_48 : GW p9 l e9 (rmh 0 0 0) s9 m9 a9 b9 t9 c9 (MQ b9 (QcI (sYes k a v g n)) a9 s9 0 0 NoA) G NoA false 9 0 0 (([] : va_W)) [(0, .int k), (1, .int a), (2, .int v), (3, .int g), (4, .int n), (5, .int (n / 2)), (6, .int (sPl v n))] 48 [.int (sTu v n)] := by
    refine g_istore (pc := 48) (lv' := [(7, .int (sTu v n)), (0, .int k), (1, .int a), (2, .int v), (3, .int g), (4, .int n), (5, .int (n / 2)), (6, .int (sPl v n))]) C dX6_yesBy_48 (by decide) rfl ?_
    refine g_iload_n (pc := 50) C dX6_yesBy_50 4 rfl ?_
    refine g_iload_n (pc := 51) C dX6_yesBy_51 2 rfl ?_
    refine g_iadd (pc := 52) C dX6_yesBy_52 ?_
    refine g_bipush (pc := 53) (v := 10) C dX6_yesBy_53 (by decide) ?_
    refine g_icmp_le (pc := 55) (tgt := 63) C dX6_yesBy_55 (by decide) (fun h55 => ?_) (fun h55 => ?_)
    · refine g_iload_n (pc := 63) C dX6_yesBy_63 4 rfl ?_
      refine g_iload_n (pc := 64) C dX6_yesBy_64 2 rfl ?_
      refine g_iadd (pc := 65) C dX6_yesBy_65 ?_
      refine g_top (z := sLd g a) (by simp [sLd, h55]) ?_
      refine g_sub (lv' := [(0, .int k), (1, .int a), (2, .int v), (3, .int g), (4, .int n), (5, .int (n / 2)), (6, .int (sPl v n)), (7, .int (sTu v n))]) [1, 2, 3, 4, 5, 6, 7, 0] rfl ?_
      exact key_66 
    · refine g_bipush (pc := 58) (v := 10) C dX6_yesBy_58 (by decide) ?_
      refine g_goto (pc := 60) (tgt := 66) C dX6_yesBy_60 (by decide) ?_
      refine g_top (z := sLd g a) (by simp [sLd, h55]) ?_
      refine g_sub (lv' := [(0, .int k), (1, .int a), (2, .int v), (3, .int g), (4, .int n), (5, .int (n / 2)), (6, .int (sPl v n)), (7, .int (sTu v n))]) [1, 2, 3, 4, 5, 6, 7, 0] rfl ?_
      exact key_66 
  have key_26 : GW p9 l e9 (rmh 0 0 0) s9 m9 a9 b9 t9 c9 (MQ b9 (QcI (sYes k a v g n)) a9 s9 0 0 NoA) G NoA false 9 0 0 (([] : va_W)) [(0, .int k), (1, .int a), (2, .int v), (3, .int g), (4, .int n), (5, .int (n / 2))] 26 [.int (sPl v n)] := by
    refine g_istore (pc := 26) (lv' := [(6, .int (sPl v n)), (0, .int k), (1, .int a), (2, .int v), (3, .int g), (4, .int n), (5, .int (n / 2))]) C dX6_yesBy_26 (by decide) rfl ?_
    refine g_iload_n (pc := 28) C dX6_yesBy_28 3 rfl ?_
    refine g_iconst (pc := 29) (v := 1) C dX6_yesBy_29 (by decide) ?_
    refine g_icmp_ne (pc := 30) (tgt := 38) C dX6_yesBy_30 (by decide) (fun h30 => ?_) (fun h30 => ?_)
    · refine g_iload_n (pc := 38) C dX6_yesBy_38 3 rfl ?_
      refine g_if_ne (pc := 39) (tgt := 46) C dX6_yesBy_39 (by decide) (fun h39 => ?_) (fun h39 => ?_)
      · refine g_iload (pc := 46) C dX6_yesBy_46 6 rfl ?_
        refine g_top (z := sTu v n) (by simp [sTu, h30, h39]) ?_
        refine g_sub (lv' := [(0, .int k), (1, .int a), (2, .int v), (3, .int g), (4, .int n), (5, .int (n / 2)), (6, .int (sPl v n))]) [1, 2, 3, 4, 5, 6, 0] rfl ?_
        exact key_48 
      · refine g_iconst (pc := 42) (v := 0) C dX6_yesBy_42 (by decide) ?_
        refine g_goto (pc := 43) (tgt := 48) C dX6_yesBy_43 (by decide) ?_
        refine g_top (z := sTu v n) (by simp [sTu, h39]) ?_
        refine g_sub (lv' := [(0, .int k), (1, .int a), (2, .int v), (3, .int g), (4, .int n), (5, .int (n / 2)), (6, .int (sPl v n))]) [1, 2, 3, 4, 5, 6, 0] rfl ?_
        exact key_48 
    · refine g_iload (pc := 33) C dX6_yesBy_33 5 rfl ?_
      refine g_goto (pc := 35) (tgt := 48) C dX6_yesBy_35 (by decide) ?_
      refine g_top (z := sTu v n) (by simp [sTu, h30]) ?_
      refine g_sub (lv' := [(0, .int k), (1, .int a), (2, .int v), (3, .int g), (4, .int n), (5, .int (n / 2)), (6, .int (sPl v n))]) [1, 2, 3, 4, 5, 6, 0] rfl ?_
      exact key_48 
  refine g_iload (pc := 0) C dX6_yesBy_0 4 rfl ?_
  refine g_iconst (pc := 2) (v := 2) C dX6_yesBy_2 (by decide) ?_
  refine g_idiv (pc := 3) C dX6_yesBy_3 (by decide) ?_
  refine g_istore (pc := 4) (lv' := [(5, .int (n / 2)), (0, .int k), (1, .int a), (2, .int v), (3, .int g), (4, .int n)]) C dX6_yesBy_4 (by decide) rfl ?_
  refine g_iload_n (pc := 6) C dX6_yesBy_6 3 rfl ?_
  refine g_if_ne (pc := 7) (tgt := 15) C dX6_yesBy_7 (by decide) (fun h7 => ?_) (fun h7 => ?_)
  · refine g_iload_n (pc := 15) C dX6_yesBy_15 3 rfl ?_
    refine g_iconst (pc := 16) (v := 1) C dX6_yesBy_16 (by decide) ?_
    refine g_icmp_ne (pc := 17) (tgt := 24) C dX6_yesBy_17 (by decide) (fun h17 => ?_) (fun h17 => ?_)
    · refine g_iload (pc := 24) C dX6_yesBy_24 0 rfl ?_
      refine g_top (z := sPl v n) (by simp [sPl, h7, h17]) ?_
      refine g_sub (lv' := [(0, .int k), (1, .int a), (2, .int v), (3, .int g), (4, .int n), (5, .int (n / 2))]) [1, 2, 3, 4, 5, 0] rfl ?_
      exact key_26 
    · refine g_iconst (pc := 20) (v := 0) C dX6_yesBy_20 (by decide) ?_
      refine g_goto (pc := 21) (tgt := 26) C dX6_yesBy_21 (by decide) ?_
      refine g_top (z := sPl v n) (by simp [sPl, h17]) ?_
      refine g_sub (lv' := [(0, .int k), (1, .int a), (2, .int v), (3, .int g), (4, .int n), (5, .int (n / 2))]) [1, 2, 3, 4, 5, 0] rfl ?_
      exact key_26 
  · refine g_iload (pc := 10) C dX6_yesBy_10 5 rfl ?_
    refine g_goto (pc := 12) (tgt := 26) C dX6_yesBy_12 (by decide) ?_
    refine g_top (z := sPl v n) (by simp [sPl, h7]) ?_
    refine g_sub (lv' := [(0, .int k), (1, .int a), (2, .int v), (3, .int g), (4, .int n), (5, .int (n / 2))]) [1, 2, 3, 4, 5, 0] rfl ?_
    exact key_26 
set_option maxRecDepth 20000 in
set_option maxHeartbeats 4000000 in
theorem c_X3_yesAs (l : Launch) (G : gT) (h : Nat) (a : Nat) (b : Nat) (c : Nat) (τ : tT) (q : Nat) (v : Int32) (g : Int32) (n : Int32) (hq : q < 8) : RI l yX3_yesAs cX3_yesAs 5 (some .int) 1 G [.ref h, .int (nI q), .int v, .int g, .int n] (wT G h a b c τ) (yQ τ q v g n) := by
  refine start_R (by decide) (Nat.le_of_ble_eq_true rfl) (fun p9 e9 s9 m9 a9 b9 t9 c9 C => ?_)
  refine g_lv (lv' := [(0, .ref h), (1, .int (nI q)), (2, .int v), (3, .int g), (4, .int n)]) rfl ?_
  refine g_aload_n (pc := 0) C dX3_yesAs_0 0 rfl ?_
  refine g_iload_n (pc := 1) C dX3_yesAs_1 1 rfl ?_
  refine g_rdVI (pc := 2) (val := τ 0 q) (rest := []) C k_X3_kindOf (c_X3_kindOf l G h a b c τ q (by first | assumption | omega)) ml_X3_67 rfl ⟨Nat.le_of_ble_eq_true rfl, Nat.le_of_ble_eq_true rfl⟩ rfl [0, 1, 2, 3] rfl 0 rfl rfl rfl rfl (Nat.le_of_ble_eq_true rfl) ⟨by decide, by decide⟩ dX3_yesAs_2 ?_
  refine g_aload_n (pc := 5) C dX3_yesAs_5 0 rfl ?_
  refine g_iload_n (pc := 6) C dX3_yesAs_6 1 rfl ?_
  refine g_rdVI (pc := 7) (val := τ 1 q) (rest := [.int (τ 0 q)]) C k_X3_aOf (c_X3_aOf l G h a b c τ q (by first | assumption | omega)) ml_X3_70 rfl ⟨Nat.le_of_ble_eq_true rfl, Nat.le_of_ble_eq_true rfl⟩ rfl [0, 1, 2, 3] rfl 0 rfl rfl rfl rfl (Nat.le_of_ble_eq_true rfl) ⟨by decide, by decide⟩ dX3_yesAs_7 ?_
  refine g_iload_n (pc := 10) C dX3_yesAs_10 2 rfl ?_
  refine g_iload_n (pc := 11) C dX3_yesAs_11 3 rfl ?_
  refine g_iload (pc := 12) C dX3_yesAs_12 4 rfl ?_
  refine g_rdSNI (pc := 14) (val := sYes (τ 0 q) (τ 1 q) v g n) (rest := []) C k_X6_yesBy (c_X6_yesBy l G (τ 0 q) (τ 1 q) v g n) (List.mem_of_getElem? (i := 8) rfl) rfl ⟨Nat.le_of_ble_eq_true rfl, Nat.le_of_ble_eq_true rfl⟩ rfl [] rfl rfl (Nat.le_of_ble_eq_true rfl) ⟨by decide, by decide⟩ dX3_yesAs_14 ?_
  exact g_retIR (pc := 17) C (rfl) (by rfl) dX3_yesAs_17
set_option maxRecDepth 20000 in
set_option maxHeartbeats 4000000 in
theorem c_X3_yesOf (l : Launch) (G : gT) (h : Nat) (a : Nat) (b : Nat) (c : Nat) (τ : tT) (q : Nat) (g : Nat) (n : Int32) (hq : q < 8) (hg : g < 10) : RI l yX3_yesOf cX3_yesOf 4 (some .int) 1 G [.ref h, .int (nI q), .int (nI g), .int n] (wT G h a b c τ) (yG τ q g n) := by
  refine start_R (by decide) (Nat.le_of_ble_eq_true rfl) (fun p9 e9 s9 m9 a9 b9 t9 c9 C => ?_)
  refine g_lv (lv' := [(0, .ref h), (1, .int (nI q)), (2, .int (nI g)), (3, .int n)]) rfl ?_
  refine g_aload_n (pc := 0) C dX3_yesOf_0 0 rfl ?_
  refine g_iload_n (pc := 1) C dX3_yesOf_1 1 rfl ?_
  refine g_rdVI (pc := 2) (val := τ 0 q) (rest := []) C k_X3_kindOf (c_X3_kindOf l G h a b c τ q (by first | assumption | omega)) ml_X3_67 rfl ⟨Nat.le_of_ble_eq_true rfl, Nat.le_of_ble_eq_true rfl⟩ rfl [0, 1, 2, 3] rfl 0 rfl rfl rfl rfl (Nat.le_of_ble_eq_true rfl) ⟨by decide, by decide⟩ dX3_yesOf_2 ?_
  refine g_aload_n (pc := 5) C dX3_yesOf_5 0 rfl ?_
  refine g_iload_n (pc := 6) C dX3_yesOf_6 1 rfl ?_
  refine g_rdVI (pc := 7) (val := τ 1 q) (rest := [.int (τ 0 q)]) C k_X3_aOf (c_X3_aOf l G h a b c τ q (by first | assumption | omega)) ml_X3_70 rfl ⟨Nat.le_of_ble_eq_true rfl, Nat.le_of_ble_eq_true rfl⟩ rfl [0, 1, 2, 3] rfl 0 rfl rfl rfl rfl (Nat.le_of_ble_eq_true rfl) ⟨by decide, by decide⟩ dX3_yesOf_7 ?_
  refine g_aload_n (pc := 10) C dX3_yesOf_10 0 rfl ?_
  refine g_iload_n (pc := 11) C dX3_yesOf_11 2 rfl ?_
  refine g_rdVI (pc := 12) (val := τ 4 g) (rest := [.int (τ 1 q), .int (τ 0 q)]) C k_X3_viewOf (c_X3_viewOf l G h a b c τ g (by first | assumption | omega)) ml_X3_76 rfl ⟨Nat.le_of_ble_eq_true rfl, Nat.le_of_ble_eq_true rfl⟩ rfl [0, 1, 2, 3] rfl 0 rfl rfl rfl rfl (Nat.le_of_ble_eq_true rfl) ⟨by decide, by decide⟩ dX3_yesOf_12 ?_
  refine g_aload_n (pc := 15) C dX3_yesOf_15 0 rfl ?_
  refine g_iload_n (pc := 16) C dX3_yesOf_16 2 rfl ?_
  refine g_rdVI (pc := 17) (val := τ 5 g) (rest := [.int (τ 4 g), .int (τ 1 q), .int (τ 0 q)]) C k_X3_gladOf (c_X3_gladOf l G h a b c τ g (by first | assumption | omega)) ml_X3_53 rfl ⟨Nat.le_of_ble_eq_true rfl, Nat.le_of_ble_eq_true rfl⟩ rfl [0, 1, 2, 3] rfl 0 rfl rfl rfl rfl (Nat.le_of_ble_eq_true rfl) ⟨by decide, by decide⟩ dX3_yesOf_17 ?_
  refine g_iload_n (pc := 20) C dX3_yesOf_20 3 rfl ?_
  refine g_rdSNI (pc := 21) (val := sYes (τ 0 q) (τ 1 q) (τ 4 g) (τ 5 g) n) (rest := []) C k_X6_yesBy (c_X6_yesBy l G (τ 0 q) (τ 1 q) (τ 4 g) (τ 5 g) n) (List.mem_of_getElem? (i := 8) rfl) rfl ⟨Nat.le_of_ble_eq_true rfl, Nat.le_of_ble_eq_true rfl⟩ rfl [] rfl rfl (Nat.le_of_ble_eq_true rfl) ⟨by decide, by decide⟩ dX3_yesOf_21 ?_
  exact g_retIR (pc := 24) C (rfl) (by rfl) dX3_yesOf_24
set_option maxRecDepth 20000 in
set_option maxHeartbeats 4000000 in
theorem c_X3_peopleOf (l : Launch) (G : gT) (h : Nat) (a : Nat) (b : Nat) (c : Nat) (τ : tT) (set : Int32) (hT : TI τ) : RI l yX3_peopleOf cX3_peopleOf 4 (some .int) 1 G [.ref h, .int set] (wT G h a b c τ) (pplS τ set) := by
  have hg10 := hT.g10
  have hq8 := hT.q8
  refine start_R (by decide) (Nat.le_of_ble_eq_true rfl) (fun p9 e9 s9 m9 a9 b9 t9 c9 C => ?_)
  refine g_lv (lv' := [(0, .ref h), (1, .int set)]) rfl ?_
  refine g_iconst (pc := 0) (v := 0) C dX3_peopleOf_0 (by decide) ?_
  refine g_istore_n (pc := 1) (lv' := [(2, .int 0), (0, .ref h), (1, .int set)]) C dX3_peopleOf_1 rfl (by decide) rfl ?_
  refine g_iconst (pc := 2) (v := 0) C dX3_peopleOf_2 (by decide) ?_
  refine g_istore_n (pc := 3) (lv' := [(3, .int 0), (2, .int 0), (0, .ref h), (1, .int set)]) C dX3_peopleOf_3 rfl (by decide) rfl ?_
  have key_4 : ∀ (n4 : Nat) (i : Nat) (hi : i ≤ tG τ), tG τ - i < n4 → GW p9 l e9 (rmh 1 0 0) s9 m9 a9 b9 t9 c9 (MQ b9 (QcI (pplS τ set)) a9 s9 0 0 NoA) G NoA false 4 0 0 (wT G h a b c τ) [(0, .ref h), (1, .int set), (2, .int (sumN (fun g => if bitP set g then τ 3 g else 0) i)), (3, .int (nI i))] 4 [] := by
    intro n4
    induction n4 with
    | zero => intro i hi hn4; exact absurd hn4 (Nat.not_lt_zero _)
    | succ n4 ih4 =>
      intro i hi hn4
      refine g_iload_n (pc := 4) C dX3_peopleOf_4 3 rfl ?_
      refine g_aload_n (pc := 5) C dX3_peopleOf_5 0 rfl ?_
      refine g_get (pc := 6) (T := TX3) (N := 10) (v := .int (τ 8 1)) C ib_X3 0 rfl rfl 4 (by decide) mf_X3_37 rfl rfl rfl dX3_peopleOf_6 ?_
      refine g_top (z := nI (tG τ)) (hT.g) ?_
      refine g_icmpN_ge (pc := 9) (i := i) (j := tG τ) (tgt := 34) C dX3_peopleOf_9 (by decide) ⟨by omega, by omega⟩ (fun h9 => ?_) (fun h9 => ?_)
      · refine g_iload_n (pc := 34) C dX3_peopleOf_34 2 rfl ?_
        exact g_retIR (pc := 35) C (rfl) (by rw [show i = tG τ from by omega]; rfl) dX3_peopleOf_35
      · refine g_iload_n (pc := 12) C dX3_peopleOf_12 1 rfl ?_
        refine g_iload_n (pc := 13) C dX3_peopleOf_13 3 rfl ?_
        refine g_rdSNI (pc := 14) (val := bI (¬ set &&& (1 <<< ((nI i) &&& 31)) = 0)) (rest := []) C k_X6_contains (c_X6_contains l G set (nI i)) (List.mem_of_getElem? (i := 7) rfl) rfl ⟨Nat.le_of_ble_eq_true rfl, Nat.le_of_ble_eq_true rfl⟩ rfl [] rfl rfl (Nat.le_of_ble_eq_true rfl) ⟨by decide, by decide⟩ dX3_peopleOf_14 ?_
        refine g_ifb_eq (pc := 17) (tgt := 28) C dX3_peopleOf_17 (by decide) (fun h17 => ?_) (fun h17 => ?_)
        · refine g_iinc (pc := 28) (v := nI (i + 1)) (lv' := [(3, .int (nI (i + 1))), (0, .ref h), (1, .int set), (2, .int (sumN (fun g => if bitP set g then τ 3 g else 0) i))]) C dX3_peopleOf_28 3 rfl (nI_1 i) (by decide) rfl ?_
          refine g_goto (pc := 31) (tgt := 4) C dX3_peopleOf_31 (by decide) ?_
          refine g_sub (lv' := [(0, .ref h), (1, .int set), (2, .int (sumN (fun g => if bitP set g then τ 3 g else 0) i)), (3, .int (nI (i + 1)))]) [1, 2, 3, 0] rfl ?_
          refine g_lv (lv' := [(0, .ref h), (1, .int set), (2, .int (sumN (fun g => if bitP set g then τ 3 g else 0) (i + 1))), (3, .int (nI (i + 1)))]) (by simp [sumN, h17]) ?_
          exact ih4 (i + 1) (by first | assumption | omega) (by omega)
        · refine g_iload_n (pc := 20) C dX3_peopleOf_20 2 rfl ?_
          refine g_aload_n (pc := 21) C dX3_peopleOf_21 0 rfl ?_
          refine g_iload_n (pc := 22) C dX3_peopleOf_22 3 rfl ?_
          refine g_rdVI (pc := 23) (val := τ 3 i) (rest := [.int (sumN (fun g => if bitP set g then τ 3 g else 0) i)]) C k_X3_countOf (c_X3_countOf l G h a b c τ i (by first | assumption | omega)) ml_X3_83 rfl ⟨Nat.le_of_ble_eq_true rfl, Nat.le_of_ble_eq_true rfl⟩ rfl [0, 1, 2, 3] rfl 0 rfl rfl rfl rfl (Nat.le_of_ble_eq_true rfl) ⟨by decide, by decide⟩ dX3_peopleOf_23 ?_
          refine g_iadd (pc := 26) C dX3_peopleOf_26 ?_
          refine g_istore_n (pc := 27) (lv' := [(2, .int ((sumN (fun g => if bitP set g then τ 3 g else 0) i) + (τ 3 i))), (0, .ref h), (1, .int set), (3, .int (nI i))]) C dX3_peopleOf_27 rfl (by decide) rfl ?_
          refine g_iinc (pc := 28) (v := nI (i + 1)) (lv' := [(3, .int (nI (i + 1))), (2, .int ((sumN (fun g => if bitP set g then τ 3 g else 0) i) + (τ 3 i))), (0, .ref h), (1, .int set)]) C dX3_peopleOf_28 3 rfl (nI_1 i) (by decide) rfl ?_
          refine g_goto (pc := 31) (tgt := 4) C dX3_peopleOf_31 (by decide) ?_
          refine g_sub (lv' := [(0, .ref h), (1, .int set), (2, .int ((sumN (fun g => if bitP set g then τ 3 g else 0) i) + (τ 3 i))), (3, .int (nI (i + 1)))]) [2, 3, 1, 0] rfl ?_
          refine g_lv (lv' := [(0, .ref h), (1, .int set), (2, .int (sumN (fun g => if bitP set g then τ 3 g else 0) (i + 1))), (3, .int (nI (i + 1)))]) (by simp [sumN, h17]) ?_
          exact ih4 (i + 1) (by first | assumption | omega) (by omega)
  refine g_sub (lv' := [(0, .ref h), (1, .int set), (2, .int (sumN (fun g => if bitP set g then τ 3 g else 0) 0)), (3, .int (nI 0))]) [2, 3, 1, 0] rfl ?_
  exact key_4 _ 0 (by first | assumption | omega) (Nat.lt_succ_self _)
set_option maxRecDepth 20000 in
set_option maxHeartbeats 4000000 in
theorem c_X3_allOf (l : Launch) (G : gT) (h : Nat) (a : Nat) (b : Nat) (c : Nat) (τ : tT) (q : Nat) (set : Int32) (hT : TI τ) (hq : q < 8) : RI l yX3_allOf cX3_allOf 5 (some .int) 2 G [.ref h, .int (nI q), .int set] (wT G h a b c τ) (allS τ q set) := by
  have hg10 := hT.g10
  have hq8 := hT.q8
  refine start_R (by decide) (Nat.le_of_ble_eq_true rfl) (fun p9 e9 s9 m9 a9 b9 t9 c9 C => ?_)
  refine g_lv (lv' := [(0, .ref h), (1, .int (nI q)), (2, .int set)]) rfl ?_
  refine g_iconst (pc := 0) (v := 0) C dX3_allOf_0 (by decide) ?_
  refine g_istore_n (pc := 1) (lv' := [(3, .int 0), (0, .ref h), (1, .int (nI q)), (2, .int set)]) C dX3_allOf_1 rfl (by decide) rfl ?_
  refine g_iconst (pc := 2) (v := 0) C dX3_allOf_2 (by decide) ?_
  refine g_istore (pc := 3) (lv' := [(4, .int 0), (3, .int 0), (0, .ref h), (1, .int (nI q)), (2, .int set)]) C dX3_allOf_3 (by decide) rfl ?_
  have key_5 : ∀ (n5 : Nat) (i : Nat) (hi : i ≤ tG τ), tG τ - i < n5 → GW p9 l e9 (rmh 2 0 0) s9 m9 a9 b9 t9 c9 (MQ b9 (QcI (allS τ q set)) a9 s9 0 0 NoA) G NoA false 5 0 0 (wT G h a b c τ) [(0, .ref h), (1, .int (nI q)), (2, .int set), (3, .int (sumN (fun g => if bitP set g then yG τ q g (τ 3 g) else 0) i)), (4, .int (nI i))] 5 [] := by
    intro n5
    induction n5 with
    | zero => intro i hi hn5; exact absurd hn5 (Nat.not_lt_zero _)
    | succ n5 ih5 =>
      intro i hi hn5
      refine g_iload (pc := 5) C dX3_allOf_5 4 rfl ?_
      refine g_aload_n (pc := 7) C dX3_allOf_7 0 rfl ?_
      refine g_get (pc := 8) (T := TX3) (N := 10) (v := .int (τ 8 1)) C ib_X3 0 rfl rfl 4 (by decide) mf_X3_37 rfl rfl rfl dX3_allOf_8 ?_
      refine g_top (z := nI (tG τ)) (hT.g) ?_
      refine g_icmpN_ge (pc := 11) (i := i) (j := tG τ) (tgt := 45) C dX3_allOf_11 (by decide) ⟨by omega, by omega⟩ (fun h11 => ?_) (fun h11 => ?_)
      · refine g_iload_n (pc := 45) C dX3_allOf_45 3 rfl ?_
        exact g_retIR (pc := 46) C (rfl) (by rw [show i = tG τ from by omega]; rfl) dX3_allOf_46
      · refine g_iload_n (pc := 14) C dX3_allOf_14 2 rfl ?_
        refine g_iload (pc := 15) C dX3_allOf_15 4 rfl ?_
        refine g_rdSNI (pc := 17) (val := bI (¬ set &&& (1 <<< ((nI i) &&& 31)) = 0)) (rest := []) C k_X6_contains (c_X6_contains l G set (nI i)) (List.mem_of_getElem? (i := 7) rfl) rfl ⟨Nat.le_of_ble_eq_true rfl, Nat.le_of_ble_eq_true rfl⟩ rfl [] rfl rfl (Nat.le_of_ble_eq_true rfl) ⟨by decide, by decide⟩ dX3_allOf_17 ?_
        refine g_ifb_eq (pc := 20) (tgt := 39) C dX3_allOf_20 (by decide) (fun h20 => ?_) (fun h20 => ?_)
        · refine g_iinc (pc := 39) (v := nI (i + 1)) (lv' := [(4, .int (nI (i + 1))), (0, .ref h), (1, .int (nI q)), (2, .int set), (3, .int (sumN (fun g => if bitP set g then yG τ q g (τ 3 g) else 0) i))]) C dX3_allOf_39 4 rfl (nI_1 i) (by decide) rfl ?_
          refine g_goto (pc := 42) (tgt := 5) C dX3_allOf_42 (by decide) ?_
          refine g_sub (lv' := [(0, .ref h), (1, .int (nI q)), (2, .int set), (3, .int (sumN (fun g => if bitP set g then yG τ q g (τ 3 g) else 0) i)), (4, .int (nI (i + 1)))]) [1, 2, 3, 4, 0] rfl ?_
          refine g_lv (lv' := [(0, .ref h), (1, .int (nI q)), (2, .int set), (3, .int (sumN (fun g => if bitP set g then yG τ q g (τ 3 g) else 0) (i + 1))), (4, .int (nI (i + 1)))]) (by simp [sumN, h20]) ?_
          exact ih5 (i + 1) (by first | assumption | omega) (by omega)
        · refine g_iload_n (pc := 23) C dX3_allOf_23 3 rfl ?_
          refine g_aload_n (pc := 24) C dX3_allOf_24 0 rfl ?_
          refine g_iload_n (pc := 25) C dX3_allOf_25 1 rfl ?_
          refine g_iload (pc := 26) C dX3_allOf_26 4 rfl ?_
          refine g_aload_n (pc := 28) C dX3_allOf_28 0 rfl ?_
          refine g_iload (pc := 29) C dX3_allOf_29 4 rfl ?_
          refine g_rdVI (pc := 31) (val := τ 3 i) (rest := [.int (nI i), .int (nI q), .ref h, .int (sumN (fun g => if bitP set g then yG τ q g (τ 3 g) else 0) i)]) C k_X3_countOf (c_X3_countOf l G h a b c τ i (by first | assumption | omega)) ml_X3_83 rfl ⟨Nat.le_of_ble_eq_true rfl, Nat.le_of_ble_eq_true rfl⟩ rfl [0, 1, 2, 3] rfl 0 rfl rfl rfl rfl (Nat.le_of_ble_eq_true rfl) ⟨by decide, by decide⟩ dX3_allOf_31 ?_
          refine g_rdVI (pc := 34) (val := yG τ q i (τ 3 i)) (rest := [.int (sumN (fun g => if bitP set g then yG τ q g (τ 3 g) else 0) i)]) C k_X3_yesOf (c_X3_yesOf l G h a b c τ q i (τ 3 i) (by first | assumption | omega) (by first | assumption | omega)) ml_X3_86 rfl ⟨Nat.le_of_ble_eq_true rfl, Nat.le_of_ble_eq_true rfl⟩ rfl [0, 1, 2, 3] rfl 0 rfl rfl rfl rfl (Nat.le_of_ble_eq_true rfl) ⟨by decide, by decide⟩ dX3_allOf_34 ?_
          refine g_iadd (pc := 37) C dX3_allOf_37 ?_
          refine g_istore_n (pc := 38) (lv' := [(3, .int ((sumN (fun g => if bitP set g then yG τ q g (τ 3 g) else 0) i) + (yG τ q i (τ 3 i)))), (0, .ref h), (1, .int (nI q)), (2, .int set), (4, .int (nI i))]) C dX3_allOf_38 rfl (by decide) rfl ?_
          refine g_iinc (pc := 39) (v := nI (i + 1)) (lv' := [(4, .int (nI (i + 1))), (3, .int ((sumN (fun g => if bitP set g then yG τ q g (τ 3 g) else 0) i) + (yG τ q i (τ 3 i)))), (0, .ref h), (1, .int (nI q)), (2, .int set)]) C dX3_allOf_39 4 rfl (nI_1 i) (by decide) rfl ?_
          refine g_goto (pc := 42) (tgt := 5) C dX3_allOf_42 (by decide) ?_
          refine g_sub (lv' := [(0, .ref h), (1, .int (nI q)), (2, .int set), (3, .int ((sumN (fun g => if bitP set g then yG τ q g (τ 3 g) else 0) i) + (yG τ q i (τ 3 i)))), (4, .int (nI (i + 1)))]) [2, 3, 4, 1, 0] rfl ?_
          refine g_lv (lv' := [(0, .ref h), (1, .int (nI q)), (2, .int set), (3, .int (sumN (fun g => if bitP set g then yG τ q g (τ 3 g) else 0) (i + 1))), (4, .int (nI (i + 1)))]) (by simp [sumN, h20]) ?_
          exact ih5 (i + 1) (by first | assumption | omega) (by omega)
  refine g_sub (lv' := [(0, .ref h), (1, .int (nI q)), (2, .int set), (3, .int (sumN (fun g => if bitP set g then yG τ q g (τ 3 g) else 0) 0)), (4, .int (nI 0))]) [2, 3, 4, 1, 0] rfl ?_
  exact key_5 _ 0 (by first | assumption | omega) (Nat.lt_succ_self _)
set_option maxRecDepth 20000 in
set_option maxHeartbeats 4000000 in
theorem c_X3_shareOf (l : Launch) (G : gT) (h : Nat) (a : Nat) (b : Nat) (c : Nat) (τ : tT) (q : Nat) (set : Int32) (hT : TI τ) (hq : q < 8) : RI l yX3_shareOf cX3_shareOf 3 (some .int) 3 G [.ref h, .int (nI q), .int set] (wT G h a b c τ) (shS τ q set) := by
  refine start_R (by decide) (Nat.le_of_ble_eq_true rfl) (fun p9 e9 s9 m9 a9 b9 t9 c9 C => ?_)
  refine g_lv (lv' := [(0, .ref h), (1, .int (nI q)), (2, .int set)]) rfl ?_
  refine g_aload_n (pc := 0) C dX3_shareOf_0 0 rfl ?_
  refine g_iload_n (pc := 1) C dX3_shareOf_1 1 rfl ?_
  refine g_iload_n (pc := 2) C dX3_shareOf_2 2 rfl ?_
  refine g_rdVI (pc := 3) (val := allS τ q set) (rest := []) C k_X3_allOf (c_X3_allOf l G h a b c τ q set (by first | assumption | omega) (by first | assumption | omega)) ml_X3_90 rfl ⟨Nat.le_of_ble_eq_true rfl, Nat.le_of_ble_eq_true rfl⟩ rfl [0, 1, 2, 3] rfl 0 rfl rfl rfl rfl (Nat.le_of_ble_eq_true rfl) ⟨by decide, by decide⟩ dX3_shareOf_3 ?_
  refine g_aload_n (pc := 6) C dX3_shareOf_6 0 rfl ?_
  refine g_iload_n (pc := 7) C dX3_shareOf_7 2 rfl ?_
  refine g_rdVI (pc := 8) (val := pplS τ set) (rest := [.int (allS τ q set)]) C k_X3_peopleOf (c_X3_peopleOf l G h a b c τ set (by first | assumption | omega)) ml_X3_94 rfl ⟨Nat.le_of_ble_eq_true rfl, Nat.le_of_ble_eq_true rfl⟩ rfl [0, 1, 2, 3] rfl 0 rfl rfl rfl rfl (Nat.le_of_ble_eq_true rfl) ⟨by decide, by decide⟩ dX3_shareOf_8 ?_
  refine g_rdSNI (pc := 11) (val := sTh (allS τ q set) (pplS τ set)) (rest := []) C k_X6_thousandths (c_X6_thousandths l G (allS τ q set) (pplS τ set)) (List.mem_of_getElem? (i := 9) rfl) rfl ⟨Nat.le_of_ble_eq_true rfl, Nat.le_of_ble_eq_true rfl⟩ rfl [] rfl rfl (Nat.le_of_ble_eq_true rfl) ⟨by decide, by decide⟩ dX3_shareOf_11 ?_
  exact g_retIR (pc := 14) C (rfl) (by rfl) dX3_shareOf_14
theorem c_X3_peopleOf_all (l : Launch) (G : gT) (h : Nat) (a : Nat) (b : Nat) (c : Nat) (τ : tT) (hT : TI τ) : RI l yX3_peopleOf cX3_peopleOf 4 (some .int) 1 G [.ref h, .int 1023] (wT G h a b c τ) (ppl τ) := pplS_all hT ▸ c_X3_peopleOf l G h a b c τ 1023 hT
theorem c_X3_allOf_all (l : Launch) (G : gT) (h : Nat) (a : Nat) (b : Nat) (c : Nat) (τ : tT) (q : Nat) (hT : TI τ) (hq : q < 8) : RI l yX3_allOf cX3_allOf 5 (some .int) 2 G [.ref h, .int (nI q), .int 1023] (wT G h a b c τ) (allN τ q) := allS_all hT q ▸ c_X3_allOf l G h a b c τ q 1023 hT hq
theorem c_X3_shareOf_all (l : Launch) (G : gT) (h : Nat) (a : Nat) (b : Nat) (c : Nat) (τ : tT) (q : Nat) (hT : TI τ) (hq : q < 8) : RI l yX3_shareOf cX3_shareOf 3 (some .int) 3 G [.ref h, .int (nI q), .int 1023] (wT G h a b c τ) (share τ q) := shS_all hT q ▸ c_X3_shareOf l G h a b c τ q 1023 hT hq
set_option maxRecDepth 20000 in
set_option maxHeartbeats 4000000 in
theorem c_X3_shareBehind (l : Launch) (G : gT) (h : Nat) (a : Nat) (b : Nat) (c : Nat) (τ : tT) (q : Nat) (x : Int32) (set : Int32) (hT : TI τ) (hq : q < 8) : RI l yX3_shareBehind cX3_shareBehind 6 (some .int) 1 G [.ref h, .int (nI q), .int x, .int set] (wT G h a b c τ) (shB τ q x set) := by
  have hg10 := hT.g10
  have hq8 := hT.q8
  refine start_R (by decide) (Nat.le_of_ble_eq_true rfl) (fun p9 e9 s9 m9 a9 b9 t9 c9 C => ?_)
  refine g_lv (lv' := [(0, .ref h), (1, .int (nI q)), (2, .int x), (3, .int set)]) rfl ?_
  refine g_iconst (pc := 0) (v := 0) C dX3_shareBehind_0 (by decide) ?_
  refine g_istore (pc := 1) (lv' := [(4, .int 0), (0, .ref h), (1, .int (nI q)), (2, .int x), (3, .int set)]) C dX3_shareBehind_1 (by decide) rfl ?_
  refine g_iconst (pc := 3) (v := 0) C dX3_shareBehind_3 (by decide) ?_
  refine g_istore (pc := 4) (lv' := [(5, .int 0), (4, .int 0), (0, .ref h), (1, .int (nI q)), (2, .int x), (3, .int set)]) C dX3_shareBehind_4 (by decide) rfl ?_
  have key_6 : ∀ (n6 : Nat) (i : Nat) (hi : i ≤ tQ τ), tQ τ - i < n6 → GW p9 l e9 (rmh 1 0 0) s9 m9 a9 b9 t9 c9 (MQ b9 (QcI (shB τ q x set)) a9 s9 0 0 NoA) G NoA false 6 0 0 (wT G h a b c τ) [(0, .ref h), (1, .int (nI q)), (2, .int x), (3, .int set), (4, .int (sumN (fun p => if bitP set p then τ 2 (p * 8 + q) else 0) i)), (5, .int (nI i))] 6 [] := by
    intro n6
    induction n6 with
    | zero => intro i hi hn6; exact absurd hn6 (Nat.not_lt_zero _)
    | succ n6 ih6 =>
      intro i hi hn6
      refine g_iload (pc := 6) C dX3_shareBehind_6 5 rfl ?_
      refine g_aload_n (pc := 8) C dX3_shareBehind_8 0 rfl ?_
      refine g_get (pc := 9) (T := TX3) (N := 10) (v := .int (τ 8 0)) C ib_X3 0 rfl rfl 3 (by decide) mf_X3_34 rfl rfl rfl dX3_shareBehind_9 ?_
      refine g_top (z := nI (tQ τ)) (hT.q) ?_
      refine g_icmpN_ge (pc := 12) (i := i) (j := tQ τ) (tgt := 42) C dX3_shareBehind_12 (by decide) ⟨by omega, by omega⟩ (fun h12 => ?_) (fun h12 => ?_)
      · refine g_iconst (pc := 42) (v := 0) C dX3_shareBehind_42 (by decide) ?_
        refine g_sipush (pc := 43) (v := 1000) C dX3_shareBehind_43 (by decide) ?_
        refine g_iload_n (pc := 46) C dX3_shareBehind_46 2 rfl ?_
        refine g_bipush (pc := 47) (v := 10) C dX3_shareBehind_47 (by decide) ?_
        refine g_iload (pc := 49) C dX3_shareBehind_49 4 rfl ?_
        refine g_imul (pc := 51) C dX3_shareBehind_51 ?_
        refine g_iadd (pc := 52) C dX3_shareBehind_52 ?_
        refine g_mmin (pc := 53) (v := mMin 1000 (x + (10 * (sumN (fun p => if bitP set p then τ 2 (p * 8 + q) else 0) i)))) C ml_X3_103 rfl ⟨Nat.le_of_ble_eq_true rfl, Nat.le_of_ble_eq_true rfl⟩ ⟨by decide, by decide⟩ rfl dX3_shareBehind_53 ?_
        refine g_mmax (pc := 56) (v := mMax 0 (mMin 1000 (x + (10 * (sumN (fun p => if bitP set p then τ 2 (p * 8 + q) else 0) i))))) C ml_X3_108 rfl ⟨Nat.le_of_ble_eq_true rfl, Nat.le_of_ble_eq_true rfl⟩ ⟨by decide, by decide⟩ rfl dX3_shareBehind_56 ?_
        exact g_retIR (pc := 59) C (rfl) (by rw [show i = tQ τ from by omega]; rfl) dX3_shareBehind_59
      · refine g_iload_n (pc := 15) C dX3_shareBehind_15 3 rfl ?_
        refine g_iload (pc := 16) C dX3_shareBehind_16 5 rfl ?_
        refine g_rdSNI (pc := 18) (val := bI (¬ set &&& (1 <<< ((nI i) &&& 31)) = 0)) (rest := []) C k_X6_contains (c_X6_contains l G set (nI i)) (List.mem_of_getElem? (i := 7) rfl) rfl ⟨Nat.le_of_ble_eq_true rfl, Nat.le_of_ble_eq_true rfl⟩ rfl [] rfl rfl (Nat.le_of_ble_eq_true rfl) ⟨by decide, by decide⟩ dX3_shareBehind_18 ?_
        refine g_ifb_eq (pc := 21) (tgt := 36) C dX3_shareBehind_21 (by decide) (fun h21 => ?_) (fun h21 => ?_)
        · refine g_iinc (pc := 36) (v := nI (i + 1)) (lv' := [(5, .int (nI (i + 1))), (0, .ref h), (1, .int (nI q)), (2, .int x), (3, .int set), (4, .int (sumN (fun p => if bitP set p then τ 2 (p * 8 + q) else 0) i))]) C dX3_shareBehind_36 5 rfl (nI_1 i) (by decide) rfl ?_
          refine g_goto (pc := 39) (tgt := 6) C dX3_shareBehind_39 (by decide) ?_
          refine g_sub (lv' := [(0, .ref h), (1, .int (nI q)), (2, .int x), (3, .int set), (4, .int (sumN (fun p => if bitP set p then τ 2 (p * 8 + q) else 0) i)), (5, .int (nI (i + 1)))]) [1, 2, 3, 4, 5, 0] rfl ?_
          refine g_lv (lv' := [(0, .ref h), (1, .int (nI q)), (2, .int x), (3, .int set), (4, .int (sumN (fun p => if bitP set p then τ 2 (p * 8 + q) else 0) (i + 1))), (5, .int (nI (i + 1)))]) (by simp [sumN, h21]) ?_
          exact ih6 (i + 1) (by first | assumption | omega) (by omega)
        · refine g_iload (pc := 24) C dX3_shareBehind_24 4 rfl ?_
          refine g_aload_n (pc := 26) C dX3_shareBehind_26 0 rfl ?_
          refine g_iload (pc := 27) C dX3_shareBehind_27 5 rfl ?_
          refine g_iload_n (pc := 29) C dX3_shareBehind_29 1 rfl ?_
          refine g_rdVI (pc := 30) (val := τ 2 (i * 8 + q)) (rest := [.int (sumN (fun p => if bitP set p then τ 2 (p * 8 + q) else 0) i)]) C k_X3_bearingOf (c_X3_bearingOf l G h a b c τ i q (by first | assumption | omega) (by first | assumption | omega)) ml_X3_100 rfl ⟨Nat.le_of_ble_eq_true rfl, Nat.le_of_ble_eq_true rfl⟩ rfl [0, 1, 2, 3] rfl 0 rfl rfl rfl rfl (Nat.le_of_ble_eq_true rfl) ⟨by decide, by decide⟩ dX3_shareBehind_30 ?_
          refine g_iadd (pc := 33) C dX3_shareBehind_33 ?_
          refine g_istore (pc := 34) (lv' := [(4, .int ((sumN (fun p => if bitP set p then τ 2 (p * 8 + q) else 0) i) + (τ 2 (i * 8 + q)))), (0, .ref h), (1, .int (nI q)), (2, .int x), (3, .int set), (5, .int (nI i))]) C dX3_shareBehind_34 (by decide) rfl ?_
          refine g_iinc (pc := 36) (v := nI (i + 1)) (lv' := [(5, .int (nI (i + 1))), (4, .int ((sumN (fun p => if bitP set p then τ 2 (p * 8 + q) else 0) i) + (τ 2 (i * 8 + q)))), (0, .ref h), (1, .int (nI q)), (2, .int x), (3, .int set)]) C dX3_shareBehind_36 5 rfl (nI_1 i) (by decide) rfl ?_
          refine g_goto (pc := 39) (tgt := 6) C dX3_shareBehind_39 (by decide) ?_
          refine g_sub (lv' := [(0, .ref h), (1, .int (nI q)), (2, .int x), (3, .int set), (4, .int ((sumN (fun p => if bitP set p then τ 2 (p * 8 + q) else 0) i) + (τ 2 (i * 8 + q)))), (5, .int (nI (i + 1)))]) [2, 3, 4, 5, 1, 0] rfl ?_
          refine g_lv (lv' := [(0, .ref h), (1, .int (nI q)), (2, .int x), (3, .int set), (4, .int (sumN (fun p => if bitP set p then τ 2 (p * 8 + q) else 0) (i + 1))), (5, .int (nI (i + 1)))]) (by simp [sumN, h21]) ?_
          exact ih6 (i + 1) (by first | assumption | omega) (by omega)
  refine g_sub (lv' := [(0, .ref h), (1, .int (nI q)), (2, .int x), (3, .int set), (4, .int (sumN (fun p => if bitP set p then τ 2 (p * 8 + q) else 0) 0)), (5, .int (nI 0))]) [2, 3, 4, 5, 1, 0] rfl ?_
  exact key_6 _ 0 (by first | assumption | omega) (Nat.lt_succ_self _)
set_option maxRecDepth 20000 in
set_option maxHeartbeats 4000000 in
theorem c_X3_holding (l : Launch) (G : gT) (h : Nat) (a : Nat) (b : Nat) (c : Nat) (τ : tT) (hT : TI τ) : RI l yX3_holding cX3_holding 3 (some .int) 2 G [.ref h] (wT G h a b c τ) (hold τ) := by
  have hg10 := hT.g10
  have hq8 := hT.q8
  refine start_R (by decide) (Nat.le_of_ble_eq_true rfl) (fun p9 e9 s9 m9 a9 b9 t9 c9 C => ?_)
  refine g_lv (lv' := [(0, .ref h)]) rfl ?_
  refine g_iconst (pc := 0) (v := 0) C dX3_holding_0 (by decide) ?_
  refine g_istore_n (pc := 1) (lv' := [(1, .int 0), (0, .ref h)]) C dX3_holding_1 rfl (by decide) rfl ?_
  refine g_iconst (pc := 2) (v := 0) C dX3_holding_2 (by decide) ?_
  refine g_istore_n (pc := 3) (lv' := [(2, .int 0), (1, .int 0), (0, .ref h)]) C dX3_holding_3 rfl (by decide) rfl ?_
  have key_4 : ∀ (n4 : Nat) (i : Nat) (hi : i ≤ tG τ), tG τ - i < n4 → GW p9 l e9 (rmh 2 0 0) s9 m9 a9 b9 t9 c9 (MQ b9 (QcI (hold τ)) a9 s9 0 0 NoA) G NoA false 3 0 0 (wT G h a b c τ) [(0, .ref h), (1, .int (sumN (fun g => if τ 4 g = 0 then τ 3 g else 0) i)), (2, .int (nI i))] 4 [] := by
    intro n4
    induction n4 with
    | zero => intro i hi hn4; exact absurd hn4 (Nat.not_lt_zero _)
    | succ n4 ih4 =>
      intro i hi hn4
      refine g_iload_n (pc := 4) C dX3_holding_4 2 rfl ?_
      refine g_aload_n (pc := 5) C dX3_holding_5 0 rfl ?_
      refine g_get (pc := 6) (T := TX3) (N := 10) (v := .int (τ 8 1)) C ib_X3 0 rfl rfl 4 (by decide) mf_X3_37 rfl rfl rfl dX3_holding_6 ?_
      refine g_top (z := nI (tG τ)) (hT.g) ?_
      refine g_icmpN_ge (pc := 9) (i := i) (j := tG τ) (tgt := 34) C dX3_holding_9 (by decide) ⟨by omega, by omega⟩ (fun h9 => ?_) (fun h9 => ?_)
      · refine g_iload_n (pc := 34) C dX3_holding_34 1 rfl ?_
        refine g_aload_n (pc := 35) C dX3_holding_35 0 rfl ?_
        refine g_sipush (pc := 36) (v := 1023) C dX3_holding_36 (by decide) ?_
        refine g_rdVI (pc := 39) (val := ppl τ) (rest := [.int (sumN (fun g => if τ 4 g = 0 then τ 3 g else 0) i)]) C k_X3_peopleOf (c_X3_peopleOf_all l G h a b c τ (by first | assumption | omega)) ml_X3_94 rfl ⟨Nat.le_of_ble_eq_true rfl, Nat.le_of_ble_eq_true rfl⟩ rfl [0, 1, 2, 3] rfl 0 rfl rfl rfl rfl (Nat.le_of_ble_eq_true rfl) ⟨by decide, by decide⟩ dX3_holding_39 ?_
        refine g_rdSNI (pc := 42) (val := sTh (sumN (fun g => if τ 4 g = 0 then τ 3 g else 0) i) (ppl τ)) (rest := []) C k_X6_thousandths (c_X6_thousandths l G (sumN (fun g => if τ 4 g = 0 then τ 3 g else 0) i) (ppl τ)) (List.mem_of_getElem? (i := 9) rfl) rfl ⟨Nat.le_of_ble_eq_true rfl, Nat.le_of_ble_eq_true rfl⟩ rfl [] rfl rfl (Nat.le_of_ble_eq_true rfl) ⟨by decide, by decide⟩ dX3_holding_42 ?_
        exact g_retIR (pc := 45) C (rfl) (by rw [show i = tG τ from by omega]; rfl) dX3_holding_45
      · refine g_aload_n (pc := 12) C dX3_holding_12 0 rfl ?_
        refine g_iload_n (pc := 13) C dX3_holding_13 2 rfl ?_
        refine g_rdVI (pc := 14) (val := τ 4 i) (rest := []) C k_X3_viewOf (c_X3_viewOf l G h a b c τ i (by first | assumption | omega)) ml_X3_76 rfl ⟨Nat.le_of_ble_eq_true rfl, Nat.le_of_ble_eq_true rfl⟩ rfl [0, 1, 2, 3] rfl 0 rfl rfl rfl rfl (Nat.le_of_ble_eq_true rfl) ⟨by decide, by decide⟩ dX3_holding_14 ?_
        refine g_if_ne (pc := 17) (tgt := 28) C dX3_holding_17 (by decide) (fun h17 => ?_) (fun h17 => ?_)
        · refine g_iinc (pc := 28) (v := nI (i + 1)) (lv' := [(2, .int (nI (i + 1))), (0, .ref h), (1, .int (sumN (fun g => if τ 4 g = 0 then τ 3 g else 0) i))]) C dX3_holding_28 2 rfl (nI_1 i) (by decide) rfl ?_
          refine g_goto (pc := 31) (tgt := 4) C dX3_holding_31 (by decide) ?_
          refine g_sub (lv' := [(0, .ref h), (1, .int (sumN (fun g => if τ 4 g = 0 then τ 3 g else 0) i)), (2, .int (nI (i + 1)))]) [1, 2, 0] rfl ?_
          refine g_lv (lv' := [(0, .ref h), (1, .int (sumN (fun g => if τ 4 g = 0 then τ 3 g else 0) (i + 1))), (2, .int (nI (i + 1)))]) (by simp [sumN, h17]) ?_
          exact ih4 (i + 1) (by first | assumption | omega) (by omega)
        · refine g_iload_n (pc := 20) C dX3_holding_20 1 rfl ?_
          refine g_aload_n (pc := 21) C dX3_holding_21 0 rfl ?_
          refine g_iload_n (pc := 22) C dX3_holding_22 2 rfl ?_
          refine g_rdVI (pc := 23) (val := τ 3 i) (rest := [.int (sumN (fun g => if τ 4 g = 0 then τ 3 g else 0) i)]) C k_X3_countOf (c_X3_countOf l G h a b c τ i (by first | assumption | omega)) ml_X3_83 rfl ⟨Nat.le_of_ble_eq_true rfl, Nat.le_of_ble_eq_true rfl⟩ rfl [0, 1, 2, 3] rfl 0 rfl rfl rfl rfl (Nat.le_of_ble_eq_true rfl) ⟨by decide, by decide⟩ dX3_holding_23 ?_
          refine g_iadd (pc := 26) C dX3_holding_26 ?_
          refine g_istore_n (pc := 27) (lv' := [(1, .int ((sumN (fun g => if τ 4 g = 0 then τ 3 g else 0) i) + (τ 3 i))), (0, .ref h), (2, .int (nI i))]) C dX3_holding_27 rfl (by decide) rfl ?_
          refine g_iinc (pc := 28) (v := nI (i + 1)) (lv' := [(2, .int (nI (i + 1))), (1, .int ((sumN (fun g => if τ 4 g = 0 then τ 3 g else 0) i) + (τ 3 i))), (0, .ref h)]) C dX3_holding_28 2 rfl (nI_1 i) (by decide) rfl ?_
          refine g_goto (pc := 31) (tgt := 4) C dX3_holding_31 (by decide) ?_
          refine g_sub (lv' := [(0, .ref h), (1, .int ((sumN (fun g => if τ 4 g = 0 then τ 3 g else 0) i) + (τ 3 i))), (2, .int (nI (i + 1)))]) [2, 1, 0] rfl ?_
          refine g_lv (lv' := [(0, .ref h), (1, .int (sumN (fun g => if τ 4 g = 0 then τ 3 g else 0) (i + 1))), (2, .int (nI (i + 1)))]) (by simp [sumN, h17]) ?_
          exact ih4 (i + 1) (by first | assumption | omega) (by omega)
  refine g_sub (lv' := [(0, .ref h), (1, .int (sumN (fun g => if τ 4 g = 0 then τ 3 g else 0) 0)), (2, .int (nI 0))]) [2, 1, 0] rfl ?_
  exact key_4 _ 0 (by first | assumption | omega) (Nat.lt_succ_self _)
set_option maxRecDepth 20000 in
set_option maxHeartbeats 4000000 in
theorem c_X6_isOrUnder_0 (l : Launch) (G : gT) (w : Int32) : RI l yX6_isOrUnder cX6_isOrUnder 4 (some .boolean) 2 G [.int 0, .int w] (([] : va_W)) (bI (undr 0 w)) := by
  refine start_R (by decide) (Nat.le_of_ble_eq_true rfl) (fun p9 e9 s9 m9 a9 b9 t9 c9 C => ?_)
  refine g_lv (lv' := [(0, .int 0), (1, .int w)]) rfl ?_
  refine g_iload_n (pc := 0) C dX6_isOrUnder_0 0 rfl ?_
  refine g_istore_n (pc := 1) (lv' := [(2, .int 0), (0, .int 0), (1, .int w)]) C dX6_isOrUnder_1 rfl (by decide) rfl ?_
  refine g_iconst (pc := 2) (v := 0) C dX6_isOrUnder_2 (by decide) ?_
  refine g_istore_n (pc := 3) (lv' := [(3, .int 0), (2, .int 0), (0, .int 0), (1, .int w)]) C dX6_isOrUnder_3 rfl (by decide) rfl ?_
  refine g_iload_n (pc := 4) C dX6_isOrUnder_4 0 rfl ?_
  refine g_above (pc := 5) C mf_X6_332 rfl dX6_isOrUnder_5 ?_
  refine g_aboveLen (pc := 8) C dX6_isOrUnder_8 ?_
  refine g_icmpN_ge (pc := 9) (i := 0) (j := 7) (tgt := 38) C dX6_isOrUnder_9 (by decide) ⟨by omega, by omega⟩ (fun h9 => absurd h9 (by decide)) (fun h9 => ?_)
  refine g_iload_n (pc := 12) C dX6_isOrUnder_12 1 rfl ?_
  refine g_rdSI (pc := 13) (val := bI (0 ≤ 0 ∧ 0 ≤ 6)) (rest := []) C k_X6_isKind (c_X6_isKind l G 0) ml_X6_103 rfl ⟨Nat.le_of_ble_eq_true rfl, Nat.le_of_ble_eq_true rfl⟩ rfl [] rfl rfl (Nat.le_of_ble_eq_true rfl) ⟨by decide, by decide⟩ dX6_isOrUnder_13 ?_
  refine g_ifb_eq (pc := 16) (tgt := 38) C dX6_isOrUnder_16 (by decide) (fun h16 => absurd h16 (by decide)) (fun h16 => ?_)
  refine g_iload_n (pc := 19) C dX6_isOrUnder_19 1 rfl ?_
  refine g_iload_n (pc := 20) C dX6_isOrUnder_20 3 rfl ?_
  refine g_icmp_ne (pc := 21) (tgt := 26) C dX6_isOrUnder_21 (by decide) (fun h21 => ?_) (fun h21 => ?_)
  · refine g_above (pc := 26) C mf_X6_332 rfl dX6_isOrUnder_26 ?_
    refine g_iload_n (pc := 29) C dX6_isOrUnder_29 1 rfl ?_
    refine g_aboveLd (pc := 30) (v := (-1)) C 0 rfl (by decide) (by decide) dX6_isOrUnder_30 ?_
    refine g_istore_n (pc := 31) (lv' := [(2, .int (-1)), (3, .int 0), (0, .int 0), (1, .int w)]) C dX6_isOrUnder_31 rfl (by decide) rfl ?_
    refine g_iinc (pc := 32) (v := 1) (lv' := [(3, .int 1), (2, .int (-1)), (0, .int 0), (1, .int w)]) C dX6_isOrUnder_32 1 rfl (nI_1 0) (by decide) rfl ?_
    refine g_goto (pc := 35) (tgt := 4) C dX6_isOrUnder_35 (by decide) ?_
    refine g_iload_n (pc := 4) C dX6_isOrUnder_4 0 rfl ?_
    refine g_above (pc := 5) C mf_X6_332 rfl dX6_isOrUnder_5 ?_
    refine g_aboveLen (pc := 8) C dX6_isOrUnder_8 ?_
    refine g_icmpN_ge (pc := 9) (i := 1) (j := 7) (tgt := 38) C dX6_isOrUnder_9 (by decide) ⟨by omega, by omega⟩ (fun h9 => absurd h9 (by decide)) (fun h9 => ?_)
    refine g_iload_n (pc := 12) C dX6_isOrUnder_12 1 rfl ?_
    refine g_rdSI (pc := 13) (val := bI (0 ≤ (-1) ∧ (-1) ≤ 6)) (rest := []) C k_X6_isKind (c_X6_isKind l G (-1)) ml_X6_103 rfl ⟨Nat.le_of_ble_eq_true rfl, Nat.le_of_ble_eq_true rfl⟩ rfl [] rfl rfl (Nat.le_of_ble_eq_true rfl) ⟨by decide, by decide⟩ dX6_isOrUnder_13 ?_
    refine g_ifb_eq (pc := 16) (tgt := 38) C dX6_isOrUnder_16 (by decide) (fun h16 => ?_) (fun h16 => absurd h16 (by decide))
    refine g_iconst (pc := 38) (v := 0) C dX6_isOrUnder_38 (by decide) ?_
    exact g_retIR (pc := 39) C (rfl) (by first | (refine (bI_t ?_).symm; simp_all [undr, nI]; done) | (refine (bI_f ?_).symm; rintro (q | q | q | q | q) <;> simp_all [nI]; done)) dX6_isOrUnder_39
  · refine g_iconst (pc := 24) (v := 1) C dX6_isOrUnder_24 (by decide) ?_
    exact g_retIR (pc := 25) C (rfl) (by first | (refine (bI_t ?_).symm; simp_all [undr, nI]; done) | (refine (bI_f ?_).symm; rintro (q | q | q | q | q) <;> simp_all [nI]; done)) dX6_isOrUnder_25
set_option maxRecDepth 20000 in
set_option maxHeartbeats 4000000 in
theorem c_X6_isOrUnder_1 (l : Launch) (G : gT) (w : Int32) : RI l yX6_isOrUnder cX6_isOrUnder 4 (some .boolean) 2 G [.int 1, .int w] (([] : va_W)) (bI (undr 1 w)) := by
  refine start_R (by decide) (Nat.le_of_ble_eq_true rfl) (fun p9 e9 s9 m9 a9 b9 t9 c9 C => ?_)
  refine g_lv (lv' := [(0, .int 1), (1, .int w)]) rfl ?_
  refine g_iload_n (pc := 0) C dX6_isOrUnder_0 0 rfl ?_
  refine g_istore_n (pc := 1) (lv' := [(2, .int 1), (0, .int 1), (1, .int w)]) C dX6_isOrUnder_1 rfl (by decide) rfl ?_
  refine g_iconst (pc := 2) (v := 0) C dX6_isOrUnder_2 (by decide) ?_
  refine g_istore_n (pc := 3) (lv' := [(3, .int 0), (2, .int 1), (0, .int 1), (1, .int w)]) C dX6_isOrUnder_3 rfl (by decide) rfl ?_
  refine g_iload_n (pc := 4) C dX6_isOrUnder_4 0 rfl ?_
  refine g_above (pc := 5) C mf_X6_332 rfl dX6_isOrUnder_5 ?_
  refine g_aboveLen (pc := 8) C dX6_isOrUnder_8 ?_
  refine g_icmpN_ge (pc := 9) (i := 0) (j := 7) (tgt := 38) C dX6_isOrUnder_9 (by decide) ⟨by omega, by omega⟩ (fun h9 => absurd h9 (by decide)) (fun h9 => ?_)
  refine g_iload_n (pc := 12) C dX6_isOrUnder_12 1 rfl ?_
  refine g_rdSI (pc := 13) (val := bI (0 ≤ 1 ∧ 1 ≤ 6)) (rest := []) C k_X6_isKind (c_X6_isKind l G 1) ml_X6_103 rfl ⟨Nat.le_of_ble_eq_true rfl, Nat.le_of_ble_eq_true rfl⟩ rfl [] rfl rfl (Nat.le_of_ble_eq_true rfl) ⟨by decide, by decide⟩ dX6_isOrUnder_13 ?_
  refine g_ifb_eq (pc := 16) (tgt := 38) C dX6_isOrUnder_16 (by decide) (fun h16 => absurd h16 (by decide)) (fun h16 => ?_)
  refine g_iload_n (pc := 19) C dX6_isOrUnder_19 1 rfl ?_
  refine g_iload_n (pc := 20) C dX6_isOrUnder_20 3 rfl ?_
  refine g_icmp_ne (pc := 21) (tgt := 26) C dX6_isOrUnder_21 (by decide) (fun h21 => ?_) (fun h21 => ?_)
  · refine g_above (pc := 26) C mf_X6_332 rfl dX6_isOrUnder_26 ?_
    refine g_iload_n (pc := 29) C dX6_isOrUnder_29 1 rfl ?_
    refine g_aboveLd (pc := 30) (v := 0) C 1 rfl (by decide) (by decide) dX6_isOrUnder_30 ?_
    refine g_istore_n (pc := 31) (lv' := [(2, .int 0), (3, .int 0), (0, .int 1), (1, .int w)]) C dX6_isOrUnder_31 rfl (by decide) rfl ?_
    refine g_iinc (pc := 32) (v := 1) (lv' := [(3, .int 1), (2, .int 0), (0, .int 1), (1, .int w)]) C dX6_isOrUnder_32 1 rfl (nI_1 0) (by decide) rfl ?_
    refine g_goto (pc := 35) (tgt := 4) C dX6_isOrUnder_35 (by decide) ?_
    refine g_iload_n (pc := 4) C dX6_isOrUnder_4 0 rfl ?_
    refine g_above (pc := 5) C mf_X6_332 rfl dX6_isOrUnder_5 ?_
    refine g_aboveLen (pc := 8) C dX6_isOrUnder_8 ?_
    refine g_icmpN_ge (pc := 9) (i := 1) (j := 7) (tgt := 38) C dX6_isOrUnder_9 (by decide) ⟨by omega, by omega⟩ (fun h9 => absurd h9 (by decide)) (fun h9 => ?_)
    refine g_iload_n (pc := 12) C dX6_isOrUnder_12 1 rfl ?_
    refine g_rdSI (pc := 13) (val := bI (0 ≤ 0 ∧ 0 ≤ 6)) (rest := []) C k_X6_isKind (c_X6_isKind l G 0) ml_X6_103 rfl ⟨Nat.le_of_ble_eq_true rfl, Nat.le_of_ble_eq_true rfl⟩ rfl [] rfl rfl (Nat.le_of_ble_eq_true rfl) ⟨by decide, by decide⟩ dX6_isOrUnder_13 ?_
    refine g_ifb_eq (pc := 16) (tgt := 38) C dX6_isOrUnder_16 (by decide) (fun h16 => absurd h16 (by decide)) (fun h16 => ?_)
    refine g_iload_n (pc := 19) C dX6_isOrUnder_19 1 rfl ?_
    refine g_iload_n (pc := 20) C dX6_isOrUnder_20 3 rfl ?_
    refine g_icmp_ne (pc := 21) (tgt := 26) C dX6_isOrUnder_21 (by decide) (fun h21 => ?_) (fun h21 => ?_)
    · refine g_above (pc := 26) C mf_X6_332 rfl dX6_isOrUnder_26 ?_
      refine g_iload_n (pc := 29) C dX6_isOrUnder_29 1 rfl ?_
      refine g_aboveLd (pc := 30) (v := (-1)) C 0 rfl (by decide) (by decide) dX6_isOrUnder_30 ?_
      refine g_istore_n (pc := 31) (lv' := [(2, .int (-1)), (3, .int 1), (0, .int 1), (1, .int w)]) C dX6_isOrUnder_31 rfl (by decide) rfl ?_
      refine g_iinc (pc := 32) (v := 2) (lv' := [(3, .int 2), (2, .int (-1)), (0, .int 1), (1, .int w)]) C dX6_isOrUnder_32 1 rfl (nI_1 1) (by decide) rfl ?_
      refine g_goto (pc := 35) (tgt := 4) C dX6_isOrUnder_35 (by decide) ?_
      refine g_iload_n (pc := 4) C dX6_isOrUnder_4 0 rfl ?_
      refine g_above (pc := 5) C mf_X6_332 rfl dX6_isOrUnder_5 ?_
      refine g_aboveLen (pc := 8) C dX6_isOrUnder_8 ?_
      refine g_icmpN_ge (pc := 9) (i := 2) (j := 7) (tgt := 38) C dX6_isOrUnder_9 (by decide) ⟨by omega, by omega⟩ (fun h9 => absurd h9 (by decide)) (fun h9 => ?_)
      refine g_iload_n (pc := 12) C dX6_isOrUnder_12 1 rfl ?_
      refine g_rdSI (pc := 13) (val := bI (0 ≤ (-1) ∧ (-1) ≤ 6)) (rest := []) C k_X6_isKind (c_X6_isKind l G (-1)) ml_X6_103 rfl ⟨Nat.le_of_ble_eq_true rfl, Nat.le_of_ble_eq_true rfl⟩ rfl [] rfl rfl (Nat.le_of_ble_eq_true rfl) ⟨by decide, by decide⟩ dX6_isOrUnder_13 ?_
      refine g_ifb_eq (pc := 16) (tgt := 38) C dX6_isOrUnder_16 (by decide) (fun h16 => ?_) (fun h16 => absurd h16 (by decide))
      refine g_iconst (pc := 38) (v := 0) C dX6_isOrUnder_38 (by decide) ?_
      exact g_retIR (pc := 39) C (rfl) (by first | (refine (bI_t ?_).symm; simp_all [undr, nI]; done) | (refine (bI_f ?_).symm; rintro (q | q | q | q | q) <;> simp_all [nI]; done)) dX6_isOrUnder_39
    · refine g_iconst (pc := 24) (v := 1) C dX6_isOrUnder_24 (by decide) ?_
      exact g_retIR (pc := 25) C (rfl) (by first | (refine (bI_t ?_).symm; simp_all [undr, nI]; done) | (refine (bI_f ?_).symm; rintro (q | q | q | q | q) <;> simp_all [nI]; done)) dX6_isOrUnder_25
  · refine g_iconst (pc := 24) (v := 1) C dX6_isOrUnder_24 (by decide) ?_
    exact g_retIR (pc := 25) C (rfl) (by first | (refine (bI_t ?_).symm; simp_all [undr, nI]; done) | (refine (bI_f ?_).symm; rintro (q | q | q | q | q) <;> simp_all [nI]; done)) dX6_isOrUnder_25
set_option maxRecDepth 20000 in
set_option maxHeartbeats 4000000 in
theorem c_X6_isOrUnder_2 (l : Launch) (G : gT) (w : Int32) : RI l yX6_isOrUnder cX6_isOrUnder 4 (some .boolean) 2 G [.int 2, .int w] (([] : va_W)) (bI (undr 2 w)) := by
  refine start_R (by decide) (Nat.le_of_ble_eq_true rfl) (fun p9 e9 s9 m9 a9 b9 t9 c9 C => ?_)
  refine g_lv (lv' := [(0, .int 2), (1, .int w)]) rfl ?_
  refine g_iload_n (pc := 0) C dX6_isOrUnder_0 0 rfl ?_
  refine g_istore_n (pc := 1) (lv' := [(2, .int 2), (0, .int 2), (1, .int w)]) C dX6_isOrUnder_1 rfl (by decide) rfl ?_
  refine g_iconst (pc := 2) (v := 0) C dX6_isOrUnder_2 (by decide) ?_
  refine g_istore_n (pc := 3) (lv' := [(3, .int 0), (2, .int 2), (0, .int 2), (1, .int w)]) C dX6_isOrUnder_3 rfl (by decide) rfl ?_
  refine g_iload_n (pc := 4) C dX6_isOrUnder_4 0 rfl ?_
  refine g_above (pc := 5) C mf_X6_332 rfl dX6_isOrUnder_5 ?_
  refine g_aboveLen (pc := 8) C dX6_isOrUnder_8 ?_
  refine g_icmpN_ge (pc := 9) (i := 0) (j := 7) (tgt := 38) C dX6_isOrUnder_9 (by decide) ⟨by omega, by omega⟩ (fun h9 => absurd h9 (by decide)) (fun h9 => ?_)
  refine g_iload_n (pc := 12) C dX6_isOrUnder_12 1 rfl ?_
  refine g_rdSI (pc := 13) (val := bI (0 ≤ 2 ∧ 2 ≤ 6)) (rest := []) C k_X6_isKind (c_X6_isKind l G 2) ml_X6_103 rfl ⟨Nat.le_of_ble_eq_true rfl, Nat.le_of_ble_eq_true rfl⟩ rfl [] rfl rfl (Nat.le_of_ble_eq_true rfl) ⟨by decide, by decide⟩ dX6_isOrUnder_13 ?_
  refine g_ifb_eq (pc := 16) (tgt := 38) C dX6_isOrUnder_16 (by decide) (fun h16 => absurd h16 (by decide)) (fun h16 => ?_)
  refine g_iload_n (pc := 19) C dX6_isOrUnder_19 1 rfl ?_
  refine g_iload_n (pc := 20) C dX6_isOrUnder_20 3 rfl ?_
  refine g_icmp_ne (pc := 21) (tgt := 26) C dX6_isOrUnder_21 (by decide) (fun h21 => ?_) (fun h21 => ?_)
  · refine g_above (pc := 26) C mf_X6_332 rfl dX6_isOrUnder_26 ?_
    refine g_iload_n (pc := 29) C dX6_isOrUnder_29 1 rfl ?_
    refine g_aboveLd (pc := 30) (v := 0) C 2 rfl (by decide) (by decide) dX6_isOrUnder_30 ?_
    refine g_istore_n (pc := 31) (lv' := [(2, .int 0), (3, .int 0), (0, .int 2), (1, .int w)]) C dX6_isOrUnder_31 rfl (by decide) rfl ?_
    refine g_iinc (pc := 32) (v := 1) (lv' := [(3, .int 1), (2, .int 0), (0, .int 2), (1, .int w)]) C dX6_isOrUnder_32 1 rfl (nI_1 0) (by decide) rfl ?_
    refine g_goto (pc := 35) (tgt := 4) C dX6_isOrUnder_35 (by decide) ?_
    refine g_iload_n (pc := 4) C dX6_isOrUnder_4 0 rfl ?_
    refine g_above (pc := 5) C mf_X6_332 rfl dX6_isOrUnder_5 ?_
    refine g_aboveLen (pc := 8) C dX6_isOrUnder_8 ?_
    refine g_icmpN_ge (pc := 9) (i := 1) (j := 7) (tgt := 38) C dX6_isOrUnder_9 (by decide) ⟨by omega, by omega⟩ (fun h9 => absurd h9 (by decide)) (fun h9 => ?_)
    refine g_iload_n (pc := 12) C dX6_isOrUnder_12 1 rfl ?_
    refine g_rdSI (pc := 13) (val := bI (0 ≤ 0 ∧ 0 ≤ 6)) (rest := []) C k_X6_isKind (c_X6_isKind l G 0) ml_X6_103 rfl ⟨Nat.le_of_ble_eq_true rfl, Nat.le_of_ble_eq_true rfl⟩ rfl [] rfl rfl (Nat.le_of_ble_eq_true rfl) ⟨by decide, by decide⟩ dX6_isOrUnder_13 ?_
    refine g_ifb_eq (pc := 16) (tgt := 38) C dX6_isOrUnder_16 (by decide) (fun h16 => absurd h16 (by decide)) (fun h16 => ?_)
    refine g_iload_n (pc := 19) C dX6_isOrUnder_19 1 rfl ?_
    refine g_iload_n (pc := 20) C dX6_isOrUnder_20 3 rfl ?_
    refine g_icmp_ne (pc := 21) (tgt := 26) C dX6_isOrUnder_21 (by decide) (fun h21 => ?_) (fun h21 => ?_)
    · refine g_above (pc := 26) C mf_X6_332 rfl dX6_isOrUnder_26 ?_
      refine g_iload_n (pc := 29) C dX6_isOrUnder_29 1 rfl ?_
      refine g_aboveLd (pc := 30) (v := (-1)) C 0 rfl (by decide) (by decide) dX6_isOrUnder_30 ?_
      refine g_istore_n (pc := 31) (lv' := [(2, .int (-1)), (3, .int 1), (0, .int 2), (1, .int w)]) C dX6_isOrUnder_31 rfl (by decide) rfl ?_
      refine g_iinc (pc := 32) (v := 2) (lv' := [(3, .int 2), (2, .int (-1)), (0, .int 2), (1, .int w)]) C dX6_isOrUnder_32 1 rfl (nI_1 1) (by decide) rfl ?_
      refine g_goto (pc := 35) (tgt := 4) C dX6_isOrUnder_35 (by decide) ?_
      refine g_iload_n (pc := 4) C dX6_isOrUnder_4 0 rfl ?_
      refine g_above (pc := 5) C mf_X6_332 rfl dX6_isOrUnder_5 ?_
      refine g_aboveLen (pc := 8) C dX6_isOrUnder_8 ?_
      refine g_icmpN_ge (pc := 9) (i := 2) (j := 7) (tgt := 38) C dX6_isOrUnder_9 (by decide) ⟨by omega, by omega⟩ (fun h9 => absurd h9 (by decide)) (fun h9 => ?_)
      refine g_iload_n (pc := 12) C dX6_isOrUnder_12 1 rfl ?_
      refine g_rdSI (pc := 13) (val := bI (0 ≤ (-1) ∧ (-1) ≤ 6)) (rest := []) C k_X6_isKind (c_X6_isKind l G (-1)) ml_X6_103 rfl ⟨Nat.le_of_ble_eq_true rfl, Nat.le_of_ble_eq_true rfl⟩ rfl [] rfl rfl (Nat.le_of_ble_eq_true rfl) ⟨by decide, by decide⟩ dX6_isOrUnder_13 ?_
      refine g_ifb_eq (pc := 16) (tgt := 38) C dX6_isOrUnder_16 (by decide) (fun h16 => ?_) (fun h16 => absurd h16 (by decide))
      refine g_iconst (pc := 38) (v := 0) C dX6_isOrUnder_38 (by decide) ?_
      exact g_retIR (pc := 39) C (rfl) (by first | (refine (bI_t ?_).symm; simp_all [undr, nI]; done) | (refine (bI_f ?_).symm; rintro (q | q | q | q | q) <;> simp_all [nI]; done)) dX6_isOrUnder_39
    · refine g_iconst (pc := 24) (v := 1) C dX6_isOrUnder_24 (by decide) ?_
      exact g_retIR (pc := 25) C (rfl) (by first | (refine (bI_t ?_).symm; simp_all [undr, nI]; done) | (refine (bI_f ?_).symm; rintro (q | q | q | q | q) <;> simp_all [nI]; done)) dX6_isOrUnder_25
  · refine g_iconst (pc := 24) (v := 1) C dX6_isOrUnder_24 (by decide) ?_
    exact g_retIR (pc := 25) C (rfl) (by first | (refine (bI_t ?_).symm; simp_all [undr, nI]; done) | (refine (bI_f ?_).symm; rintro (q | q | q | q | q) <;> simp_all [nI]; done)) dX6_isOrUnder_25
set_option maxRecDepth 20000 in
set_option maxHeartbeats 4000000 in
theorem c_X6_isOrUnder_3 (l : Launch) (G : gT) (w : Int32) : RI l yX6_isOrUnder cX6_isOrUnder 4 (some .boolean) 2 G [.int 3, .int w] (([] : va_W)) (bI (undr 3 w)) := by
  refine start_R (by decide) (Nat.le_of_ble_eq_true rfl) (fun p9 e9 s9 m9 a9 b9 t9 c9 C => ?_)
  refine g_lv (lv' := [(0, .int 3), (1, .int w)]) rfl ?_
  refine g_iload_n (pc := 0) C dX6_isOrUnder_0 0 rfl ?_
  refine g_istore_n (pc := 1) (lv' := [(2, .int 3), (0, .int 3), (1, .int w)]) C dX6_isOrUnder_1 rfl (by decide) rfl ?_
  refine g_iconst (pc := 2) (v := 0) C dX6_isOrUnder_2 (by decide) ?_
  refine g_istore_n (pc := 3) (lv' := [(3, .int 0), (2, .int 3), (0, .int 3), (1, .int w)]) C dX6_isOrUnder_3 rfl (by decide) rfl ?_
  refine g_iload_n (pc := 4) C dX6_isOrUnder_4 0 rfl ?_
  refine g_above (pc := 5) C mf_X6_332 rfl dX6_isOrUnder_5 ?_
  refine g_aboveLen (pc := 8) C dX6_isOrUnder_8 ?_
  refine g_icmpN_ge (pc := 9) (i := 0) (j := 7) (tgt := 38) C dX6_isOrUnder_9 (by decide) ⟨by omega, by omega⟩ (fun h9 => absurd h9 (by decide)) (fun h9 => ?_)
  refine g_iload_n (pc := 12) C dX6_isOrUnder_12 1 rfl ?_
  refine g_rdSI (pc := 13) (val := bI (0 ≤ 3 ∧ 3 ≤ 6)) (rest := []) C k_X6_isKind (c_X6_isKind l G 3) ml_X6_103 rfl ⟨Nat.le_of_ble_eq_true rfl, Nat.le_of_ble_eq_true rfl⟩ rfl [] rfl rfl (Nat.le_of_ble_eq_true rfl) ⟨by decide, by decide⟩ dX6_isOrUnder_13 ?_
  refine g_ifb_eq (pc := 16) (tgt := 38) C dX6_isOrUnder_16 (by decide) (fun h16 => absurd h16 (by decide)) (fun h16 => ?_)
  refine g_iload_n (pc := 19) C dX6_isOrUnder_19 1 rfl ?_
  refine g_iload_n (pc := 20) C dX6_isOrUnder_20 3 rfl ?_
  refine g_icmp_ne (pc := 21) (tgt := 26) C dX6_isOrUnder_21 (by decide) (fun h21 => ?_) (fun h21 => ?_)
  · refine g_above (pc := 26) C mf_X6_332 rfl dX6_isOrUnder_26 ?_
    refine g_iload_n (pc := 29) C dX6_isOrUnder_29 1 rfl ?_
    refine g_aboveLd (pc := 30) (v := 1) C 3 rfl (by decide) (by decide) dX6_isOrUnder_30 ?_
    refine g_istore_n (pc := 31) (lv' := [(2, .int 1), (3, .int 0), (0, .int 3), (1, .int w)]) C dX6_isOrUnder_31 rfl (by decide) rfl ?_
    refine g_iinc (pc := 32) (v := 1) (lv' := [(3, .int 1), (2, .int 1), (0, .int 3), (1, .int w)]) C dX6_isOrUnder_32 1 rfl (nI_1 0) (by decide) rfl ?_
    refine g_goto (pc := 35) (tgt := 4) C dX6_isOrUnder_35 (by decide) ?_
    refine g_iload_n (pc := 4) C dX6_isOrUnder_4 0 rfl ?_
    refine g_above (pc := 5) C mf_X6_332 rfl dX6_isOrUnder_5 ?_
    refine g_aboveLen (pc := 8) C dX6_isOrUnder_8 ?_
    refine g_icmpN_ge (pc := 9) (i := 1) (j := 7) (tgt := 38) C dX6_isOrUnder_9 (by decide) ⟨by omega, by omega⟩ (fun h9 => absurd h9 (by decide)) (fun h9 => ?_)
    refine g_iload_n (pc := 12) C dX6_isOrUnder_12 1 rfl ?_
    refine g_rdSI (pc := 13) (val := bI (0 ≤ 1 ∧ 1 ≤ 6)) (rest := []) C k_X6_isKind (c_X6_isKind l G 1) ml_X6_103 rfl ⟨Nat.le_of_ble_eq_true rfl, Nat.le_of_ble_eq_true rfl⟩ rfl [] rfl rfl (Nat.le_of_ble_eq_true rfl) ⟨by decide, by decide⟩ dX6_isOrUnder_13 ?_
    refine g_ifb_eq (pc := 16) (tgt := 38) C dX6_isOrUnder_16 (by decide) (fun h16 => absurd h16 (by decide)) (fun h16 => ?_)
    refine g_iload_n (pc := 19) C dX6_isOrUnder_19 1 rfl ?_
    refine g_iload_n (pc := 20) C dX6_isOrUnder_20 3 rfl ?_
    refine g_icmp_ne (pc := 21) (tgt := 26) C dX6_isOrUnder_21 (by decide) (fun h21 => ?_) (fun h21 => ?_)
    · refine g_above (pc := 26) C mf_X6_332 rfl dX6_isOrUnder_26 ?_
      refine g_iload_n (pc := 29) C dX6_isOrUnder_29 1 rfl ?_
      refine g_aboveLd (pc := 30) (v := 0) C 1 rfl (by decide) (by decide) dX6_isOrUnder_30 ?_
      refine g_istore_n (pc := 31) (lv' := [(2, .int 0), (3, .int 1), (0, .int 3), (1, .int w)]) C dX6_isOrUnder_31 rfl (by decide) rfl ?_
      refine g_iinc (pc := 32) (v := 2) (lv' := [(3, .int 2), (2, .int 0), (0, .int 3), (1, .int w)]) C dX6_isOrUnder_32 1 rfl (nI_1 1) (by decide) rfl ?_
      refine g_goto (pc := 35) (tgt := 4) C dX6_isOrUnder_35 (by decide) ?_
      refine g_iload_n (pc := 4) C dX6_isOrUnder_4 0 rfl ?_
      refine g_above (pc := 5) C mf_X6_332 rfl dX6_isOrUnder_5 ?_
      refine g_aboveLen (pc := 8) C dX6_isOrUnder_8 ?_
      refine g_icmpN_ge (pc := 9) (i := 2) (j := 7) (tgt := 38) C dX6_isOrUnder_9 (by decide) ⟨by omega, by omega⟩ (fun h9 => absurd h9 (by decide)) (fun h9 => ?_)
      refine g_iload_n (pc := 12) C dX6_isOrUnder_12 1 rfl ?_
      refine g_rdSI (pc := 13) (val := bI (0 ≤ 0 ∧ 0 ≤ 6)) (rest := []) C k_X6_isKind (c_X6_isKind l G 0) ml_X6_103 rfl ⟨Nat.le_of_ble_eq_true rfl, Nat.le_of_ble_eq_true rfl⟩ rfl [] rfl rfl (Nat.le_of_ble_eq_true rfl) ⟨by decide, by decide⟩ dX6_isOrUnder_13 ?_
      refine g_ifb_eq (pc := 16) (tgt := 38) C dX6_isOrUnder_16 (by decide) (fun h16 => absurd h16 (by decide)) (fun h16 => ?_)
      refine g_iload_n (pc := 19) C dX6_isOrUnder_19 1 rfl ?_
      refine g_iload_n (pc := 20) C dX6_isOrUnder_20 3 rfl ?_
      refine g_icmp_ne (pc := 21) (tgt := 26) C dX6_isOrUnder_21 (by decide) (fun h21 => ?_) (fun h21 => ?_)
      · refine g_above (pc := 26) C mf_X6_332 rfl dX6_isOrUnder_26 ?_
        refine g_iload_n (pc := 29) C dX6_isOrUnder_29 1 rfl ?_
        refine g_aboveLd (pc := 30) (v := (-1)) C 0 rfl (by decide) (by decide) dX6_isOrUnder_30 ?_
        refine g_istore_n (pc := 31) (lv' := [(2, .int (-1)), (3, .int 2), (0, .int 3), (1, .int w)]) C dX6_isOrUnder_31 rfl (by decide) rfl ?_
        refine g_iinc (pc := 32) (v := 3) (lv' := [(3, .int 3), (2, .int (-1)), (0, .int 3), (1, .int w)]) C dX6_isOrUnder_32 1 rfl (nI_1 2) (by decide) rfl ?_
        refine g_goto (pc := 35) (tgt := 4) C dX6_isOrUnder_35 (by decide) ?_
        refine g_iload_n (pc := 4) C dX6_isOrUnder_4 0 rfl ?_
        refine g_above (pc := 5) C mf_X6_332 rfl dX6_isOrUnder_5 ?_
        refine g_aboveLen (pc := 8) C dX6_isOrUnder_8 ?_
        refine g_icmpN_ge (pc := 9) (i := 3) (j := 7) (tgt := 38) C dX6_isOrUnder_9 (by decide) ⟨by omega, by omega⟩ (fun h9 => absurd h9 (by decide)) (fun h9 => ?_)
        refine g_iload_n (pc := 12) C dX6_isOrUnder_12 1 rfl ?_
        refine g_rdSI (pc := 13) (val := bI (0 ≤ (-1) ∧ (-1) ≤ 6)) (rest := []) C k_X6_isKind (c_X6_isKind l G (-1)) ml_X6_103 rfl ⟨Nat.le_of_ble_eq_true rfl, Nat.le_of_ble_eq_true rfl⟩ rfl [] rfl rfl (Nat.le_of_ble_eq_true rfl) ⟨by decide, by decide⟩ dX6_isOrUnder_13 ?_
        refine g_ifb_eq (pc := 16) (tgt := 38) C dX6_isOrUnder_16 (by decide) (fun h16 => ?_) (fun h16 => absurd h16 (by decide))
        refine g_iconst (pc := 38) (v := 0) C dX6_isOrUnder_38 (by decide) ?_
        exact g_retIR (pc := 39) C (rfl) (by first | (refine (bI_t ?_).symm; simp_all [undr, nI]; done) | (refine (bI_f ?_).symm; rintro (q | q | q | q | q) <;> simp_all [nI]; done)) dX6_isOrUnder_39
      · refine g_iconst (pc := 24) (v := 1) C dX6_isOrUnder_24 (by decide) ?_
        exact g_retIR (pc := 25) C (rfl) (by first | (refine (bI_t ?_).symm; simp_all [undr, nI]; done) | (refine (bI_f ?_).symm; rintro (q | q | q | q | q) <;> simp_all [nI]; done)) dX6_isOrUnder_25
    · refine g_iconst (pc := 24) (v := 1) C dX6_isOrUnder_24 (by decide) ?_
      exact g_retIR (pc := 25) C (rfl) (by first | (refine (bI_t ?_).symm; simp_all [undr, nI]; done) | (refine (bI_f ?_).symm; rintro (q | q | q | q | q) <;> simp_all [nI]; done)) dX6_isOrUnder_25
  · refine g_iconst (pc := 24) (v := 1) C dX6_isOrUnder_24 (by decide) ?_
    exact g_retIR (pc := 25) C (rfl) (by first | (refine (bI_t ?_).symm; simp_all [undr, nI]; done) | (refine (bI_f ?_).symm; rintro (q | q | q | q | q) <;> simp_all [nI]; done)) dX6_isOrUnder_25
set_option maxRecDepth 20000 in
set_option maxHeartbeats 4000000 in
theorem c_X6_isOrUnder_4 (l : Launch) (G : gT) (w : Int32) : RI l yX6_isOrUnder cX6_isOrUnder 4 (some .boolean) 2 G [.int 4, .int w] (([] : va_W)) (bI (undr 4 w)) := by
  refine start_R (by decide) (Nat.le_of_ble_eq_true rfl) (fun p9 e9 s9 m9 a9 b9 t9 c9 C => ?_)
  refine g_lv (lv' := [(0, .int 4), (1, .int w)]) rfl ?_
  refine g_iload_n (pc := 0) C dX6_isOrUnder_0 0 rfl ?_
  refine g_istore_n (pc := 1) (lv' := [(2, .int 4), (0, .int 4), (1, .int w)]) C dX6_isOrUnder_1 rfl (by decide) rfl ?_
  refine g_iconst (pc := 2) (v := 0) C dX6_isOrUnder_2 (by decide) ?_
  refine g_istore_n (pc := 3) (lv' := [(3, .int 0), (2, .int 4), (0, .int 4), (1, .int w)]) C dX6_isOrUnder_3 rfl (by decide) rfl ?_
  refine g_iload_n (pc := 4) C dX6_isOrUnder_4 0 rfl ?_
  refine g_above (pc := 5) C mf_X6_332 rfl dX6_isOrUnder_5 ?_
  refine g_aboveLen (pc := 8) C dX6_isOrUnder_8 ?_
  refine g_icmpN_ge (pc := 9) (i := 0) (j := 7) (tgt := 38) C dX6_isOrUnder_9 (by decide) ⟨by omega, by omega⟩ (fun h9 => absurd h9 (by decide)) (fun h9 => ?_)
  refine g_iload_n (pc := 12) C dX6_isOrUnder_12 1 rfl ?_
  refine g_rdSI (pc := 13) (val := bI (0 ≤ 4 ∧ 4 ≤ 6)) (rest := []) C k_X6_isKind (c_X6_isKind l G 4) ml_X6_103 rfl ⟨Nat.le_of_ble_eq_true rfl, Nat.le_of_ble_eq_true rfl⟩ rfl [] rfl rfl (Nat.le_of_ble_eq_true rfl) ⟨by decide, by decide⟩ dX6_isOrUnder_13 ?_
  refine g_ifb_eq (pc := 16) (tgt := 38) C dX6_isOrUnder_16 (by decide) (fun h16 => absurd h16 (by decide)) (fun h16 => ?_)
  refine g_iload_n (pc := 19) C dX6_isOrUnder_19 1 rfl ?_
  refine g_iload_n (pc := 20) C dX6_isOrUnder_20 3 rfl ?_
  refine g_icmp_ne (pc := 21) (tgt := 26) C dX6_isOrUnder_21 (by decide) (fun h21 => ?_) (fun h21 => ?_)
  · refine g_above (pc := 26) C mf_X6_332 rfl dX6_isOrUnder_26 ?_
    refine g_iload_n (pc := 29) C dX6_isOrUnder_29 1 rfl ?_
    refine g_aboveLd (pc := 30) (v := 0) C 4 rfl (by decide) (by decide) dX6_isOrUnder_30 ?_
    refine g_istore_n (pc := 31) (lv' := [(2, .int 0), (3, .int 0), (0, .int 4), (1, .int w)]) C dX6_isOrUnder_31 rfl (by decide) rfl ?_
    refine g_iinc (pc := 32) (v := 1) (lv' := [(3, .int 1), (2, .int 0), (0, .int 4), (1, .int w)]) C dX6_isOrUnder_32 1 rfl (nI_1 0) (by decide) rfl ?_
    refine g_goto (pc := 35) (tgt := 4) C dX6_isOrUnder_35 (by decide) ?_
    refine g_iload_n (pc := 4) C dX6_isOrUnder_4 0 rfl ?_
    refine g_above (pc := 5) C mf_X6_332 rfl dX6_isOrUnder_5 ?_
    refine g_aboveLen (pc := 8) C dX6_isOrUnder_8 ?_
    refine g_icmpN_ge (pc := 9) (i := 1) (j := 7) (tgt := 38) C dX6_isOrUnder_9 (by decide) ⟨by omega, by omega⟩ (fun h9 => absurd h9 (by decide)) (fun h9 => ?_)
    refine g_iload_n (pc := 12) C dX6_isOrUnder_12 1 rfl ?_
    refine g_rdSI (pc := 13) (val := bI (0 ≤ 0 ∧ 0 ≤ 6)) (rest := []) C k_X6_isKind (c_X6_isKind l G 0) ml_X6_103 rfl ⟨Nat.le_of_ble_eq_true rfl, Nat.le_of_ble_eq_true rfl⟩ rfl [] rfl rfl (Nat.le_of_ble_eq_true rfl) ⟨by decide, by decide⟩ dX6_isOrUnder_13 ?_
    refine g_ifb_eq (pc := 16) (tgt := 38) C dX6_isOrUnder_16 (by decide) (fun h16 => absurd h16 (by decide)) (fun h16 => ?_)
    refine g_iload_n (pc := 19) C dX6_isOrUnder_19 1 rfl ?_
    refine g_iload_n (pc := 20) C dX6_isOrUnder_20 3 rfl ?_
    refine g_icmp_ne (pc := 21) (tgt := 26) C dX6_isOrUnder_21 (by decide) (fun h21 => ?_) (fun h21 => ?_)
    · refine g_above (pc := 26) C mf_X6_332 rfl dX6_isOrUnder_26 ?_
      refine g_iload_n (pc := 29) C dX6_isOrUnder_29 1 rfl ?_
      refine g_aboveLd (pc := 30) (v := (-1)) C 0 rfl (by decide) (by decide) dX6_isOrUnder_30 ?_
      refine g_istore_n (pc := 31) (lv' := [(2, .int (-1)), (3, .int 1), (0, .int 4), (1, .int w)]) C dX6_isOrUnder_31 rfl (by decide) rfl ?_
      refine g_iinc (pc := 32) (v := 2) (lv' := [(3, .int 2), (2, .int (-1)), (0, .int 4), (1, .int w)]) C dX6_isOrUnder_32 1 rfl (nI_1 1) (by decide) rfl ?_
      refine g_goto (pc := 35) (tgt := 4) C dX6_isOrUnder_35 (by decide) ?_
      refine g_iload_n (pc := 4) C dX6_isOrUnder_4 0 rfl ?_
      refine g_above (pc := 5) C mf_X6_332 rfl dX6_isOrUnder_5 ?_
      refine g_aboveLen (pc := 8) C dX6_isOrUnder_8 ?_
      refine g_icmpN_ge (pc := 9) (i := 2) (j := 7) (tgt := 38) C dX6_isOrUnder_9 (by decide) ⟨by omega, by omega⟩ (fun h9 => absurd h9 (by decide)) (fun h9 => ?_)
      refine g_iload_n (pc := 12) C dX6_isOrUnder_12 1 rfl ?_
      refine g_rdSI (pc := 13) (val := bI (0 ≤ (-1) ∧ (-1) ≤ 6)) (rest := []) C k_X6_isKind (c_X6_isKind l G (-1)) ml_X6_103 rfl ⟨Nat.le_of_ble_eq_true rfl, Nat.le_of_ble_eq_true rfl⟩ rfl [] rfl rfl (Nat.le_of_ble_eq_true rfl) ⟨by decide, by decide⟩ dX6_isOrUnder_13 ?_
      refine g_ifb_eq (pc := 16) (tgt := 38) C dX6_isOrUnder_16 (by decide) (fun h16 => ?_) (fun h16 => absurd h16 (by decide))
      refine g_iconst (pc := 38) (v := 0) C dX6_isOrUnder_38 (by decide) ?_
      exact g_retIR (pc := 39) C (rfl) (by first | (refine (bI_t ?_).symm; simp_all [undr, nI]; done) | (refine (bI_f ?_).symm; rintro (q | q | q | q | q) <;> simp_all [nI]; done)) dX6_isOrUnder_39
    · refine g_iconst (pc := 24) (v := 1) C dX6_isOrUnder_24 (by decide) ?_
      exact g_retIR (pc := 25) C (rfl) (by first | (refine (bI_t ?_).symm; simp_all [undr, nI]; done) | (refine (bI_f ?_).symm; rintro (q | q | q | q | q) <;> simp_all [nI]; done)) dX6_isOrUnder_25
  · refine g_iconst (pc := 24) (v := 1) C dX6_isOrUnder_24 (by decide) ?_
    exact g_retIR (pc := 25) C (rfl) (by first | (refine (bI_t ?_).symm; simp_all [undr, nI]; done) | (refine (bI_f ?_).symm; rintro (q | q | q | q | q) <;> simp_all [nI]; done)) dX6_isOrUnder_25
set_option maxRecDepth 20000 in
set_option maxHeartbeats 4000000 in
theorem c_X6_isOrUnder_5 (l : Launch) (G : gT) (w : Int32) : RI l yX6_isOrUnder cX6_isOrUnder 4 (some .boolean) 2 G [.int 5, .int w] (([] : va_W)) (bI (undr 5 w)) := by
  refine start_R (by decide) (Nat.le_of_ble_eq_true rfl) (fun p9 e9 s9 m9 a9 b9 t9 c9 C => ?_)
  refine g_lv (lv' := [(0, .int 5), (1, .int w)]) rfl ?_
  refine g_iload_n (pc := 0) C dX6_isOrUnder_0 0 rfl ?_
  refine g_istore_n (pc := 1) (lv' := [(2, .int 5), (0, .int 5), (1, .int w)]) C dX6_isOrUnder_1 rfl (by decide) rfl ?_
  refine g_iconst (pc := 2) (v := 0) C dX6_isOrUnder_2 (by decide) ?_
  refine g_istore_n (pc := 3) (lv' := [(3, .int 0), (2, .int 5), (0, .int 5), (1, .int w)]) C dX6_isOrUnder_3 rfl (by decide) rfl ?_
  refine g_iload_n (pc := 4) C dX6_isOrUnder_4 0 rfl ?_
  refine g_above (pc := 5) C mf_X6_332 rfl dX6_isOrUnder_5 ?_
  refine g_aboveLen (pc := 8) C dX6_isOrUnder_8 ?_
  refine g_icmpN_ge (pc := 9) (i := 0) (j := 7) (tgt := 38) C dX6_isOrUnder_9 (by decide) ⟨by omega, by omega⟩ (fun h9 => absurd h9 (by decide)) (fun h9 => ?_)
  refine g_iload_n (pc := 12) C dX6_isOrUnder_12 1 rfl ?_
  refine g_rdSI (pc := 13) (val := bI (0 ≤ 5 ∧ 5 ≤ 6)) (rest := []) C k_X6_isKind (c_X6_isKind l G 5) ml_X6_103 rfl ⟨Nat.le_of_ble_eq_true rfl, Nat.le_of_ble_eq_true rfl⟩ rfl [] rfl rfl (Nat.le_of_ble_eq_true rfl) ⟨by decide, by decide⟩ dX6_isOrUnder_13 ?_
  refine g_ifb_eq (pc := 16) (tgt := 38) C dX6_isOrUnder_16 (by decide) (fun h16 => absurd h16 (by decide)) (fun h16 => ?_)
  refine g_iload_n (pc := 19) C dX6_isOrUnder_19 1 rfl ?_
  refine g_iload_n (pc := 20) C dX6_isOrUnder_20 3 rfl ?_
  refine g_icmp_ne (pc := 21) (tgt := 26) C dX6_isOrUnder_21 (by decide) (fun h21 => ?_) (fun h21 => ?_)
  · refine g_above (pc := 26) C mf_X6_332 rfl dX6_isOrUnder_26 ?_
    refine g_iload_n (pc := 29) C dX6_isOrUnder_29 1 rfl ?_
    refine g_aboveLd (pc := 30) (v := 2) C 5 rfl (by decide) (by decide) dX6_isOrUnder_30 ?_
    refine g_istore_n (pc := 31) (lv' := [(2, .int 2), (3, .int 0), (0, .int 5), (1, .int w)]) C dX6_isOrUnder_31 rfl (by decide) rfl ?_
    refine g_iinc (pc := 32) (v := 1) (lv' := [(3, .int 1), (2, .int 2), (0, .int 5), (1, .int w)]) C dX6_isOrUnder_32 1 rfl (nI_1 0) (by decide) rfl ?_
    refine g_goto (pc := 35) (tgt := 4) C dX6_isOrUnder_35 (by decide) ?_
    refine g_iload_n (pc := 4) C dX6_isOrUnder_4 0 rfl ?_
    refine g_above (pc := 5) C mf_X6_332 rfl dX6_isOrUnder_5 ?_
    refine g_aboveLen (pc := 8) C dX6_isOrUnder_8 ?_
    refine g_icmpN_ge (pc := 9) (i := 1) (j := 7) (tgt := 38) C dX6_isOrUnder_9 (by decide) ⟨by omega, by omega⟩ (fun h9 => absurd h9 (by decide)) (fun h9 => ?_)
    refine g_iload_n (pc := 12) C dX6_isOrUnder_12 1 rfl ?_
    refine g_rdSI (pc := 13) (val := bI (0 ≤ 2 ∧ 2 ≤ 6)) (rest := []) C k_X6_isKind (c_X6_isKind l G 2) ml_X6_103 rfl ⟨Nat.le_of_ble_eq_true rfl, Nat.le_of_ble_eq_true rfl⟩ rfl [] rfl rfl (Nat.le_of_ble_eq_true rfl) ⟨by decide, by decide⟩ dX6_isOrUnder_13 ?_
    refine g_ifb_eq (pc := 16) (tgt := 38) C dX6_isOrUnder_16 (by decide) (fun h16 => absurd h16 (by decide)) (fun h16 => ?_)
    refine g_iload_n (pc := 19) C dX6_isOrUnder_19 1 rfl ?_
    refine g_iload_n (pc := 20) C dX6_isOrUnder_20 3 rfl ?_
    refine g_icmp_ne (pc := 21) (tgt := 26) C dX6_isOrUnder_21 (by decide) (fun h21 => ?_) (fun h21 => ?_)
    · refine g_above (pc := 26) C mf_X6_332 rfl dX6_isOrUnder_26 ?_
      refine g_iload_n (pc := 29) C dX6_isOrUnder_29 1 rfl ?_
      refine g_aboveLd (pc := 30) (v := 0) C 2 rfl (by decide) (by decide) dX6_isOrUnder_30 ?_
      refine g_istore_n (pc := 31) (lv' := [(2, .int 0), (3, .int 1), (0, .int 5), (1, .int w)]) C dX6_isOrUnder_31 rfl (by decide) rfl ?_
      refine g_iinc (pc := 32) (v := 2) (lv' := [(3, .int 2), (2, .int 0), (0, .int 5), (1, .int w)]) C dX6_isOrUnder_32 1 rfl (nI_1 1) (by decide) rfl ?_
      refine g_goto (pc := 35) (tgt := 4) C dX6_isOrUnder_35 (by decide) ?_
      refine g_iload_n (pc := 4) C dX6_isOrUnder_4 0 rfl ?_
      refine g_above (pc := 5) C mf_X6_332 rfl dX6_isOrUnder_5 ?_
      refine g_aboveLen (pc := 8) C dX6_isOrUnder_8 ?_
      refine g_icmpN_ge (pc := 9) (i := 2) (j := 7) (tgt := 38) C dX6_isOrUnder_9 (by decide) ⟨by omega, by omega⟩ (fun h9 => absurd h9 (by decide)) (fun h9 => ?_)
      refine g_iload_n (pc := 12) C dX6_isOrUnder_12 1 rfl ?_
      refine g_rdSI (pc := 13) (val := bI (0 ≤ 0 ∧ 0 ≤ 6)) (rest := []) C k_X6_isKind (c_X6_isKind l G 0) ml_X6_103 rfl ⟨Nat.le_of_ble_eq_true rfl, Nat.le_of_ble_eq_true rfl⟩ rfl [] rfl rfl (Nat.le_of_ble_eq_true rfl) ⟨by decide, by decide⟩ dX6_isOrUnder_13 ?_
      refine g_ifb_eq (pc := 16) (tgt := 38) C dX6_isOrUnder_16 (by decide) (fun h16 => absurd h16 (by decide)) (fun h16 => ?_)
      refine g_iload_n (pc := 19) C dX6_isOrUnder_19 1 rfl ?_
      refine g_iload_n (pc := 20) C dX6_isOrUnder_20 3 rfl ?_
      refine g_icmp_ne (pc := 21) (tgt := 26) C dX6_isOrUnder_21 (by decide) (fun h21 => ?_) (fun h21 => ?_)
      · refine g_above (pc := 26) C mf_X6_332 rfl dX6_isOrUnder_26 ?_
        refine g_iload_n (pc := 29) C dX6_isOrUnder_29 1 rfl ?_
        refine g_aboveLd (pc := 30) (v := (-1)) C 0 rfl (by decide) (by decide) dX6_isOrUnder_30 ?_
        refine g_istore_n (pc := 31) (lv' := [(2, .int (-1)), (3, .int 2), (0, .int 5), (1, .int w)]) C dX6_isOrUnder_31 rfl (by decide) rfl ?_
        refine g_iinc (pc := 32) (v := 3) (lv' := [(3, .int 3), (2, .int (-1)), (0, .int 5), (1, .int w)]) C dX6_isOrUnder_32 1 rfl (nI_1 2) (by decide) rfl ?_
        refine g_goto (pc := 35) (tgt := 4) C dX6_isOrUnder_35 (by decide) ?_
        refine g_iload_n (pc := 4) C dX6_isOrUnder_4 0 rfl ?_
        refine g_above (pc := 5) C mf_X6_332 rfl dX6_isOrUnder_5 ?_
        refine g_aboveLen (pc := 8) C dX6_isOrUnder_8 ?_
        refine g_icmpN_ge (pc := 9) (i := 3) (j := 7) (tgt := 38) C dX6_isOrUnder_9 (by decide) ⟨by omega, by omega⟩ (fun h9 => absurd h9 (by decide)) (fun h9 => ?_)
        refine g_iload_n (pc := 12) C dX6_isOrUnder_12 1 rfl ?_
        refine g_rdSI (pc := 13) (val := bI (0 ≤ (-1) ∧ (-1) ≤ 6)) (rest := []) C k_X6_isKind (c_X6_isKind l G (-1)) ml_X6_103 rfl ⟨Nat.le_of_ble_eq_true rfl, Nat.le_of_ble_eq_true rfl⟩ rfl [] rfl rfl (Nat.le_of_ble_eq_true rfl) ⟨by decide, by decide⟩ dX6_isOrUnder_13 ?_
        refine g_ifb_eq (pc := 16) (tgt := 38) C dX6_isOrUnder_16 (by decide) (fun h16 => ?_) (fun h16 => absurd h16 (by decide))
        refine g_iconst (pc := 38) (v := 0) C dX6_isOrUnder_38 (by decide) ?_
        exact g_retIR (pc := 39) C (rfl) (by first | (refine (bI_t ?_).symm; simp_all [undr, nI]; done) | (refine (bI_f ?_).symm; rintro (q | q | q | q | q) <;> simp_all [nI]; done)) dX6_isOrUnder_39
      · refine g_iconst (pc := 24) (v := 1) C dX6_isOrUnder_24 (by decide) ?_
        exact g_retIR (pc := 25) C (rfl) (by first | (refine (bI_t ?_).symm; simp_all [undr, nI]; done) | (refine (bI_f ?_).symm; rintro (q | q | q | q | q) <;> simp_all [nI]; done)) dX6_isOrUnder_25
    · refine g_iconst (pc := 24) (v := 1) C dX6_isOrUnder_24 (by decide) ?_
      exact g_retIR (pc := 25) C (rfl) (by first | (refine (bI_t ?_).symm; simp_all [undr, nI]; done) | (refine (bI_f ?_).symm; rintro (q | q | q | q | q) <;> simp_all [nI]; done)) dX6_isOrUnder_25
  · refine g_iconst (pc := 24) (v := 1) C dX6_isOrUnder_24 (by decide) ?_
    exact g_retIR (pc := 25) C (rfl) (by first | (refine (bI_t ?_).symm; simp_all [undr, nI]; done) | (refine (bI_f ?_).symm; rintro (q | q | q | q | q) <;> simp_all [nI]; done)) dX6_isOrUnder_25
set_option maxRecDepth 20000 in
set_option maxHeartbeats 4000000 in
theorem c_X6_isOrUnder_6 (l : Launch) (G : gT) (w : Int32) : RI l yX6_isOrUnder cX6_isOrUnder 4 (some .boolean) 2 G [.int 6, .int w] (([] : va_W)) (bI (undr 6 w)) := by
  refine start_R (by decide) (Nat.le_of_ble_eq_true rfl) (fun p9 e9 s9 m9 a9 b9 t9 c9 C => ?_)
  refine g_lv (lv' := [(0, .int 6), (1, .int w)]) rfl ?_
  refine g_iload_n (pc := 0) C dX6_isOrUnder_0 0 rfl ?_
  refine g_istore_n (pc := 1) (lv' := [(2, .int 6), (0, .int 6), (1, .int w)]) C dX6_isOrUnder_1 rfl (by decide) rfl ?_
  refine g_iconst (pc := 2) (v := 0) C dX6_isOrUnder_2 (by decide) ?_
  refine g_istore_n (pc := 3) (lv' := [(3, .int 0), (2, .int 6), (0, .int 6), (1, .int w)]) C dX6_isOrUnder_3 rfl (by decide) rfl ?_
  refine g_iload_n (pc := 4) C dX6_isOrUnder_4 0 rfl ?_
  refine g_above (pc := 5) C mf_X6_332 rfl dX6_isOrUnder_5 ?_
  refine g_aboveLen (pc := 8) C dX6_isOrUnder_8 ?_
  refine g_icmpN_ge (pc := 9) (i := 0) (j := 7) (tgt := 38) C dX6_isOrUnder_9 (by decide) ⟨by omega, by omega⟩ (fun h9 => absurd h9 (by decide)) (fun h9 => ?_)
  refine g_iload_n (pc := 12) C dX6_isOrUnder_12 1 rfl ?_
  refine g_rdSI (pc := 13) (val := bI (0 ≤ 6 ∧ 6 ≤ 6)) (rest := []) C k_X6_isKind (c_X6_isKind l G 6) ml_X6_103 rfl ⟨Nat.le_of_ble_eq_true rfl, Nat.le_of_ble_eq_true rfl⟩ rfl [] rfl rfl (Nat.le_of_ble_eq_true rfl) ⟨by decide, by decide⟩ dX6_isOrUnder_13 ?_
  refine g_ifb_eq (pc := 16) (tgt := 38) C dX6_isOrUnder_16 (by decide) (fun h16 => absurd h16 (by decide)) (fun h16 => ?_)
  refine g_iload_n (pc := 19) C dX6_isOrUnder_19 1 rfl ?_
  refine g_iload_n (pc := 20) C dX6_isOrUnder_20 3 rfl ?_
  refine g_icmp_ne (pc := 21) (tgt := 26) C dX6_isOrUnder_21 (by decide) (fun h21 => ?_) (fun h21 => ?_)
  · refine g_above (pc := 26) C mf_X6_332 rfl dX6_isOrUnder_26 ?_
    refine g_iload_n (pc := 29) C dX6_isOrUnder_29 1 rfl ?_
    refine g_aboveLd (pc := 30) (v := 4) C 6 rfl (by decide) (by decide) dX6_isOrUnder_30 ?_
    refine g_istore_n (pc := 31) (lv' := [(2, .int 4), (3, .int 0), (0, .int 6), (1, .int w)]) C dX6_isOrUnder_31 rfl (by decide) rfl ?_
    refine g_iinc (pc := 32) (v := 1) (lv' := [(3, .int 1), (2, .int 4), (0, .int 6), (1, .int w)]) C dX6_isOrUnder_32 1 rfl (nI_1 0) (by decide) rfl ?_
    refine g_goto (pc := 35) (tgt := 4) C dX6_isOrUnder_35 (by decide) ?_
    refine g_iload_n (pc := 4) C dX6_isOrUnder_4 0 rfl ?_
    refine g_above (pc := 5) C mf_X6_332 rfl dX6_isOrUnder_5 ?_
    refine g_aboveLen (pc := 8) C dX6_isOrUnder_8 ?_
    refine g_icmpN_ge (pc := 9) (i := 1) (j := 7) (tgt := 38) C dX6_isOrUnder_9 (by decide) ⟨by omega, by omega⟩ (fun h9 => absurd h9 (by decide)) (fun h9 => ?_)
    refine g_iload_n (pc := 12) C dX6_isOrUnder_12 1 rfl ?_
    refine g_rdSI (pc := 13) (val := bI (0 ≤ 4 ∧ 4 ≤ 6)) (rest := []) C k_X6_isKind (c_X6_isKind l G 4) ml_X6_103 rfl ⟨Nat.le_of_ble_eq_true rfl, Nat.le_of_ble_eq_true rfl⟩ rfl [] rfl rfl (Nat.le_of_ble_eq_true rfl) ⟨by decide, by decide⟩ dX6_isOrUnder_13 ?_
    refine g_ifb_eq (pc := 16) (tgt := 38) C dX6_isOrUnder_16 (by decide) (fun h16 => absurd h16 (by decide)) (fun h16 => ?_)
    refine g_iload_n (pc := 19) C dX6_isOrUnder_19 1 rfl ?_
    refine g_iload_n (pc := 20) C dX6_isOrUnder_20 3 rfl ?_
    refine g_icmp_ne (pc := 21) (tgt := 26) C dX6_isOrUnder_21 (by decide) (fun h21 => ?_) (fun h21 => ?_)
    · refine g_above (pc := 26) C mf_X6_332 rfl dX6_isOrUnder_26 ?_
      refine g_iload_n (pc := 29) C dX6_isOrUnder_29 1 rfl ?_
      refine g_aboveLd (pc := 30) (v := 0) C 4 rfl (by decide) (by decide) dX6_isOrUnder_30 ?_
      refine g_istore_n (pc := 31) (lv' := [(2, .int 0), (3, .int 1), (0, .int 6), (1, .int w)]) C dX6_isOrUnder_31 rfl (by decide) rfl ?_
      refine g_iinc (pc := 32) (v := 2) (lv' := [(3, .int 2), (2, .int 0), (0, .int 6), (1, .int w)]) C dX6_isOrUnder_32 1 rfl (nI_1 1) (by decide) rfl ?_
      refine g_goto (pc := 35) (tgt := 4) C dX6_isOrUnder_35 (by decide) ?_
      refine g_iload_n (pc := 4) C dX6_isOrUnder_4 0 rfl ?_
      refine g_above (pc := 5) C mf_X6_332 rfl dX6_isOrUnder_5 ?_
      refine g_aboveLen (pc := 8) C dX6_isOrUnder_8 ?_
      refine g_icmpN_ge (pc := 9) (i := 2) (j := 7) (tgt := 38) C dX6_isOrUnder_9 (by decide) ⟨by omega, by omega⟩ (fun h9 => absurd h9 (by decide)) (fun h9 => ?_)
      refine g_iload_n (pc := 12) C dX6_isOrUnder_12 1 rfl ?_
      refine g_rdSI (pc := 13) (val := bI (0 ≤ 0 ∧ 0 ≤ 6)) (rest := []) C k_X6_isKind (c_X6_isKind l G 0) ml_X6_103 rfl ⟨Nat.le_of_ble_eq_true rfl, Nat.le_of_ble_eq_true rfl⟩ rfl [] rfl rfl (Nat.le_of_ble_eq_true rfl) ⟨by decide, by decide⟩ dX6_isOrUnder_13 ?_
      refine g_ifb_eq (pc := 16) (tgt := 38) C dX6_isOrUnder_16 (by decide) (fun h16 => absurd h16 (by decide)) (fun h16 => ?_)
      refine g_iload_n (pc := 19) C dX6_isOrUnder_19 1 rfl ?_
      refine g_iload_n (pc := 20) C dX6_isOrUnder_20 3 rfl ?_
      refine g_icmp_ne (pc := 21) (tgt := 26) C dX6_isOrUnder_21 (by decide) (fun h21 => ?_) (fun h21 => ?_)
      · refine g_above (pc := 26) C mf_X6_332 rfl dX6_isOrUnder_26 ?_
        refine g_iload_n (pc := 29) C dX6_isOrUnder_29 1 rfl ?_
        refine g_aboveLd (pc := 30) (v := (-1)) C 0 rfl (by decide) (by decide) dX6_isOrUnder_30 ?_
        refine g_istore_n (pc := 31) (lv' := [(2, .int (-1)), (3, .int 2), (0, .int 6), (1, .int w)]) C dX6_isOrUnder_31 rfl (by decide) rfl ?_
        refine g_iinc (pc := 32) (v := 3) (lv' := [(3, .int 3), (2, .int (-1)), (0, .int 6), (1, .int w)]) C dX6_isOrUnder_32 1 rfl (nI_1 2) (by decide) rfl ?_
        refine g_goto (pc := 35) (tgt := 4) C dX6_isOrUnder_35 (by decide) ?_
        refine g_iload_n (pc := 4) C dX6_isOrUnder_4 0 rfl ?_
        refine g_above (pc := 5) C mf_X6_332 rfl dX6_isOrUnder_5 ?_
        refine g_aboveLen (pc := 8) C dX6_isOrUnder_8 ?_
        refine g_icmpN_ge (pc := 9) (i := 3) (j := 7) (tgt := 38) C dX6_isOrUnder_9 (by decide) ⟨by omega, by omega⟩ (fun h9 => absurd h9 (by decide)) (fun h9 => ?_)
        refine g_iload_n (pc := 12) C dX6_isOrUnder_12 1 rfl ?_
        refine g_rdSI (pc := 13) (val := bI (0 ≤ (-1) ∧ (-1) ≤ 6)) (rest := []) C k_X6_isKind (c_X6_isKind l G (-1)) ml_X6_103 rfl ⟨Nat.le_of_ble_eq_true rfl, Nat.le_of_ble_eq_true rfl⟩ rfl [] rfl rfl (Nat.le_of_ble_eq_true rfl) ⟨by decide, by decide⟩ dX6_isOrUnder_13 ?_
        refine g_ifb_eq (pc := 16) (tgt := 38) C dX6_isOrUnder_16 (by decide) (fun h16 => ?_) (fun h16 => absurd h16 (by decide))
        refine g_iconst (pc := 38) (v := 0) C dX6_isOrUnder_38 (by decide) ?_
        exact g_retIR (pc := 39) C (rfl) (by first | (refine (bI_t ?_).symm; simp_all [undr, nI]; done) | (refine (bI_f ?_).symm; rintro (q | q | q | q | q) <;> simp_all [nI]; done)) dX6_isOrUnder_39
      · refine g_iconst (pc := 24) (v := 1) C dX6_isOrUnder_24 (by decide) ?_
        exact g_retIR (pc := 25) C (rfl) (by first | (refine (bI_t ?_).symm; simp_all [undr, nI]; done) | (refine (bI_f ?_).symm; rintro (q | q | q | q | q) <;> simp_all [nI]; done)) dX6_isOrUnder_25
    · refine g_iconst (pc := 24) (v := 1) C dX6_isOrUnder_24 (by decide) ?_
      exact g_retIR (pc := 25) C (rfl) (by first | (refine (bI_t ?_).symm; simp_all [undr, nI]; done) | (refine (bI_f ?_).symm; rintro (q | q | q | q | q) <;> simp_all [nI]; done)) dX6_isOrUnder_25
  · refine g_iconst (pc := 24) (v := 1) C dX6_isOrUnder_24 (by decide) ?_
    exact g_retIR (pc := 25) C (rfl) (by first | (refine (bI_t ?_).symm; simp_all [undr, nI]; done) | (refine (bI_f ?_).symm; rintro (q | q | q | q | q) <;> simp_all [nI]; done)) dX6_isOrUnder_25
theorem c_X6_isOrUnder (l : Launch) (G : gT) (k : Nat) (w : Int32) (hk : k ≤ 6) : RI l yX6_isOrUnder cX6_isOrUnder 4 (some .boolean) 2 G [.int (nI k), .int w] (([] : va_W)) (bI (undr k w)) := by
  rcases (show k = 0 ∨ k = 1 ∨ k = 2 ∨ k = 3 ∨ k = 4 ∨ k = 5 ∨ k = 6 from by omega) with rfl | rfl | rfl | rfl | rfl | rfl | rfl
  · exact c_X6_isOrUnder_0 l G w
  · exact c_X6_isOrUnder_1 l G w
  · exact c_X6_isOrUnder_2 l G w
  · exact c_X6_isOrUnder_3 l G w
  · exact c_X6_isOrUnder_4 l G w
  · exact c_X6_isOrUnder_5 l G w
  · exact c_X6_isOrUnder_6 l G w
set_option maxRecDepth 20000 in
set_option maxHeartbeats 4000000 in
theorem c_X3_wrongOf (l : Launch) (G : gT) (h : Nat) (a : Nat) (b : Nat) (c : Nat) (τ : tT) (q : Nat) (hT : TI τ) (hq : q < 8) : RI l yX3_wrongOf cX3_wrongOf 4 (some .int) 4 G [.ref h, .int (nI q)] (wT G h a b c τ) (wrong τ q) := by
  have hk6 := (hT.k hq).2
  refine start_R (by decide) (Nat.le_of_ble_eq_true rfl) (fun p9 e9 s9 m9 a9 b9 t9 c9 C => ?_)
  refine g_lv (lv' := [(0, .ref h), (1, .int (nI q))]) rfl ?_
  have key_30 : GW p9 l e9 (rmh 4 0 0) s9 m9 a9 b9 t9 c9 (MQ b9 (QcI (wrong τ q)) a9 s9 0 0 NoA) G NoA false 4 0 0 (wT G h a b c τ) [(0, .ref h), (1, .int (nI q)), (2, .int (share τ q))] 30 [.int (if undr (tK τ q) 2 then 1000 - share τ q else share τ q)] := by
    refine g_istore_n (pc := 30) (lv' := [(3, .int (if undr (tK τ q) 2 then 1000 - share τ q else share τ q)), (0, .ref h), (1, .int (nI q)), (2, .int (share τ q))]) C dX3_wrongOf_30 rfl (by decide) rfl ?_
    refine g_iload_n (pc := 31) C dX3_wrongOf_31 0 rfl ?_
    refine g_aload_n (pc := 32) C dX3_wrongOf_32 1 rfl ?_
    refine g_rdVI (pc := 33) (val := hold τ) (rest := [.int (if undr (tK τ q) 2 then 1000 - share τ q else share τ q)]) C k_X3_holding (c_X3_holding l G h a b c τ (by first | assumption | omega)) ml_X3_117 rfl ⟨Nat.le_of_ble_eq_true rfl, Nat.le_of_ble_eq_true rfl⟩ rfl [0, 1, 2, 3] rfl 0 rfl rfl rfl rfl (Nat.le_of_ble_eq_true rfl) ⟨by decide, by decide⟩ dX3_wrongOf_33 ?_
    refine g_isub (pc := 36) C dX3_wrongOf_36 ?_
    exact g_retIR (pc := 37) C (rfl) (by rfl) dX3_wrongOf_37
  refine g_aload_n (pc := 0) C dX3_wrongOf_0 0 rfl ?_
  refine g_iload_n (pc := 1) C dX3_wrongOf_1 1 rfl ?_
  refine g_sipush (pc := 2) (v := 1023) C dX3_wrongOf_2 (by decide) ?_
  refine g_rdVI (pc := 5) (val := share τ q) (rest := []) C k_X3_shareOf (c_X3_shareOf_all l G h a b c τ q (by first | assumption | omega) (by first | assumption | omega)) ml_X3_111 rfl ⟨Nat.le_of_ble_eq_true rfl, Nat.le_of_ble_eq_true rfl⟩ rfl [0, 1, 2, 3] rfl 0 rfl rfl rfl rfl (Nat.le_of_ble_eq_true rfl) ⟨by decide, by decide⟩ dX3_wrongOf_5 ?_
  refine g_istore_n (pc := 8) (lv' := [(2, .int (share τ q)), (0, .ref h), (1, .int (nI q))]) C dX3_wrongOf_8 rfl (by decide) rfl ?_
  refine g_aload_n (pc := 9) C dX3_wrongOf_9 1 rfl ?_
  refine g_iload_n (pc := 10) C dX3_wrongOf_10 2 rfl ?_
  refine g_rdVI (pc := 11) (val := τ 0 q) (rest := []) C k_X3_kindOf (c_X3_kindOf l G h a b c τ q (by first | assumption | omega)) ml_X3_67 rfl ⟨Nat.le_of_ble_eq_true rfl, Nat.le_of_ble_eq_true rfl⟩ rfl [0, 1, 2, 3] rfl 0 rfl rfl rfl rfl (Nat.le_of_ble_eq_true rfl) ⟨by decide, by decide⟩ dX3_wrongOf_11 ?_
  refine g_top (z := nI (tK τ q)) ((hT.k hq).1) ?_
  refine g_iconst (pc := 14) (v := 2) C dX3_wrongOf_14 (by decide) ?_
  skip
  refine g_rdSNI (pc := 15) (val := bI (undr (tK τ q) 2)) (rest := []) C k_X6_isOrUnder (c_X6_isOrUnder l G (tK τ q) 2 (by first | assumption | omega)) (List.mem_of_getElem? (i := 10) rfl) rfl ⟨Nat.le_of_ble_eq_true rfl, Nat.le_of_ble_eq_true rfl⟩ rfl [] rfl rfl (Nat.le_of_ble_eq_true rfl) ⟨by decide, by decide⟩ dX3_wrongOf_15 ?_
  refine g_ifb_eq (pc := 18) (tgt := 29) C dX3_wrongOf_18 (by decide) (fun h18 => ?_) (fun h18 => ?_)
  · refine g_iload_n (pc := 29) C dX3_wrongOf_29 0 rfl ?_
    refine g_top (z := (if undr (tK τ q) 2 then 1000 - share τ q else share τ q)) (by rw [if_neg h18]) ?_
    refine g_sub (lv' := [(0, .ref h), (1, .int (nI q)), (2, .int (share τ q))]) [1, 2, 0] rfl ?_
    exact key_30 
  · refine g_sipush (pc := 21) (v := 1000) C dX3_wrongOf_21 (by decide) ?_
    refine g_iload_n (pc := 24) C dX3_wrongOf_24 0 rfl ?_
    refine g_isub (pc := 25) C dX3_wrongOf_25 ?_
    refine g_goto (pc := 26) (tgt := 30) C dX3_wrongOf_26 (by decide) ?_
    refine g_top (z := (if undr (tK τ q) 2 then 1000 - share τ q else share τ q)) (by rw [if_pos h18]) ?_
    refine g_sub (lv' := [(0, .ref h), (1, .int (nI q)), (2, .int (share τ q))]) [1, 2, 0] rfl ?_
    exact key_30 
