set_option maxHeartbeats 4000000 in
set_option maxRecDepth 100000 in
theorem c_X8_lump (l : Launch) (D : va_G) (cy : Nat → ClassId) (a : Nat → Nat) (L : List Nat) (c : Nat → Nat → Int32) (g : Nat → Nat → Int64) (r : Nat → Nat → Option Nat) (nl nk : Nat) (hL : zLv L nl nk) (hM : RM r) (d : Nat → Nat → Int32) (hI : CI d nl nk) (x : Nat → Nat → Nat) (hX : XL d nl x) (hK : LK d c nl nk x) (word hand day len : Int32) : zCI l yX8_lump wsX8_lump { frames := 2, cells := 0, slots := 0, locals := 45 } D cy a L c g r [Value.ref (a 300), Value.int word, Value.int hand, Value.int day, Value.int len] (fun v c' => (¬ ((0 ≤ word.toInt ∧ word.toInt < 8) ∧ (0 ≤ hand.toInt ∧ hand.toInt ≤ 9) ∧ ((latestC d nk : Int) ≤ day.toInt ∧ day.toInt ≤ 999) ∧ (1 ≤ len.toInt ∧ len.toInt ≤ 200)) ∧ v = -2 ∧ c' = c) ∨ (((0 ≤ word.toInt ∧ word.toInt < 8) ∧ (0 ≤ hand.toInt ∧ hand.toInt ≤ 9) ∧ ((latestC d nk : Int) ≤ day.toInt ∧ day.toInt ≤ 999) ∧ (1 ≤ len.toInt ∧ len.toInt ≤ 200)) ∧ ¬ fitC d x (tn word) ∧ v = -3 ∧ c' = c) ∨ (((0 ≤ word.toInt ∧ word.toInt < 8) ∧ (0 ≤ hand.toInt ∧ hand.toInt ≤ 9) ∧ ((latestC d nk : Int) ≤ day.toInt ∧ day.toInt ≤ 999) ∧ (1 ≤ len.toInt ∧ len.toInt ≤ 200)) ∧ fitC d x (tn word) ∧ nk = 40 ∧ v = -4 ∧ c' = c) ∨ (((0 ≤ word.toInt ∧ word.toInt < 8) ∧ (0 ≤ hand.toInt ∧ hand.toInt ≤ 9) ∧ ((latestC d nk : Int) ≤ day.toInt ∧ day.toInt ≤ 999) ∧ (1 ≤ len.toInt ∧ len.toInt ≤ 200)) ∧ fitC d x (tn word) ∧ nk < 40 ∧ v = nI (((tn len * nn d 5 0) - 2 * nn d 5 1) / nn d 5 2) ∧ c' = up2 (up2 (up2 (up2 (up2 (up2 (up2 (up2 (up2 c 319 (6 * nk) word) 319 (6 * nk + 1) hand) 319 (6 * nk + 2) day) 319 (6 * nk + 3) (nI (nn d 6 2))) 319 (6 * nk + 4) (nI (((tn len * nn d 5 0) - 2 * nn d 5 1) / nn d 5 2))) 319 (6 * nk + 5) (nI ((tn len * nn d 5 0) - (((tn len * nn d 5 0) - 2 * nn d 5 1) / nn d 5 2) * nn d 5 2))) 300 19 (nI (nn d 6 2 + (((tn len * nn d 5 0) - 2 * nn d 5 1) / nn d 5 2)))) 300 20 (nI (nn d 6 3 + ((tn len * nn d 5 0) - (((tn len * nn d 5 0) - 2 * nn d 5 1) / nn d 5 2) * nn d 5 2)))) 300 17 (nI (nk + 1)))) := by
  refine z_enter cX8_lump 9 (some .int) (by decide) (Nat.le_of_ble_eq_true rfl) ?_
  intro p e s m below meth co C hin
  have C : zC p s m _ meth co D cy _ cX8_lump 9 (some .int) wsX8_lump RX8 := C
  have i8 : ∀ w ∈ wsX80, w ∈ wsX8_lump := by decide +kernel
  have h40 := CI_nk40 hI
  have hs0 := (CI_set hI).1.2
  have hs1 := (CI_set hI).2.1.2
  have hs2 := (CI_set hI).2.2.1.2
  have hlt := latestC_le hI
  refine z_aload_n C dX8_lump_0 rfl (q := 0) rfl ?_
  refine zg_X8_lumps C (k := 300) (hL _ (by unfold live; omega)) (by rfl) i8 (by decide +kernel) (v := nI nk) (LK_nk hK) dX8_lump_1 ?_
  refine z_if_ne C dX8_lump_4 (tgt := 11) (by decide) (fun h4 => ?_) (fun h4 => ?_)
  · have q4 := iv_ne (y := 0) (nI_toInt (by omega)) (show (0 : Int32).toInt = 0 from by decide) h4
    refine z_aload_n C dX8_lump_11 rfl (q := 0) rfl ?_
    refine zg_X8_made C (k := 300) (hL _ (by unfold live; omega)) (by rfl) i8 (by decide +kernel) (k' := 319) (RM_made hM) dX8_lump_12 ?_
    refine z_bipush C dX8_lump_15 (v := 6) (by decide) ?_
    refine z_aload_n C dX8_lump_17 rfl (q := 0) rfl ?_
    refine zg_X8_lumps C (k := 300) (hL _ (by unfold live; omega)) (by rfl) i8 (by decide +kernel) (v := nI nk) (LK_nk hK) dX8_lump_18 ?_
    refine z_imul C dX8_lump_21 (v := nI (6 * nk)) (pk_mul 6 nk) ?_
    refine z_iconst C dX8_lump_22 (v := 4) (by decide) ?_
    refine z_isub C dX8_lump_23 (v := nI (6 * (nk - 1) + 2)) (by rw [show (4 : Int32) = nI 4 from rfl, pk_sub (by omega)]; congr 1; omega) ?_
    refine z_iaload C (k := 319) (hL _ (by unfold live; omega)) (by rfl) (j := (6 * (nk - 1) + 2)) rfl (by rw [show ln 319 = 240 from rfl]; omega) (by rw [show ln 319 = 240 from rfl]; decide) (v := nI (latestC d nk)) ((LK_lump hK (by omega) (by decide)).trans ((CI_lump hI (show nk - 1 < nk by omega)).2.2.1.1.trans (by rw [latestC, if_neg (by omega)]))) dX8_lump_24 ?_
    refine z_istore C dX8_lump_25 (by decide) (lv' := [(5, Value.int (nI (latestC d nk))), (0, Value.ref (a 300)), (1, Value.int word), (2, Value.int hand), (3, Value.int day), (4, Value.int len)]) rfl ?_
    refine z_iload_n C dX8_lump_27 rfl (q := 2) rfl ?_
    refine z_pI C (z_runS C (As := [Value.int word]) (rest := []) (c_X8_isWord l D cy a L c g r word) (va_cwS 1 C.2.2.2.2.2.1 gX8_lump_X8_isWord rfl rfl rfl (by decide +kernel) ⟨Nat.le_of_ble_eq_true rfl, Nat.le_of_ble_eq_true rfl⟩) rfl rfl (Nat.le_of_ble_eq_true rfl) dX8_lump_28 ⟨Nat.zero_le _, Nat.zero_le _⟩) (fun v28 e28 => ?_)
    rcases e28 with ⟨rfl, e28⟩ | ⟨rfl, e28⟩
    · obtain ⟨w, hw, rfl⟩ := arg_nI (b := 7) e28
      have tw := nI_toInt (n := w) (by omega)
      have uw := tn_nI (j := w) (by omega)
      refine z_if_eq C dX8_lump_31 (tgt := 73) (by decide) (fun h31 => absurd h31 (by decide)) (fun h31 => ?_)
      refine z_iload_n C dX8_lump_34 rfl (q := 3) rfl ?_
      refine z_i2l C dX8_lump_35 (v := hand.toInt64) rfl ?_
      refine z_lconst C dX8_lump_36 (v := 0) (by decide) ?_
      refine z_ldc2 C dX8_lump_37 (v := 9) (by decide +kernel) ?_
      refine z_pI C (z_runS C (As := [Value.long (hand.toInt64), Value.long 0, Value.long 9]) (rest := []) (c_X8_in l D cy a L c g r hand.toInt64 0 9 (V := hand.toInt) (LO := 0) (HI := 9) (tL rfl) (show (0 : Int64).toInt = 0 from by decide) (show (9 : Int64).toInt = 9 from by decide)) (va_cwS 3 C.2.2.2.2.2.1 gX8_lump_X8_in rfl rfl rfl (by decide +kernel) ⟨Nat.le_of_ble_eq_true rfl, Nat.le_of_ble_eq_true rfl⟩) rfl rfl (Nat.le_of_ble_eq_true rfl) dX8_lump_40 ⟨Nat.zero_le _, Nat.zero_le _⟩) (fun v40 e40 => ?_)
      rcases e40 with ⟨rfl, e40⟩ | ⟨rfl, e40⟩
      · refine z_if_eq C dX8_lump_43 (tgt := 73) (by decide) (fun h43 => absurd h43 (by decide)) (fun h43 => ?_)
        refine z_iload_n C dX8_lump_46 rfl (q := 4) rfl ?_
        refine z_i2l C dX8_lump_47 (v := day.toInt64) rfl ?_
        refine z_iload C dX8_lump_48 (q := 0) rfl ?_
        refine z_i2l C dX8_lump_50 (v := (nI (latestC d nk)).toInt64) rfl ?_
        refine z_ldc2 C dX8_lump_51 (v := 999) (by decide +kernel) ?_
        refine z_pI C (z_runS C (As := [Value.long (day.toInt64), Value.long ((nI (latestC d nk)).toInt64), Value.long 999]) (rest := []) (c_X8_in l D cy a L c g r day.toInt64 ((nI (latestC d nk)).toInt64) 999 (V := day.toInt) (LO := ((latestC d nk : Nat) : Int)) (HI := 999) (tL rfl) (tL (nI_toInt (by omega))) (show (999 : Int64).toInt = 999 from by decide)) (va_cwS 3 C.2.2.2.2.2.1 gX8_lump_X8_in rfl rfl rfl (by decide +kernel) ⟨Nat.le_of_ble_eq_true rfl, Nat.le_of_ble_eq_true rfl⟩) rfl rfl (Nat.le_of_ble_eq_true rfl) dX8_lump_54 ⟨Nat.zero_le _, Nat.zero_le _⟩) (fun v54 e54 => ?_)
        rcases e54 with ⟨rfl, e54⟩ | ⟨rfl, e54⟩
        · refine z_if_eq C dX8_lump_57 (tgt := 73) (by decide) (fun h57 => absurd h57 (by decide)) (fun h57 => ?_)
          refine z_iload C dX8_lump_60 (q := 5) rfl ?_
          refine z_i2l C dX8_lump_62 (v := len.toInt64) rfl ?_
          refine z_lconst C dX8_lump_63 (v := 1) (by decide) ?_
          refine z_ldc2 C dX8_lump_64 (v := 200) (by decide +kernel) ?_
          refine z_pI C (z_runS C (As := [Value.long (len.toInt64), Value.long 1, Value.long 200]) (rest := []) (c_X8_in l D cy a L c g r len.toInt64 1 200 (V := len.toInt) (LO := 1) (HI := 200) (tL rfl) (show (1 : Int64).toInt = 1 from by decide) (show (200 : Int64).toInt = 200 from by decide)) (va_cwS 3 C.2.2.2.2.2.1 gX8_lump_X8_in rfl rfl rfl (by decide +kernel) ⟨Nat.le_of_ble_eq_true rfl, Nat.le_of_ble_eq_true rfl⟩) rfl rfl (Nat.le_of_ble_eq_true rfl) dX8_lump_67 ⟨Nat.zero_le _, Nat.zero_le _⟩) (fun v67 e67 => ?_)
          rcases e67 with ⟨rfl, e67⟩ | ⟨rfl, e67⟩
          · obtain ⟨le, hle, rfl⟩ := arg_nI (b := 200) (⟨by omega, e67.2⟩ : 0 ≤ len.toInt ∧ len.toInt ≤ 200)
            have tle := nI_toInt (n := le) (by omega)
            have ule := tn_nI (j := le) (by omega)
            have hd1 : le * nn d 5 0 ≤ 200 * 200 := Nat.mul_le_mul (by omega) hs0.2
            refine z_if_ne C dX8_lump_70 (tgt := 76) (by decide) (fun h70 => ?_) (fun h70 => absurd h70 (by decide))
            refine z_aload_n C dX8_lump_76 rfl (q := 1) rfl ?_
            refine z_iload_n C dX8_lump_77 rfl (q := 2) rfl ?_
            refine z_pI C (z_runV C (As := [Value.int (nI w)]) (rest := []) (c_X8_fits l D cy a L c g r nl nk hL hM d hI x hX hK w (by omega)) (cwV 1 C.2.2.2.2.2.1 gX8_lump_X8_fits rfl rfl rfl (by decide +kernel) ⟨Nat.le_of_ble_eq_true rfl, Nat.le_of_ble_eq_true rfl⟩) (hL _ (by unfold live; omega)) (zF_k8 (by rfl)) rfl rfl rfl rfl (Nat.le_of_ble_eq_true rfl) dX8_lump_78 ⟨Nat.zero_le _, Nat.zero_le _⟩) (fun v78 e78 => ?_)
            rcases e78 with ⟨rfl, e78⟩ | ⟨rfl, e78⟩
            · refine z_if_ne C dX8_lump_81 (tgt := 87) (by decide) (fun h81 => ?_) (fun h81 => absurd h81 (by decide))
              refine z_aload_n C dX8_lump_87 rfl (q := 1) rfl ?_
              refine zg_X8_lumps C (k := 300) (hL _ (by unfold live; omega)) (by rfl) i8 (by decide +kernel) (v := nI nk) (LK_nk hK) dX8_lump_88 ?_
              refine z_bipush C dX8_lump_91 (v := 40) (by decide) ?_
              refine z_icmp_ne C dX8_lump_93 (tgt := 99) (by decide) (fun h93 => ?_) (fun h93 => ?_)
              · have q93 := iv_ne (nI_toInt (by omega)) (show (40 : Int32).toInt = 40 from by decide) h93
                refine z_iload C dX8_lump_99 (q := 5) rfl ?_
                refine z_aload_n C dX8_lump_101 rfl (q := 1) rfl ?_
                refine zg_X8_told C (k := 300) (hL _ (by unfold live; omega)) (by rfl) i8 (by decide +kernel) (k' := 301) (RM_told hM) dX8_lump_102 ?_
                refine z_iconst C dX8_lump_105 (v := 0) (by decide) ?_
                refine z_iaload C (k := 301) (hL _ (by unfold live; omega)) (by rfl) (j := 0) (by decide) (by rw [show ln 301 = 4 from rfl]; omega) (by rw [show ln 301 = 4 from rfl]; decide) (v := nI (nn d 5 0)) ((LK_told hK (by decide)).trans (CI_set hI).1.1) dX8_lump_106 ?_
                refine z_imul C dX8_lump_107 (v := nI (le * (nn d 5 0))) (pk_mul le (nn d 5 0)) ?_
                refine z_istore C dX8_lump_108 (by decide) (lv' := [(6, Value.int (nI (le * (nn d 5 0)))), (5, Value.int (nI (latestC d nk))), (0, Value.ref (a 300)), (1, Value.int (nI w)), (2, Value.int hand), (3, Value.int day), (4, Value.int (nI le))]) rfl ?_
                refine z_iload C dX8_lump_110 (q := 0) rfl ?_
                refine z_iconst C dX8_lump_112 (v := 2) (by decide) ?_
                refine z_aload_n C dX8_lump_113 rfl (q := 2) rfl ?_
                refine zg_X8_told C (k := 300) (hL _ (by unfold live; omega)) (by rfl) i8 (by decide +kernel) (k' := 301) (RM_told hM) dX8_lump_114 ?_
                refine z_iconst C dX8_lump_117 (v := 1) (by decide) ?_
                refine z_iaload C (k := 301) (hL _ (by unfold live; omega)) (by rfl) (j := 1) (by decide) (by rw [show ln 301 = 4 from rfl]; omega) (by rw [show ln 301 = 4 from rfl]; decide) (v := nI (nn d 5 1)) ((LK_told hK (by decide)).trans (CI_set hI).2.1.1) dX8_lump_118 ?_
                refine z_imul C dX8_lump_119 (v := nI (2 * (nn d 5 1))) (pk_mul 2 (nn d 5 1)) ?_
                refine z_icmp_le C dX8_lump_120 (tgt := 144) (by decide) (fun h120 => ?_) (fun h120 => ?_)
                · have q120 := iv_le (nI_toInt (by omega)) (nI_toInt (by omega)) h120
                  refine z_iconst C dX8_lump_144 (v := nI (((le * nn d 5 0) - 2 * nn d 5 1) / nn d 5 2)) (by rw [show (le * nn d 5 0) - 2 * nn d 5 1 = 0 by omega, Nat.zero_div]; decide) ?_
                  refine z_istore C dX8_lump_145 (by decide) (lv' := [(7, Value.int (nI (((le * nn d 5 0) - 2 * nn d 5 1) / nn d 5 2))), (6, Value.int (nI (le * (nn d 5 0)))), (5, Value.int (nI (latestC d nk))), (0, Value.ref (a 300)), (1, Value.int (nI w)), (2, Value.int hand), (3, Value.int day), (4, Value.int (nI le))]) rfl ?_
                  have hdm : (((le * nn d 5 0) - 2 * nn d 5 1) / nn d 5 2) * nn d 5 2 ≤ (le * nn d 5 0) - 2 * nn d 5 1 := Nat.div_mul_le_self _ _
                  refine z_bipush C dX8_lump_147 (v := 6) (by decide) ?_
                  refine z_aload_n C dX8_lump_149 rfl (q := 3) rfl ?_
                  refine zg_X8_lumps C (k := 300) (hL _ (by unfold live; omega)) (by rfl) i8 (by decide +kernel) (v := nI nk) (LK_nk hK) dX8_lump_150 ?_
                  refine z_imul C dX8_lump_153 (v := nI (6 * nk)) (pk_mul 6 nk) ?_
                  refine z_istore C dX8_lump_154 (by decide) (lv' := [(8, Value.int (nI (6 * nk))), (7, Value.int (nI (((le * nn d 5 0) - 2 * nn d 5 1) / nn d 5 2))), (6, Value.int (nI (le * (nn d 5 0)))), (5, Value.int (nI (latestC d nk))), (0, Value.ref (a 300)), (1, Value.int (nI w)), (2, Value.int hand), (3, Value.int day), (4, Value.int (nI le))]) rfl ?_
                  refine z_aload_n C dX8_lump_156 rfl (q := 4) rfl ?_
                  refine zg_X8_made C (k := 300) (hL _ (by unfold live; omega)) (by rfl) i8 (by decide +kernel) (k' := 319) (RM_made hM) dX8_lump_157 ?_
                  refine z_iload C dX8_lump_160 (q := 0) rfl ?_
                  refine z_iload_n C dX8_lump_162 rfl (q := 5) rfl ?_
                  refine z_iastore C (k := 319) (hL _ (by unfold live; omega)) (by rfl) (j := (6 * nk)) rfl (by rw [show ln 319 = 240 from rfl]; omega) (by rw [show ln 319 = 240 from rfl]; decide) dX8_lump_163 ?_
                  refine z_aload_n C dX8_lump_164 rfl (q := 4) rfl ?_
                  refine zg_X8_made C (k := 300) (hL _ (by unfold live; omega)) (by rfl) i8 (by decide +kernel) (k' := 319) (RM_made hM) dX8_lump_165 ?_
                  refine z_iload C dX8_lump_168 (q := 0) rfl ?_
                  refine z_iconst C dX8_lump_170 (v := 1) (by decide) ?_
                  refine z_iadd C dX8_lump_171 (v := nI ((6 * nk) + 1)) (nI_add (6 * nk) 1) ?_
                  refine z_iload_n C dX8_lump_172 rfl (q := 6) rfl ?_
                  refine z_iastore C (k := 319) (hL _ (by unfold live; omega)) (by rfl) (j := ((6 * nk) + 1)) rfl (by rw [show ln 319 = 240 from rfl]; omega) (by rw [show ln 319 = 240 from rfl]; decide) dX8_lump_173 ?_
                  refine z_aload_n C dX8_lump_174 rfl (q := 4) rfl ?_
                  refine zg_X8_made C (k := 300) (hL _ (by unfold live; omega)) (by rfl) i8 (by decide +kernel) (k' := 319) (RM_made hM) dX8_lump_175 ?_
                  refine z_iload C dX8_lump_178 (q := 0) rfl ?_
                  refine z_iconst C dX8_lump_180 (v := 2) (by decide) ?_
                  refine z_iadd C dX8_lump_181 (v := nI ((6 * nk) + 2)) (nI_add (6 * nk) 2) ?_
                  refine z_iload_n C dX8_lump_182 rfl (q := 7) rfl ?_
                  refine z_iastore C (k := 319) (hL _ (by unfold live; omega)) (by rfl) (j := ((6 * nk) + 2)) rfl (by rw [show ln 319 = 240 from rfl]; omega) (by rw [show ln 319 = 240 from rfl]; decide) dX8_lump_183 ?_
                  refine z_aload_n C dX8_lump_184 rfl (q := 4) rfl ?_
                  refine zg_X8_made C (k := 300) (hL _ (by unfold live; omega)) (by rfl) i8 (by decide +kernel) (k' := 319) (RM_made hM) dX8_lump_185 ?_
                  refine z_iload C dX8_lump_188 (q := 0) rfl ?_
                  refine z_iconst C dX8_lump_190 (v := 3) (by decide) ?_
                  refine z_iadd C dX8_lump_191 (v := nI ((6 * nk) + 3)) (nI_add (6 * nk) 3) ?_
                  refine z_aload_n C dX8_lump_192 rfl (q := 4) rfl ?_
                  refine zg_X8_sticks C (k := 300) (hL _ (by unfold live; omega)) (by rfl) i8 (by decide +kernel) (v := nI (nn d 6 2)) (by rw [up2_k _ _ _ _ (by decide), up2_k _ _ _ _ (by decide), up2_k _ _ _ _ (by decide)]; exact LK_st hK hI) dX8_lump_193 ?_
                  refine z_iastore C (k := 319) (hL _ (by unfold live; omega)) (by rfl) (j := ((6 * nk) + 3)) rfl (by rw [show ln 319 = 240 from rfl]; omega) (by rw [show ln 319 = 240 from rfl]; decide) dX8_lump_196 ?_
                  refine z_aload_n C dX8_lump_197 rfl (q := 4) rfl ?_
                  refine zg_X8_made C (k := 300) (hL _ (by unfold live; omega)) (by rfl) i8 (by decide +kernel) (k' := 319) (RM_made hM) dX8_lump_198 ?_
                  refine z_iload C dX8_lump_201 (q := 0) rfl ?_
                  refine z_iconst C dX8_lump_203 (v := 4) (by decide) ?_
                  refine z_iadd C dX8_lump_204 (v := nI ((6 * nk) + 4)) (nI_add (6 * nk) 4) ?_
                  refine z_iload C dX8_lump_205 (q := 1) rfl ?_
                  refine z_iastore C (k := 319) (hL _ (by unfold live; omega)) (by rfl) (j := ((6 * nk) + 4)) rfl (by rw [show ln 319 = 240 from rfl]; omega) (by rw [show ln 319 = 240 from rfl]; decide) dX8_lump_207 ?_
                  refine z_aload_n C dX8_lump_208 rfl (q := 4) rfl ?_
                  refine zg_X8_made C (k := 300) (hL _ (by unfold live; omega)) (by rfl) i8 (by decide +kernel) (k' := 319) (RM_made hM) dX8_lump_209 ?_
                  refine z_iload C dX8_lump_212 (q := 0) rfl ?_
                  refine z_iconst C dX8_lump_214 (v := 5) (by decide) ?_
                  refine z_iadd C dX8_lump_215 (v := nI ((6 * nk) + 5)) (nI_add (6 * nk) 5) ?_
                  refine z_iload C dX8_lump_216 (q := 2) rfl ?_
                  refine z_iload C dX8_lump_218 (q := 1) rfl ?_
                  refine z_aload_n C dX8_lump_220 rfl (q := 4) rfl ?_
                  refine zg_X8_told C (k := 300) (hL _ (by unfold live; omega)) (by rfl) i8 (by decide +kernel) (k' := 301) (RM_told hM) dX8_lump_221 ?_
                  refine z_iconst C dX8_lump_224 (v := 2) (by decide) ?_
                  refine z_iaload C (k := 301) (hL _ (by unfold live; omega)) (by rfl) (j := 2) (by decide) (by rw [show ln 301 = 4 from rfl]; omega) (by rw [show ln 301 = 4 from rfl]; decide) (v := nI (nn d 5 2)) (by rw [up2_k _ _ _ _ (by decide), up2_k _ _ _ _ (by decide), up2_k _ _ _ _ (by decide), up2_k _ _ _ _ (by decide), up2_k _ _ _ _ (by decide)]; exact (LK_told hK (by decide)).trans (CI_set hI).2.2.1.1) dX8_lump_225 ?_
                  refine z_imul C dX8_lump_226 (v := nI ((((le * nn d 5 0) - 2 * nn d 5 1) / nn d 5 2) * (nn d 5 2))) (pk_mul (((le * nn d 5 0) - 2 * nn d 5 1) / nn d 5 2) (nn d 5 2)) ?_
                  refine z_isub C dX8_lump_227 (v := nI ((le * nn d 5 0) - (((le * nn d 5 0) - 2 * nn d 5 1) / nn d 5 2) * nn d 5 2)) (pk_sub (by omega)) ?_
                  refine z_iastore C (k := 319) (hL _ (by unfold live; omega)) (by rfl) (j := ((6 * nk) + 5)) rfl (by rw [show ln 319 = 240 from rfl]; omega) (by rw [show ln 319 = 240 from rfl]; decide) dX8_lump_228 ?_
                  refine z_aload_n C dX8_lump_229 rfl (q := 4) rfl ?_
                  refine z_dup C dX8_lump_230 rfl ?_
                  refine zg_X8_sticks C (k := 300) (hL _ (by unfold live; omega)) (by rfl) i8 (by decide +kernel) (v := nI (nn d 6 2)) (by rw [up2_k _ _ _ _ (by decide), up2_k _ _ _ _ (by decide), up2_k _ _ _ _ (by decide), up2_k _ _ _ _ (by decide), up2_k _ _ _ _ (by decide), up2_k _ _ _ _ (by decide)]; exact LK_st hK hI) dX8_lump_231 ?_
                  refine z_iload C dX8_lump_234 (q := 1) rfl ?_
                  refine z_iadd C dX8_lump_236 (v := nI ((nn d 6 2) + (((le * nn d 5 0) - 2 * nn d 5 1) / nn d 5 2))) (nI_add (nn d 6 2) (((le * nn d 5 0) - 2 * nn d 5 1) / nn d 5 2)) ?_
                  refine zp_X8_sticks C (k := 300) (hL _ (by unfold live; omega)) (by rfl) i8 (by decide +kernel) dX8_lump_237 ?_
                  refine z_aload_n C dX8_lump_240 rfl (q := 4) rfl ?_
                  refine z_dup C dX8_lump_241 rfl ?_
                  refine zg_X8_scrap C (k := 300) (hL _ (by unfold live; omega)) (by rfl) i8 (by decide +kernel) (v := nI (nn d 6 3)) (by rw [up2_i _ _ _ _ (by decide), up2_k _ _ _ _ (by decide), up2_k _ _ _ _ (by decide), up2_k _ _ _ _ (by decide), up2_k _ _ _ _ (by decide), up2_k _ _ _ _ (by decide), up2_k _ _ _ _ (by decide)]; exact LK_sc hK hI) dX8_lump_242 ?_
                  refine z_aload_n C dX8_lump_245 rfl (q := 4) rfl ?_
                  refine zg_X8_made C (k := 300) (hL _ (by unfold live; omega)) (by rfl) i8 (by decide +kernel) (k' := 319) (RM_made hM) dX8_lump_246 ?_
                  refine z_iload C dX8_lump_249 (q := 0) rfl ?_
                  refine z_iconst C dX8_lump_251 (v := 5) (by decide) ?_
                  refine z_iadd C dX8_lump_252 (v := nI ((6 * nk) + 5)) (nI_add (6 * nk) 5) ?_
                  refine z_iaload C (k := 319) (hL _ (by unfold live; omega)) (by rfl) (j := ((6 * nk) + 5)) rfl (by rw [show ln 319 = 240 from rfl]; omega) (by rw [show ln 319 = 240 from rfl]; decide) (v := nI ((le * nn d 5 0) - (((le * nn d 5 0) - 2 * nn d 5 1) / nn d 5 2) * nn d 5 2)) (by rw [up2_k _ _ _ _ (by decide), up2_self]) dX8_lump_253 ?_
                  refine z_iadd C dX8_lump_254 (v := nI ((nn d 6 3) + ((le * nn d 5 0) - (((le * nn d 5 0) - 2 * nn d 5 1) / nn d 5 2) * nn d 5 2))) (nI_add (nn d 6 3) ((le * nn d 5 0) - (((le * nn d 5 0) - 2 * nn d 5 1) / nn d 5 2) * nn d 5 2)) ?_
                  refine zp_X8_scrap C (k := 300) (hL _ (by unfold live; omega)) (by rfl) i8 (by decide +kernel) dX8_lump_255 ?_
                  refine z_aload_n C dX8_lump_258 rfl (q := 4) rfl ?_
                  refine z_dup C dX8_lump_259 rfl ?_
                  refine zg_X8_lumps C (k := 300) (hL _ (by unfold live; omega)) (by rfl) i8 (by decide +kernel) (v := nI nk) (by rw [up2_i _ _ _ _ (by decide), up2_i _ _ _ _ (by decide), up2_k _ _ _ _ (by decide), up2_k _ _ _ _ (by decide), up2_k _ _ _ _ (by decide), up2_k _ _ _ _ (by decide), up2_k _ _ _ _ (by decide), up2_k _ _ _ _ (by decide)]; exact LK_nk hK) dX8_lump_260 ?_
                  refine z_iconst C dX8_lump_263 (v := 1) (by decide) ?_
                  refine z_iadd C dX8_lump_264 (v := nI (nk + 1)) (nI_add nk 1) ?_
                  refine zp_X8_lumps C (k := 300) (hL _ (by unfold live; omega)) (by rfl) i8 (by decide +kernel) dX8_lump_265 ?_
                  refine z_iload C dX8_lump_268 (q := 1) rfl ?_
                  exact z_iret C rfl (Nat.le_refl _) (Nat.le_refl _) dX8_lump_270 ⟨_, rfl, Or.inr (Or.inr (Or.inr ⟨by omega, by rw [uw]; exact e78, by omega, by rw [ule], by rw [ule]⟩))⟩
                · have q120 := iv_nle (nI_toInt (by omega)) (nI_toInt (by omega)) h120
                  refine z_iload C dX8_lump_123 (q := 0) rfl ?_
                  refine z_iconst C dX8_lump_125 (v := 2) (by decide) ?_
                  refine z_aload_n C dX8_lump_126 rfl (q := 2) rfl ?_
                  refine zg_X8_told C (k := 300) (hL _ (by unfold live; omega)) (by rfl) i8 (by decide +kernel) (k' := 301) (RM_told hM) dX8_lump_127 ?_
                  refine z_iconst C dX8_lump_130 (v := 1) (by decide) ?_
                  refine z_iaload C (k := 301) (hL _ (by unfold live; omega)) (by rfl) (j := 1) (by decide) (by rw [show ln 301 = 4 from rfl]; omega) (by rw [show ln 301 = 4 from rfl]; decide) (v := nI (nn d 5 1)) ((LK_told hK (by decide)).trans (CI_set hI).2.1.1) dX8_lump_131 ?_
                  refine z_imul C dX8_lump_132 (v := nI (2 * (nn d 5 1))) (pk_mul 2 (nn d 5 1)) ?_
                  refine z_isub C dX8_lump_133 (v := nI ((le * nn d 5 0) - 2 * nn d 5 1)) (pk_sub (by omega)) ?_
                  refine z_aload_n C dX8_lump_134 rfl (q := 2) rfl ?_
                  refine zg_X8_told C (k := 300) (hL _ (by unfold live; omega)) (by rfl) i8 (by decide +kernel) (k' := 301) (RM_told hM) dX8_lump_135 ?_
                  refine z_iconst C dX8_lump_138 (v := 2) (by decide) ?_
                  refine z_iaload C (k := 301) (hL _ (by unfold live; omega)) (by rfl) (j := 2) (by decide) (by rw [show ln 301 = 4 from rfl]; omega) (by rw [show ln 301 = 4 from rfl]; decide) (v := nI (nn d 5 2)) ((LK_told hK (by decide)).trans (CI_set hI).2.2.1.1) dX8_lump_139 ?_
                  refine z_idiv C dX8_lump_140 (nI_ne0 (by omega) (by omega)) (v := nI (((le * nn d 5 0) - 2 * nn d 5 1) / nn d 5 2)) (pk_div (by omega) (by omega) (by omega)) ?_
                  refine z_goto C dX8_lump_141 (tgt := 145) (by decide) ?_
                  refine z_istore C dX8_lump_145 (by decide) (lv' := [(7, Value.int (nI (((le * nn d 5 0) - 2 * nn d 5 1) / nn d 5 2))), (6, Value.int (nI (le * (nn d 5 0)))), (5, Value.int (nI (latestC d nk))), (0, Value.ref (a 300)), (1, Value.int (nI w)), (2, Value.int hand), (3, Value.int day), (4, Value.int (nI le))]) rfl ?_
                  have hdm : (((le * nn d 5 0) - 2 * nn d 5 1) / nn d 5 2) * nn d 5 2 ≤ (le * nn d 5 0) - 2 * nn d 5 1 := Nat.div_mul_le_self _ _
                  refine z_bipush C dX8_lump_147 (v := 6) (by decide) ?_
                  refine z_aload_n C dX8_lump_149 rfl (q := 3) rfl ?_
                  refine zg_X8_lumps C (k := 300) (hL _ (by unfold live; omega)) (by rfl) i8 (by decide +kernel) (v := nI nk) (LK_nk hK) dX8_lump_150 ?_
                  refine z_imul C dX8_lump_153 (v := nI (6 * nk)) (pk_mul 6 nk) ?_
                  refine z_istore C dX8_lump_154 (by decide) (lv' := [(8, Value.int (nI (6 * nk))), (7, Value.int (nI (((le * nn d 5 0) - 2 * nn d 5 1) / nn d 5 2))), (6, Value.int (nI (le * (nn d 5 0)))), (5, Value.int (nI (latestC d nk))), (0, Value.ref (a 300)), (1, Value.int (nI w)), (2, Value.int hand), (3, Value.int day), (4, Value.int (nI le))]) rfl ?_
                  refine z_aload_n C dX8_lump_156 rfl (q := 4) rfl ?_
                  refine zg_X8_made C (k := 300) (hL _ (by unfold live; omega)) (by rfl) i8 (by decide +kernel) (k' := 319) (RM_made hM) dX8_lump_157 ?_
                  refine z_iload C dX8_lump_160 (q := 0) rfl ?_
                  refine z_iload_n C dX8_lump_162 rfl (q := 5) rfl ?_
                  refine z_iastore C (k := 319) (hL _ (by unfold live; omega)) (by rfl) (j := (6 * nk)) rfl (by rw [show ln 319 = 240 from rfl]; omega) (by rw [show ln 319 = 240 from rfl]; decide) dX8_lump_163 ?_
                  refine z_aload_n C dX8_lump_164 rfl (q := 4) rfl ?_
                  refine zg_X8_made C (k := 300) (hL _ (by unfold live; omega)) (by rfl) i8 (by decide +kernel) (k' := 319) (RM_made hM) dX8_lump_165 ?_
                  refine z_iload C dX8_lump_168 (q := 0) rfl ?_
                  refine z_iconst C dX8_lump_170 (v := 1) (by decide) ?_
                  refine z_iadd C dX8_lump_171 (v := nI ((6 * nk) + 1)) (nI_add (6 * nk) 1) ?_
                  refine z_iload_n C dX8_lump_172 rfl (q := 6) rfl ?_
                  refine z_iastore C (k := 319) (hL _ (by unfold live; omega)) (by rfl) (j := ((6 * nk) + 1)) rfl (by rw [show ln 319 = 240 from rfl]; omega) (by rw [show ln 319 = 240 from rfl]; decide) dX8_lump_173 ?_
                  refine z_aload_n C dX8_lump_174 rfl (q := 4) rfl ?_
                  refine zg_X8_made C (k := 300) (hL _ (by unfold live; omega)) (by rfl) i8 (by decide +kernel) (k' := 319) (RM_made hM) dX8_lump_175 ?_
                  refine z_iload C dX8_lump_178 (q := 0) rfl ?_
                  refine z_iconst C dX8_lump_180 (v := 2) (by decide) ?_
                  refine z_iadd C dX8_lump_181 (v := nI ((6 * nk) + 2)) (nI_add (6 * nk) 2) ?_
                  refine z_iload_n C dX8_lump_182 rfl (q := 7) rfl ?_
                  refine z_iastore C (k := 319) (hL _ (by unfold live; omega)) (by rfl) (j := ((6 * nk) + 2)) rfl (by rw [show ln 319 = 240 from rfl]; omega) (by rw [show ln 319 = 240 from rfl]; decide) dX8_lump_183 ?_
                  refine z_aload_n C dX8_lump_184 rfl (q := 4) rfl ?_
                  refine zg_X8_made C (k := 300) (hL _ (by unfold live; omega)) (by rfl) i8 (by decide +kernel) (k' := 319) (RM_made hM) dX8_lump_185 ?_
                  refine z_iload C dX8_lump_188 (q := 0) rfl ?_
                  refine z_iconst C dX8_lump_190 (v := 3) (by decide) ?_
                  refine z_iadd C dX8_lump_191 (v := nI ((6 * nk) + 3)) (nI_add (6 * nk) 3) ?_
                  refine z_aload_n C dX8_lump_192 rfl (q := 4) rfl ?_
                  refine zg_X8_sticks C (k := 300) (hL _ (by unfold live; omega)) (by rfl) i8 (by decide +kernel) (v := nI (nn d 6 2)) (by rw [up2_k _ _ _ _ (by decide), up2_k _ _ _ _ (by decide), up2_k _ _ _ _ (by decide)]; exact LK_st hK hI) dX8_lump_193 ?_
                  refine z_iastore C (k := 319) (hL _ (by unfold live; omega)) (by rfl) (j := ((6 * nk) + 3)) rfl (by rw [show ln 319 = 240 from rfl]; omega) (by rw [show ln 319 = 240 from rfl]; decide) dX8_lump_196 ?_
                  refine z_aload_n C dX8_lump_197 rfl (q := 4) rfl ?_
                  refine zg_X8_made C (k := 300) (hL _ (by unfold live; omega)) (by rfl) i8 (by decide +kernel) (k' := 319) (RM_made hM) dX8_lump_198 ?_
                  refine z_iload C dX8_lump_201 (q := 0) rfl ?_
                  refine z_iconst C dX8_lump_203 (v := 4) (by decide) ?_
                  refine z_iadd C dX8_lump_204 (v := nI ((6 * nk) + 4)) (nI_add (6 * nk) 4) ?_
                  refine z_iload C dX8_lump_205 (q := 1) rfl ?_
                  refine z_iastore C (k := 319) (hL _ (by unfold live; omega)) (by rfl) (j := ((6 * nk) + 4)) rfl (by rw [show ln 319 = 240 from rfl]; omega) (by rw [show ln 319 = 240 from rfl]; decide) dX8_lump_207 ?_
                  refine z_aload_n C dX8_lump_208 rfl (q := 4) rfl ?_
                  refine zg_X8_made C (k := 300) (hL _ (by unfold live; omega)) (by rfl) i8 (by decide +kernel) (k' := 319) (RM_made hM) dX8_lump_209 ?_
                  refine z_iload C dX8_lump_212 (q := 0) rfl ?_
                  refine z_iconst C dX8_lump_214 (v := 5) (by decide) ?_
                  refine z_iadd C dX8_lump_215 (v := nI ((6 * nk) + 5)) (nI_add (6 * nk) 5) ?_
                  refine z_iload C dX8_lump_216 (q := 2) rfl ?_
                  refine z_iload C dX8_lump_218 (q := 1) rfl ?_
                  refine z_aload_n C dX8_lump_220 rfl (q := 4) rfl ?_
                  refine zg_X8_told C (k := 300) (hL _ (by unfold live; omega)) (by rfl) i8 (by decide +kernel) (k' := 301) (RM_told hM) dX8_lump_221 ?_
                  refine z_iconst C dX8_lump_224 (v := 2) (by decide) ?_
                  refine z_iaload C (k := 301) (hL _ (by unfold live; omega)) (by rfl) (j := 2) (by decide) (by rw [show ln 301 = 4 from rfl]; omega) (by rw [show ln 301 = 4 from rfl]; decide) (v := nI (nn d 5 2)) (by rw [up2_k _ _ _ _ (by decide), up2_k _ _ _ _ (by decide), up2_k _ _ _ _ (by decide), up2_k _ _ _ _ (by decide), up2_k _ _ _ _ (by decide)]; exact (LK_told hK (by decide)).trans (CI_set hI).2.2.1.1) dX8_lump_225 ?_
                  refine z_imul C dX8_lump_226 (v := nI ((((le * nn d 5 0) - 2 * nn d 5 1) / nn d 5 2) * (nn d 5 2))) (pk_mul (((le * nn d 5 0) - 2 * nn d 5 1) / nn d 5 2) (nn d 5 2)) ?_
                  refine z_isub C dX8_lump_227 (v := nI ((le * nn d 5 0) - (((le * nn d 5 0) - 2 * nn d 5 1) / nn d 5 2) * nn d 5 2)) (pk_sub (by omega)) ?_
                  refine z_iastore C (k := 319) (hL _ (by unfold live; omega)) (by rfl) (j := ((6 * nk) + 5)) rfl (by rw [show ln 319 = 240 from rfl]; omega) (by rw [show ln 319 = 240 from rfl]; decide) dX8_lump_228 ?_
                  refine z_aload_n C dX8_lump_229 rfl (q := 4) rfl ?_
                  refine z_dup C dX8_lump_230 rfl ?_
                  refine zg_X8_sticks C (k := 300) (hL _ (by unfold live; omega)) (by rfl) i8 (by decide +kernel) (v := nI (nn d 6 2)) (by rw [up2_k _ _ _ _ (by decide), up2_k _ _ _ _ (by decide), up2_k _ _ _ _ (by decide), up2_k _ _ _ _ (by decide), up2_k _ _ _ _ (by decide), up2_k _ _ _ _ (by decide)]; exact LK_st hK hI) dX8_lump_231 ?_
                  refine z_iload C dX8_lump_234 (q := 1) rfl ?_
                  refine z_iadd C dX8_lump_236 (v := nI ((nn d 6 2) + (((le * nn d 5 0) - 2 * nn d 5 1) / nn d 5 2))) (nI_add (nn d 6 2) (((le * nn d 5 0) - 2 * nn d 5 1) / nn d 5 2)) ?_
                  refine zp_X8_sticks C (k := 300) (hL _ (by unfold live; omega)) (by rfl) i8 (by decide +kernel) dX8_lump_237 ?_
                  refine z_aload_n C dX8_lump_240 rfl (q := 4) rfl ?_
                  refine z_dup C dX8_lump_241 rfl ?_
                  refine zg_X8_scrap C (k := 300) (hL _ (by unfold live; omega)) (by rfl) i8 (by decide +kernel) (v := nI (nn d 6 3)) (by rw [up2_i _ _ _ _ (by decide), up2_k _ _ _ _ (by decide), up2_k _ _ _ _ (by decide), up2_k _ _ _ _ (by decide), up2_k _ _ _ _ (by decide), up2_k _ _ _ _ (by decide), up2_k _ _ _ _ (by decide)]; exact LK_sc hK hI) dX8_lump_242 ?_
                  refine z_aload_n C dX8_lump_245 rfl (q := 4) rfl ?_
                  refine zg_X8_made C (k := 300) (hL _ (by unfold live; omega)) (by rfl) i8 (by decide +kernel) (k' := 319) (RM_made hM) dX8_lump_246 ?_
                  refine z_iload C dX8_lump_249 (q := 0) rfl ?_
                  refine z_iconst C dX8_lump_251 (v := 5) (by decide) ?_
                  refine z_iadd C dX8_lump_252 (v := nI ((6 * nk) + 5)) (nI_add (6 * nk) 5) ?_
                  refine z_iaload C (k := 319) (hL _ (by unfold live; omega)) (by rfl) (j := ((6 * nk) + 5)) rfl (by rw [show ln 319 = 240 from rfl]; omega) (by rw [show ln 319 = 240 from rfl]; decide) (v := nI ((le * nn d 5 0) - (((le * nn d 5 0) - 2 * nn d 5 1) / nn d 5 2) * nn d 5 2)) (by rw [up2_k _ _ _ _ (by decide), up2_self]) dX8_lump_253 ?_
                  refine z_iadd C dX8_lump_254 (v := nI ((nn d 6 3) + ((le * nn d 5 0) - (((le * nn d 5 0) - 2 * nn d 5 1) / nn d 5 2) * nn d 5 2))) (nI_add (nn d 6 3) ((le * nn d 5 0) - (((le * nn d 5 0) - 2 * nn d 5 1) / nn d 5 2) * nn d 5 2)) ?_
                  refine zp_X8_scrap C (k := 300) (hL _ (by unfold live; omega)) (by rfl) i8 (by decide +kernel) dX8_lump_255 ?_
                  refine z_aload_n C dX8_lump_258 rfl (q := 4) rfl ?_
                  refine z_dup C dX8_lump_259 rfl ?_
                  refine zg_X8_lumps C (k := 300) (hL _ (by unfold live; omega)) (by rfl) i8 (by decide +kernel) (v := nI nk) (by rw [up2_i _ _ _ _ (by decide), up2_i _ _ _ _ (by decide), up2_k _ _ _ _ (by decide), up2_k _ _ _ _ (by decide), up2_k _ _ _ _ (by decide), up2_k _ _ _ _ (by decide), up2_k _ _ _ _ (by decide), up2_k _ _ _ _ (by decide)]; exact LK_nk hK) dX8_lump_260 ?_
                  refine z_iconst C dX8_lump_263 (v := 1) (by decide) ?_
                  refine z_iadd C dX8_lump_264 (v := nI (nk + 1)) (nI_add nk 1) ?_
                  refine zp_X8_lumps C (k := 300) (hL _ (by unfold live; omega)) (by rfl) i8 (by decide +kernel) dX8_lump_265 ?_
                  refine z_iload C dX8_lump_268 (q := 1) rfl ?_
                  exact z_iret C rfl (Nat.le_refl _) (Nat.le_refl _) dX8_lump_270 ⟨_, rfl, Or.inr (Or.inr (Or.inr ⟨by omega, by rw [uw]; exact e78, by omega, by rw [ule], by rw [ule]⟩))⟩
              · have q93 := iv_eq (nI_toInt (by omega)) (show (40 : Int32).toInt = 40 from by decide) h93
                refine z_bipush C dX8_lump_96 (v := -4) (by decide) ?_
                exact z_iret C rfl (Nat.le_refl _) (Nat.le_refl _) dX8_lump_98 ⟨_, rfl, Or.inr (Or.inr (Or.inl ⟨by omega, by rw [uw]; exact e78, by omega, rfl, rfl⟩))⟩
            · refine z_if_ne C dX8_lump_81 (tgt := 87) (by decide) (fun h81 => absurd h81 (by decide)) (fun h81 => ?_)
              refine z_bipush C dX8_lump_84 (v := -3) (by decide) ?_
              exact z_iret C rfl (Nat.le_refl _) (Nat.le_refl _) dX8_lump_86 ⟨_, rfl, Or.inr (Or.inl ⟨by omega, by rw [uw]; exact e78, rfl, rfl⟩)⟩
          · refine z_if_ne C dX8_lump_70 (tgt := 76) (by decide) (fun h70 => absurd h70 (by decide)) (fun h70 => ?_)
            refine z_bipush C dX8_lump_73 (v := -2) (by decide) ?_
            exact z_iret C rfl (Nat.le_refl _) (Nat.le_refl _) dX8_lump_75 ⟨_, rfl, Or.inl ⟨by omega, rfl, rfl⟩⟩
        · refine z_if_eq C dX8_lump_57 (tgt := 73) (by decide) (fun h57 => ?_) (fun h57 => absurd h57 (by decide))
          refine z_bipush C dX8_lump_73 (v := -2) (by decide) ?_
          exact z_iret C rfl (Nat.le_refl _) (Nat.le_refl _) dX8_lump_75 ⟨_, rfl, Or.inl ⟨by omega, rfl, rfl⟩⟩
      · refine z_if_eq C dX8_lump_43 (tgt := 73) (by decide) (fun h43 => ?_) (fun h43 => absurd h43 (by decide))
        refine z_bipush C dX8_lump_73 (v := -2) (by decide) ?_
        exact z_iret C rfl (Nat.le_refl _) (Nat.le_refl _) dX8_lump_75 ⟨_, rfl, Or.inl ⟨by omega, rfl, rfl⟩⟩
    · refine z_if_eq C dX8_lump_31 (tgt := 73) (by decide) (fun h31 => ?_) (fun h31 => absurd h31 (by decide))
      refine z_bipush C dX8_lump_73 (v := -2) (by decide) ?_
      exact z_iret C rfl (Nat.le_refl _) (Nat.le_refl _) dX8_lump_75 ⟨_, rfl, Or.inl ⟨by omega, rfl, rfl⟩⟩
  · have q4 := iv_eq (y := 0) (nI_toInt (by omega)) (show (0 : Int32).toInt = 0 from by decide) h4
    refine z_iconst C dX8_lump_7 (v := nI (latestC d nk)) (by rw [latestC, if_pos (by omega)]; decide) ?_
    refine z_goto C dX8_lump_8 (tgt := 25) (by decide) ?_
    refine z_istore C dX8_lump_25 (by decide) (lv' := [(5, Value.int (nI (latestC d nk))), (0, Value.ref (a 300)), (1, Value.int word), (2, Value.int hand), (3, Value.int day), (4, Value.int len)]) rfl ?_
    refine z_iload_n C dX8_lump_27 rfl (q := 2) rfl ?_
    refine z_pI C (z_runS C (As := [Value.int word]) (rest := []) (c_X8_isWord l D cy a L c g r word) (va_cwS 1 C.2.2.2.2.2.1 gX8_lump_X8_isWord rfl rfl rfl (by decide +kernel) ⟨Nat.le_of_ble_eq_true rfl, Nat.le_of_ble_eq_true rfl⟩) rfl rfl (Nat.le_of_ble_eq_true rfl) dX8_lump_28 ⟨Nat.zero_le _, Nat.zero_le _⟩) (fun v28 e28 => ?_)
    rcases e28 with ⟨rfl, e28⟩ | ⟨rfl, e28⟩
    · obtain ⟨w, hw, rfl⟩ := arg_nI (b := 7) e28
      have tw := nI_toInt (n := w) (by omega)
      have uw := tn_nI (j := w) (by omega)
      refine z_if_eq C dX8_lump_31 (tgt := 73) (by decide) (fun h31 => absurd h31 (by decide)) (fun h31 => ?_)
      refine z_iload_n C dX8_lump_34 rfl (q := 3) rfl ?_
      refine z_i2l C dX8_lump_35 (v := hand.toInt64) rfl ?_
      refine z_lconst C dX8_lump_36 (v := 0) (by decide) ?_
      refine z_ldc2 C dX8_lump_37 (v := 9) (by decide +kernel) ?_
      refine z_pI C (z_runS C (As := [Value.long (hand.toInt64), Value.long 0, Value.long 9]) (rest := []) (c_X8_in l D cy a L c g r hand.toInt64 0 9 (V := hand.toInt) (LO := 0) (HI := 9) (tL rfl) (show (0 : Int64).toInt = 0 from by decide) (show (9 : Int64).toInt = 9 from by decide)) (va_cwS 3 C.2.2.2.2.2.1 gX8_lump_X8_in rfl rfl rfl (by decide +kernel) ⟨Nat.le_of_ble_eq_true rfl, Nat.le_of_ble_eq_true rfl⟩) rfl rfl (Nat.le_of_ble_eq_true rfl) dX8_lump_40 ⟨Nat.zero_le _, Nat.zero_le _⟩) (fun v40 e40 => ?_)
      rcases e40 with ⟨rfl, e40⟩ | ⟨rfl, e40⟩
      · refine z_if_eq C dX8_lump_43 (tgt := 73) (by decide) (fun h43 => absurd h43 (by decide)) (fun h43 => ?_)
        refine z_iload_n C dX8_lump_46 rfl (q := 4) rfl ?_
        refine z_i2l C dX8_lump_47 (v := day.toInt64) rfl ?_
        refine z_iload C dX8_lump_48 (q := 0) rfl ?_
        refine z_i2l C dX8_lump_50 (v := (nI (latestC d nk)).toInt64) rfl ?_
        refine z_ldc2 C dX8_lump_51 (v := 999) (by decide +kernel) ?_
        refine z_pI C (z_runS C (As := [Value.long (day.toInt64), Value.long ((nI (latestC d nk)).toInt64), Value.long 999]) (rest := []) (c_X8_in l D cy a L c g r day.toInt64 ((nI (latestC d nk)).toInt64) 999 (V := day.toInt) (LO := ((latestC d nk : Nat) : Int)) (HI := 999) (tL rfl) (tL (nI_toInt (by omega))) (show (999 : Int64).toInt = 999 from by decide)) (va_cwS 3 C.2.2.2.2.2.1 gX8_lump_X8_in rfl rfl rfl (by decide +kernel) ⟨Nat.le_of_ble_eq_true rfl, Nat.le_of_ble_eq_true rfl⟩) rfl rfl (Nat.le_of_ble_eq_true rfl) dX8_lump_54 ⟨Nat.zero_le _, Nat.zero_le _⟩) (fun v54 e54 => ?_)
        rcases e54 with ⟨rfl, e54⟩ | ⟨rfl, e54⟩
        · refine z_if_eq C dX8_lump_57 (tgt := 73) (by decide) (fun h57 => absurd h57 (by decide)) (fun h57 => ?_)
          refine z_iload C dX8_lump_60 (q := 5) rfl ?_
          refine z_i2l C dX8_lump_62 (v := len.toInt64) rfl ?_
          refine z_lconst C dX8_lump_63 (v := 1) (by decide) ?_
          refine z_ldc2 C dX8_lump_64 (v := 200) (by decide +kernel) ?_
          refine z_pI C (z_runS C (As := [Value.long (len.toInt64), Value.long 1, Value.long 200]) (rest := []) (c_X8_in l D cy a L c g r len.toInt64 1 200 (V := len.toInt) (LO := 1) (HI := 200) (tL rfl) (show (1 : Int64).toInt = 1 from by decide) (show (200 : Int64).toInt = 200 from by decide)) (va_cwS 3 C.2.2.2.2.2.1 gX8_lump_X8_in rfl rfl rfl (by decide +kernel) ⟨Nat.le_of_ble_eq_true rfl, Nat.le_of_ble_eq_true rfl⟩) rfl rfl (Nat.le_of_ble_eq_true rfl) dX8_lump_67 ⟨Nat.zero_le _, Nat.zero_le _⟩) (fun v67 e67 => ?_)
          rcases e67 with ⟨rfl, e67⟩ | ⟨rfl, e67⟩
          · obtain ⟨le, hle, rfl⟩ := arg_nI (b := 200) (⟨by omega, e67.2⟩ : 0 ≤ len.toInt ∧ len.toInt ≤ 200)
            have tle := nI_toInt (n := le) (by omega)
            have ule := tn_nI (j := le) (by omega)
            have hd1 : le * nn d 5 0 ≤ 200 * 200 := Nat.mul_le_mul (by omega) hs0.2
            refine z_if_ne C dX8_lump_70 (tgt := 76) (by decide) (fun h70 => ?_) (fun h70 => absurd h70 (by decide))
            refine z_aload_n C dX8_lump_76 rfl (q := 1) rfl ?_
            refine z_iload_n C dX8_lump_77 rfl (q := 2) rfl ?_
            refine z_pI C (z_runV C (As := [Value.int (nI w)]) (rest := []) (c_X8_fits l D cy a L c g r nl nk hL hM d hI x hX hK w (by omega)) (cwV 1 C.2.2.2.2.2.1 gX8_lump_X8_fits rfl rfl rfl (by decide +kernel) ⟨Nat.le_of_ble_eq_true rfl, Nat.le_of_ble_eq_true rfl⟩) (hL _ (by unfold live; omega)) (zF_k8 (by rfl)) rfl rfl rfl rfl (Nat.le_of_ble_eq_true rfl) dX8_lump_78 ⟨Nat.zero_le _, Nat.zero_le _⟩) (fun v78 e78 => ?_)
            rcases e78 with ⟨rfl, e78⟩ | ⟨rfl, e78⟩
            · refine z_if_ne C dX8_lump_81 (tgt := 87) (by decide) (fun h81 => ?_) (fun h81 => absurd h81 (by decide))
              refine z_aload_n C dX8_lump_87 rfl (q := 1) rfl ?_
              refine zg_X8_lumps C (k := 300) (hL _ (by unfold live; omega)) (by rfl) i8 (by decide +kernel) (v := nI nk) (LK_nk hK) dX8_lump_88 ?_
              refine z_bipush C dX8_lump_91 (v := 40) (by decide) ?_
              refine z_icmp_ne C dX8_lump_93 (tgt := 99) (by decide) (fun h93 => ?_) (fun h93 => ?_)
              · have q93 := iv_ne (nI_toInt (by omega)) (show (40 : Int32).toInt = 40 from by decide) h93
                refine z_iload C dX8_lump_99 (q := 5) rfl ?_
                refine z_aload_n C dX8_lump_101 rfl (q := 1) rfl ?_
                refine zg_X8_told C (k := 300) (hL _ (by unfold live; omega)) (by rfl) i8 (by decide +kernel) (k' := 301) (RM_told hM) dX8_lump_102 ?_
                refine z_iconst C dX8_lump_105 (v := 0) (by decide) ?_
                refine z_iaload C (k := 301) (hL _ (by unfold live; omega)) (by rfl) (j := 0) (by decide) (by rw [show ln 301 = 4 from rfl]; omega) (by rw [show ln 301 = 4 from rfl]; decide) (v := nI (nn d 5 0)) ((LK_told hK (by decide)).trans (CI_set hI).1.1) dX8_lump_106 ?_
                refine z_imul C dX8_lump_107 (v := nI (le * (nn d 5 0))) (pk_mul le (nn d 5 0)) ?_
                refine z_istore C dX8_lump_108 (by decide) (lv' := [(6, Value.int (nI (le * (nn d 5 0)))), (5, Value.int (nI (latestC d nk))), (0, Value.ref (a 300)), (1, Value.int (nI w)), (2, Value.int hand), (3, Value.int day), (4, Value.int (nI le))]) rfl ?_
                refine z_iload C dX8_lump_110 (q := 0) rfl ?_
                refine z_iconst C dX8_lump_112 (v := 2) (by decide) ?_
                refine z_aload_n C dX8_lump_113 rfl (q := 2) rfl ?_
                refine zg_X8_told C (k := 300) (hL _ (by unfold live; omega)) (by rfl) i8 (by decide +kernel) (k' := 301) (RM_told hM) dX8_lump_114 ?_
                refine z_iconst C dX8_lump_117 (v := 1) (by decide) ?_
                refine z_iaload C (k := 301) (hL _ (by unfold live; omega)) (by rfl) (j := 1) (by decide) (by rw [show ln 301 = 4 from rfl]; omega) (by rw [show ln 301 = 4 from rfl]; decide) (v := nI (nn d 5 1)) ((LK_told hK (by decide)).trans (CI_set hI).2.1.1) dX8_lump_118 ?_
                refine z_imul C dX8_lump_119 (v := nI (2 * (nn d 5 1))) (pk_mul 2 (nn d 5 1)) ?_
                refine z_icmp_le C dX8_lump_120 (tgt := 144) (by decide) (fun h120 => ?_) (fun h120 => ?_)
                · have q120 := iv_le (nI_toInt (by omega)) (nI_toInt (by omega)) h120
                  refine z_iconst C dX8_lump_144 (v := nI (((le * nn d 5 0) - 2 * nn d 5 1) / nn d 5 2)) (by rw [show (le * nn d 5 0) - 2 * nn d 5 1 = 0 by omega, Nat.zero_div]; decide) ?_
                  refine z_istore C dX8_lump_145 (by decide) (lv' := [(7, Value.int (nI (((le * nn d 5 0) - 2 * nn d 5 1) / nn d 5 2))), (6, Value.int (nI (le * (nn d 5 0)))), (5, Value.int (nI (latestC d nk))), (0, Value.ref (a 300)), (1, Value.int (nI w)), (2, Value.int hand), (3, Value.int day), (4, Value.int (nI le))]) rfl ?_
                  have hdm : (((le * nn d 5 0) - 2 * nn d 5 1) / nn d 5 2) * nn d 5 2 ≤ (le * nn d 5 0) - 2 * nn d 5 1 := Nat.div_mul_le_self _ _
                  refine z_bipush C dX8_lump_147 (v := 6) (by decide) ?_
                  refine z_aload_n C dX8_lump_149 rfl (q := 3) rfl ?_
                  refine zg_X8_lumps C (k := 300) (hL _ (by unfold live; omega)) (by rfl) i8 (by decide +kernel) (v := nI nk) (LK_nk hK) dX8_lump_150 ?_
                  refine z_imul C dX8_lump_153 (v := nI (6 * nk)) (pk_mul 6 nk) ?_
                  refine z_istore C dX8_lump_154 (by decide) (lv' := [(8, Value.int (nI (6 * nk))), (7, Value.int (nI (((le * nn d 5 0) - 2 * nn d 5 1) / nn d 5 2))), (6, Value.int (nI (le * (nn d 5 0)))), (5, Value.int (nI (latestC d nk))), (0, Value.ref (a 300)), (1, Value.int (nI w)), (2, Value.int hand), (3, Value.int day), (4, Value.int (nI le))]) rfl ?_
                  refine z_aload_n C dX8_lump_156 rfl (q := 4) rfl ?_
                  refine zg_X8_made C (k := 300) (hL _ (by unfold live; omega)) (by rfl) i8 (by decide +kernel) (k' := 319) (RM_made hM) dX8_lump_157 ?_
                  refine z_iload C dX8_lump_160 (q := 0) rfl ?_
                  refine z_iload_n C dX8_lump_162 rfl (q := 5) rfl ?_
                  refine z_iastore C (k := 319) (hL _ (by unfold live; omega)) (by rfl) (j := (6 * nk)) rfl (by rw [show ln 319 = 240 from rfl]; omega) (by rw [show ln 319 = 240 from rfl]; decide) dX8_lump_163 ?_
                  refine z_aload_n C dX8_lump_164 rfl (q := 4) rfl ?_
                  refine zg_X8_made C (k := 300) (hL _ (by unfold live; omega)) (by rfl) i8 (by decide +kernel) (k' := 319) (RM_made hM) dX8_lump_165 ?_
                  refine z_iload C dX8_lump_168 (q := 0) rfl ?_
                  refine z_iconst C dX8_lump_170 (v := 1) (by decide) ?_
                  refine z_iadd C dX8_lump_171 (v := nI ((6 * nk) + 1)) (nI_add (6 * nk) 1) ?_
                  refine z_iload_n C dX8_lump_172 rfl (q := 6) rfl ?_
                  refine z_iastore C (k := 319) (hL _ (by unfold live; omega)) (by rfl) (j := ((6 * nk) + 1)) rfl (by rw [show ln 319 = 240 from rfl]; omega) (by rw [show ln 319 = 240 from rfl]; decide) dX8_lump_173 ?_
                  refine z_aload_n C dX8_lump_174 rfl (q := 4) rfl ?_
                  refine zg_X8_made C (k := 300) (hL _ (by unfold live; omega)) (by rfl) i8 (by decide +kernel) (k' := 319) (RM_made hM) dX8_lump_175 ?_
                  refine z_iload C dX8_lump_178 (q := 0) rfl ?_
                  refine z_iconst C dX8_lump_180 (v := 2) (by decide) ?_
                  refine z_iadd C dX8_lump_181 (v := nI ((6 * nk) + 2)) (nI_add (6 * nk) 2) ?_
                  refine z_iload_n C dX8_lump_182 rfl (q := 7) rfl ?_
                  refine z_iastore C (k := 319) (hL _ (by unfold live; omega)) (by rfl) (j := ((6 * nk) + 2)) rfl (by rw [show ln 319 = 240 from rfl]; omega) (by rw [show ln 319 = 240 from rfl]; decide) dX8_lump_183 ?_
                  refine z_aload_n C dX8_lump_184 rfl (q := 4) rfl ?_
                  refine zg_X8_made C (k := 300) (hL _ (by unfold live; omega)) (by rfl) i8 (by decide +kernel) (k' := 319) (RM_made hM) dX8_lump_185 ?_
                  refine z_iload C dX8_lump_188 (q := 0) rfl ?_
                  refine z_iconst C dX8_lump_190 (v := 3) (by decide) ?_
                  refine z_iadd C dX8_lump_191 (v := nI ((6 * nk) + 3)) (nI_add (6 * nk) 3) ?_
                  refine z_aload_n C dX8_lump_192 rfl (q := 4) rfl ?_
                  refine zg_X8_sticks C (k := 300) (hL _ (by unfold live; omega)) (by rfl) i8 (by decide +kernel) (v := nI (nn d 6 2)) (by rw [up2_k _ _ _ _ (by decide), up2_k _ _ _ _ (by decide), up2_k _ _ _ _ (by decide)]; exact LK_st hK hI) dX8_lump_193 ?_
                  refine z_iastore C (k := 319) (hL _ (by unfold live; omega)) (by rfl) (j := ((6 * nk) + 3)) rfl (by rw [show ln 319 = 240 from rfl]; omega) (by rw [show ln 319 = 240 from rfl]; decide) dX8_lump_196 ?_
                  refine z_aload_n C dX8_lump_197 rfl (q := 4) rfl ?_
                  refine zg_X8_made C (k := 300) (hL _ (by unfold live; omega)) (by rfl) i8 (by decide +kernel) (k' := 319) (RM_made hM) dX8_lump_198 ?_
                  refine z_iload C dX8_lump_201 (q := 0) rfl ?_
                  refine z_iconst C dX8_lump_203 (v := 4) (by decide) ?_
                  refine z_iadd C dX8_lump_204 (v := nI ((6 * nk) + 4)) (nI_add (6 * nk) 4) ?_
                  refine z_iload C dX8_lump_205 (q := 1) rfl ?_
                  refine z_iastore C (k := 319) (hL _ (by unfold live; omega)) (by rfl) (j := ((6 * nk) + 4)) rfl (by rw [show ln 319 = 240 from rfl]; omega) (by rw [show ln 319 = 240 from rfl]; decide) dX8_lump_207 ?_
                  refine z_aload_n C dX8_lump_208 rfl (q := 4) rfl ?_
                  refine zg_X8_made C (k := 300) (hL _ (by unfold live; omega)) (by rfl) i8 (by decide +kernel) (k' := 319) (RM_made hM) dX8_lump_209 ?_
                  refine z_iload C dX8_lump_212 (q := 0) rfl ?_
                  refine z_iconst C dX8_lump_214 (v := 5) (by decide) ?_
                  refine z_iadd C dX8_lump_215 (v := nI ((6 * nk) + 5)) (nI_add (6 * nk) 5) ?_
                  refine z_iload C dX8_lump_216 (q := 2) rfl ?_
                  refine z_iload C dX8_lump_218 (q := 1) rfl ?_
                  refine z_aload_n C dX8_lump_220 rfl (q := 4) rfl ?_
                  refine zg_X8_told C (k := 300) (hL _ (by unfold live; omega)) (by rfl) i8 (by decide +kernel) (k' := 301) (RM_told hM) dX8_lump_221 ?_
                  refine z_iconst C dX8_lump_224 (v := 2) (by decide) ?_
                  refine z_iaload C (k := 301) (hL _ (by unfold live; omega)) (by rfl) (j := 2) (by decide) (by rw [show ln 301 = 4 from rfl]; omega) (by rw [show ln 301 = 4 from rfl]; decide) (v := nI (nn d 5 2)) (by rw [up2_k _ _ _ _ (by decide), up2_k _ _ _ _ (by decide), up2_k _ _ _ _ (by decide), up2_k _ _ _ _ (by decide), up2_k _ _ _ _ (by decide)]; exact (LK_told hK (by decide)).trans (CI_set hI).2.2.1.1) dX8_lump_225 ?_
                  refine z_imul C dX8_lump_226 (v := nI ((((le * nn d 5 0) - 2 * nn d 5 1) / nn d 5 2) * (nn d 5 2))) (pk_mul (((le * nn d 5 0) - 2 * nn d 5 1) / nn d 5 2) (nn d 5 2)) ?_
                  refine z_isub C dX8_lump_227 (v := nI ((le * nn d 5 0) - (((le * nn d 5 0) - 2 * nn d 5 1) / nn d 5 2) * nn d 5 2)) (pk_sub (by omega)) ?_
                  refine z_iastore C (k := 319) (hL _ (by unfold live; omega)) (by rfl) (j := ((6 * nk) + 5)) rfl (by rw [show ln 319 = 240 from rfl]; omega) (by rw [show ln 319 = 240 from rfl]; decide) dX8_lump_228 ?_
                  refine z_aload_n C dX8_lump_229 rfl (q := 4) rfl ?_
                  refine z_dup C dX8_lump_230 rfl ?_
                  refine zg_X8_sticks C (k := 300) (hL _ (by unfold live; omega)) (by rfl) i8 (by decide +kernel) (v := nI (nn d 6 2)) (by rw [up2_k _ _ _ _ (by decide), up2_k _ _ _ _ (by decide), up2_k _ _ _ _ (by decide), up2_k _ _ _ _ (by decide), up2_k _ _ _ _ (by decide), up2_k _ _ _ _ (by decide)]; exact LK_st hK hI) dX8_lump_231 ?_
                  refine z_iload C dX8_lump_234 (q := 1) rfl ?_
                  refine z_iadd C dX8_lump_236 (v := nI ((nn d 6 2) + (((le * nn d 5 0) - 2 * nn d 5 1) / nn d 5 2))) (nI_add (nn d 6 2) (((le * nn d 5 0) - 2 * nn d 5 1) / nn d 5 2)) ?_
                  refine zp_X8_sticks C (k := 300) (hL _ (by unfold live; omega)) (by rfl) i8 (by decide +kernel) dX8_lump_237 ?_
                  refine z_aload_n C dX8_lump_240 rfl (q := 4) rfl ?_
                  refine z_dup C dX8_lump_241 rfl ?_
                  refine zg_X8_scrap C (k := 300) (hL _ (by unfold live; omega)) (by rfl) i8 (by decide +kernel) (v := nI (nn d 6 3)) (by rw [up2_i _ _ _ _ (by decide), up2_k _ _ _ _ (by decide), up2_k _ _ _ _ (by decide), up2_k _ _ _ _ (by decide), up2_k _ _ _ _ (by decide), up2_k _ _ _ _ (by decide), up2_k _ _ _ _ (by decide)]; exact LK_sc hK hI) dX8_lump_242 ?_
                  refine z_aload_n C dX8_lump_245 rfl (q := 4) rfl ?_
                  refine zg_X8_made C (k := 300) (hL _ (by unfold live; omega)) (by rfl) i8 (by decide +kernel) (k' := 319) (RM_made hM) dX8_lump_246 ?_
                  refine z_iload C dX8_lump_249 (q := 0) rfl ?_
                  refine z_iconst C dX8_lump_251 (v := 5) (by decide) ?_
                  refine z_iadd C dX8_lump_252 (v := nI ((6 * nk) + 5)) (nI_add (6 * nk) 5) ?_
                  refine z_iaload C (k := 319) (hL _ (by unfold live; omega)) (by rfl) (j := ((6 * nk) + 5)) rfl (by rw [show ln 319 = 240 from rfl]; omega) (by rw [show ln 319 = 240 from rfl]; decide) (v := nI ((le * nn d 5 0) - (((le * nn d 5 0) - 2 * nn d 5 1) / nn d 5 2) * nn d 5 2)) (by rw [up2_k _ _ _ _ (by decide), up2_self]) dX8_lump_253 ?_
                  refine z_iadd C dX8_lump_254 (v := nI ((nn d 6 3) + ((le * nn d 5 0) - (((le * nn d 5 0) - 2 * nn d 5 1) / nn d 5 2) * nn d 5 2))) (nI_add (nn d 6 3) ((le * nn d 5 0) - (((le * nn d 5 0) - 2 * nn d 5 1) / nn d 5 2) * nn d 5 2)) ?_
                  refine zp_X8_scrap C (k := 300) (hL _ (by unfold live; omega)) (by rfl) i8 (by decide +kernel) dX8_lump_255 ?_
                  refine z_aload_n C dX8_lump_258 rfl (q := 4) rfl ?_
                  refine z_dup C dX8_lump_259 rfl ?_
                  refine zg_X8_lumps C (k := 300) (hL _ (by unfold live; omega)) (by rfl) i8 (by decide +kernel) (v := nI nk) (by rw [up2_i _ _ _ _ (by decide), up2_i _ _ _ _ (by decide), up2_k _ _ _ _ (by decide), up2_k _ _ _ _ (by decide), up2_k _ _ _ _ (by decide), up2_k _ _ _ _ (by decide), up2_k _ _ _ _ (by decide), up2_k _ _ _ _ (by decide)]; exact LK_nk hK) dX8_lump_260 ?_
                  refine z_iconst C dX8_lump_263 (v := 1) (by decide) ?_
                  refine z_iadd C dX8_lump_264 (v := nI (nk + 1)) (nI_add nk 1) ?_
                  refine zp_X8_lumps C (k := 300) (hL _ (by unfold live; omega)) (by rfl) i8 (by decide +kernel) dX8_lump_265 ?_
                  refine z_iload C dX8_lump_268 (q := 1) rfl ?_
                  exact z_iret C rfl (Nat.le_refl _) (Nat.le_refl _) dX8_lump_270 ⟨_, rfl, Or.inr (Or.inr (Or.inr ⟨by omega, by rw [uw]; exact e78, by omega, by rw [ule], by rw [ule]⟩))⟩
                · have q120 := iv_nle (nI_toInt (by omega)) (nI_toInt (by omega)) h120
                  refine z_iload C dX8_lump_123 (q := 0) rfl ?_
                  refine z_iconst C dX8_lump_125 (v := 2) (by decide) ?_
                  refine z_aload_n C dX8_lump_126 rfl (q := 2) rfl ?_
                  refine zg_X8_told C (k := 300) (hL _ (by unfold live; omega)) (by rfl) i8 (by decide +kernel) (k' := 301) (RM_told hM) dX8_lump_127 ?_
                  refine z_iconst C dX8_lump_130 (v := 1) (by decide) ?_
                  refine z_iaload C (k := 301) (hL _ (by unfold live; omega)) (by rfl) (j := 1) (by decide) (by rw [show ln 301 = 4 from rfl]; omega) (by rw [show ln 301 = 4 from rfl]; decide) (v := nI (nn d 5 1)) ((LK_told hK (by decide)).trans (CI_set hI).2.1.1) dX8_lump_131 ?_
                  refine z_imul C dX8_lump_132 (v := nI (2 * (nn d 5 1))) (pk_mul 2 (nn d 5 1)) ?_
                  refine z_isub C dX8_lump_133 (v := nI ((le * nn d 5 0) - 2 * nn d 5 1)) (pk_sub (by omega)) ?_
                  refine z_aload_n C dX8_lump_134 rfl (q := 2) rfl ?_
                  refine zg_X8_told C (k := 300) (hL _ (by unfold live; omega)) (by rfl) i8 (by decide +kernel) (k' := 301) (RM_told hM) dX8_lump_135 ?_
                  refine z_iconst C dX8_lump_138 (v := 2) (by decide) ?_
                  refine z_iaload C (k := 301) (hL _ (by unfold live; omega)) (by rfl) (j := 2) (by decide) (by rw [show ln 301 = 4 from rfl]; omega) (by rw [show ln 301 = 4 from rfl]; decide) (v := nI (nn d 5 2)) ((LK_told hK (by decide)).trans (CI_set hI).2.2.1.1) dX8_lump_139 ?_
                  refine z_idiv C dX8_lump_140 (nI_ne0 (by omega) (by omega)) (v := nI (((le * nn d 5 0) - 2 * nn d 5 1) / nn d 5 2)) (pk_div (by omega) (by omega) (by omega)) ?_
                  refine z_goto C dX8_lump_141 (tgt := 145) (by decide) ?_
                  refine z_istore C dX8_lump_145 (by decide) (lv' := [(7, Value.int (nI (((le * nn d 5 0) - 2 * nn d 5 1) / nn d 5 2))), (6, Value.int (nI (le * (nn d 5 0)))), (5, Value.int (nI (latestC d nk))), (0, Value.ref (a 300)), (1, Value.int (nI w)), (2, Value.int hand), (3, Value.int day), (4, Value.int (nI le))]) rfl ?_
                  have hdm : (((le * nn d 5 0) - 2 * nn d 5 1) / nn d 5 2) * nn d 5 2 ≤ (le * nn d 5 0) - 2 * nn d 5 1 := Nat.div_mul_le_self _ _
                  refine z_bipush C dX8_lump_147 (v := 6) (by decide) ?_
                  refine z_aload_n C dX8_lump_149 rfl (q := 3) rfl ?_
                  refine zg_X8_lumps C (k := 300) (hL _ (by unfold live; omega)) (by rfl) i8 (by decide +kernel) (v := nI nk) (LK_nk hK) dX8_lump_150 ?_
                  refine z_imul C dX8_lump_153 (v := nI (6 * nk)) (pk_mul 6 nk) ?_
                  refine z_istore C dX8_lump_154 (by decide) (lv' := [(8, Value.int (nI (6 * nk))), (7, Value.int (nI (((le * nn d 5 0) - 2 * nn d 5 1) / nn d 5 2))), (6, Value.int (nI (le * (nn d 5 0)))), (5, Value.int (nI (latestC d nk))), (0, Value.ref (a 300)), (1, Value.int (nI w)), (2, Value.int hand), (3, Value.int day), (4, Value.int (nI le))]) rfl ?_
                  refine z_aload_n C dX8_lump_156 rfl (q := 4) rfl ?_
                  refine zg_X8_made C (k := 300) (hL _ (by unfold live; omega)) (by rfl) i8 (by decide +kernel) (k' := 319) (RM_made hM) dX8_lump_157 ?_
                  refine z_iload C dX8_lump_160 (q := 0) rfl ?_
                  refine z_iload_n C dX8_lump_162 rfl (q := 5) rfl ?_
                  refine z_iastore C (k := 319) (hL _ (by unfold live; omega)) (by rfl) (j := (6 * nk)) rfl (by rw [show ln 319 = 240 from rfl]; omega) (by rw [show ln 319 = 240 from rfl]; decide) dX8_lump_163 ?_
                  refine z_aload_n C dX8_lump_164 rfl (q := 4) rfl ?_
                  refine zg_X8_made C (k := 300) (hL _ (by unfold live; omega)) (by rfl) i8 (by decide +kernel) (k' := 319) (RM_made hM) dX8_lump_165 ?_
                  refine z_iload C dX8_lump_168 (q := 0) rfl ?_
                  refine z_iconst C dX8_lump_170 (v := 1) (by decide) ?_
                  refine z_iadd C dX8_lump_171 (v := nI ((6 * nk) + 1)) (nI_add (6 * nk) 1) ?_
                  refine z_iload_n C dX8_lump_172 rfl (q := 6) rfl ?_
                  refine z_iastore C (k := 319) (hL _ (by unfold live; omega)) (by rfl) (j := ((6 * nk) + 1)) rfl (by rw [show ln 319 = 240 from rfl]; omega) (by rw [show ln 319 = 240 from rfl]; decide) dX8_lump_173 ?_
                  refine z_aload_n C dX8_lump_174 rfl (q := 4) rfl ?_
                  refine zg_X8_made C (k := 300) (hL _ (by unfold live; omega)) (by rfl) i8 (by decide +kernel) (k' := 319) (RM_made hM) dX8_lump_175 ?_
                  refine z_iload C dX8_lump_178 (q := 0) rfl ?_
                  refine z_iconst C dX8_lump_180 (v := 2) (by decide) ?_
                  refine z_iadd C dX8_lump_181 (v := nI ((6 * nk) + 2)) (nI_add (6 * nk) 2) ?_
                  refine z_iload_n C dX8_lump_182 rfl (q := 7) rfl ?_
                  refine z_iastore C (k := 319) (hL _ (by unfold live; omega)) (by rfl) (j := ((6 * nk) + 2)) rfl (by rw [show ln 319 = 240 from rfl]; omega) (by rw [show ln 319 = 240 from rfl]; decide) dX8_lump_183 ?_
                  refine z_aload_n C dX8_lump_184 rfl (q := 4) rfl ?_
                  refine zg_X8_made C (k := 300) (hL _ (by unfold live; omega)) (by rfl) i8 (by decide +kernel) (k' := 319) (RM_made hM) dX8_lump_185 ?_
                  refine z_iload C dX8_lump_188 (q := 0) rfl ?_
                  refine z_iconst C dX8_lump_190 (v := 3) (by decide) ?_
                  refine z_iadd C dX8_lump_191 (v := nI ((6 * nk) + 3)) (nI_add (6 * nk) 3) ?_
                  refine z_aload_n C dX8_lump_192 rfl (q := 4) rfl ?_
                  refine zg_X8_sticks C (k := 300) (hL _ (by unfold live; omega)) (by rfl) i8 (by decide +kernel) (v := nI (nn d 6 2)) (by rw [up2_k _ _ _ _ (by decide), up2_k _ _ _ _ (by decide), up2_k _ _ _ _ (by decide)]; exact LK_st hK hI) dX8_lump_193 ?_
                  refine z_iastore C (k := 319) (hL _ (by unfold live; omega)) (by rfl) (j := ((6 * nk) + 3)) rfl (by rw [show ln 319 = 240 from rfl]; omega) (by rw [show ln 319 = 240 from rfl]; decide) dX8_lump_196 ?_
                  refine z_aload_n C dX8_lump_197 rfl (q := 4) rfl ?_
                  refine zg_X8_made C (k := 300) (hL _ (by unfold live; omega)) (by rfl) i8 (by decide +kernel) (k' := 319) (RM_made hM) dX8_lump_198 ?_
                  refine z_iload C dX8_lump_201 (q := 0) rfl ?_
                  refine z_iconst C dX8_lump_203 (v := 4) (by decide) ?_
                  refine z_iadd C dX8_lump_204 (v := nI ((6 * nk) + 4)) (nI_add (6 * nk) 4) ?_
                  refine z_iload C dX8_lump_205 (q := 1) rfl ?_
                  refine z_iastore C (k := 319) (hL _ (by unfold live; omega)) (by rfl) (j := ((6 * nk) + 4)) rfl (by rw [show ln 319 = 240 from rfl]; omega) (by rw [show ln 319 = 240 from rfl]; decide) dX8_lump_207 ?_
                  refine z_aload_n C dX8_lump_208 rfl (q := 4) rfl ?_
                  refine zg_X8_made C (k := 300) (hL _ (by unfold live; omega)) (by rfl) i8 (by decide +kernel) (k' := 319) (RM_made hM) dX8_lump_209 ?_
                  refine z_iload C dX8_lump_212 (q := 0) rfl ?_
                  refine z_iconst C dX8_lump_214 (v := 5) (by decide) ?_
                  refine z_iadd C dX8_lump_215 (v := nI ((6 * nk) + 5)) (nI_add (6 * nk) 5) ?_
                  refine z_iload C dX8_lump_216 (q := 2) rfl ?_
                  refine z_iload C dX8_lump_218 (q := 1) rfl ?_
                  refine z_aload_n C dX8_lump_220 rfl (q := 4) rfl ?_
                  refine zg_X8_told C (k := 300) (hL _ (by unfold live; omega)) (by rfl) i8 (by decide +kernel) (k' := 301) (RM_told hM) dX8_lump_221 ?_
                  refine z_iconst C dX8_lump_224 (v := 2) (by decide) ?_
                  refine z_iaload C (k := 301) (hL _ (by unfold live; omega)) (by rfl) (j := 2) (by decide) (by rw [show ln 301 = 4 from rfl]; omega) (by rw [show ln 301 = 4 from rfl]; decide) (v := nI (nn d 5 2)) (by rw [up2_k _ _ _ _ (by decide), up2_k _ _ _ _ (by decide), up2_k _ _ _ _ (by decide), up2_k _ _ _ _ (by decide), up2_k _ _ _ _ (by decide)]; exact (LK_told hK (by decide)).trans (CI_set hI).2.2.1.1) dX8_lump_225 ?_
                  refine z_imul C dX8_lump_226 (v := nI ((((le * nn d 5 0) - 2 * nn d 5 1) / nn d 5 2) * (nn d 5 2))) (pk_mul (((le * nn d 5 0) - 2 * nn d 5 1) / nn d 5 2) (nn d 5 2)) ?_
                  refine z_isub C dX8_lump_227 (v := nI ((le * nn d 5 0) - (((le * nn d 5 0) - 2 * nn d 5 1) / nn d 5 2) * nn d 5 2)) (pk_sub (by omega)) ?_
                  refine z_iastore C (k := 319) (hL _ (by unfold live; omega)) (by rfl) (j := ((6 * nk) + 5)) rfl (by rw [show ln 319 = 240 from rfl]; omega) (by rw [show ln 319 = 240 from rfl]; decide) dX8_lump_228 ?_
                  refine z_aload_n C dX8_lump_229 rfl (q := 4) rfl ?_
                  refine z_dup C dX8_lump_230 rfl ?_
                  refine zg_X8_sticks C (k := 300) (hL _ (by unfold live; omega)) (by rfl) i8 (by decide +kernel) (v := nI (nn d 6 2)) (by rw [up2_k _ _ _ _ (by decide), up2_k _ _ _ _ (by decide), up2_k _ _ _ _ (by decide), up2_k _ _ _ _ (by decide), up2_k _ _ _ _ (by decide), up2_k _ _ _ _ (by decide)]; exact LK_st hK hI) dX8_lump_231 ?_
                  refine z_iload C dX8_lump_234 (q := 1) rfl ?_
                  refine z_iadd C dX8_lump_236 (v := nI ((nn d 6 2) + (((le * nn d 5 0) - 2 * nn d 5 1) / nn d 5 2))) (nI_add (nn d 6 2) (((le * nn d 5 0) - 2 * nn d 5 1) / nn d 5 2)) ?_
                  refine zp_X8_sticks C (k := 300) (hL _ (by unfold live; omega)) (by rfl) i8 (by decide +kernel) dX8_lump_237 ?_
                  refine z_aload_n C dX8_lump_240 rfl (q := 4) rfl ?_
                  refine z_dup C dX8_lump_241 rfl ?_
                  refine zg_X8_scrap C (k := 300) (hL _ (by unfold live; omega)) (by rfl) i8 (by decide +kernel) (v := nI (nn d 6 3)) (by rw [up2_i _ _ _ _ (by decide), up2_k _ _ _ _ (by decide), up2_k _ _ _ _ (by decide), up2_k _ _ _ _ (by decide), up2_k _ _ _ _ (by decide), up2_k _ _ _ _ (by decide), up2_k _ _ _ _ (by decide)]; exact LK_sc hK hI) dX8_lump_242 ?_
                  refine z_aload_n C dX8_lump_245 rfl (q := 4) rfl ?_
                  refine zg_X8_made C (k := 300) (hL _ (by unfold live; omega)) (by rfl) i8 (by decide +kernel) (k' := 319) (RM_made hM) dX8_lump_246 ?_
                  refine z_iload C dX8_lump_249 (q := 0) rfl ?_
                  refine z_iconst C dX8_lump_251 (v := 5) (by decide) ?_
                  refine z_iadd C dX8_lump_252 (v := nI ((6 * nk) + 5)) (nI_add (6 * nk) 5) ?_
                  refine z_iaload C (k := 319) (hL _ (by unfold live; omega)) (by rfl) (j := ((6 * nk) + 5)) rfl (by rw [show ln 319 = 240 from rfl]; omega) (by rw [show ln 319 = 240 from rfl]; decide) (v := nI ((le * nn d 5 0) - (((le * nn d 5 0) - 2 * nn d 5 1) / nn d 5 2) * nn d 5 2)) (by rw [up2_k _ _ _ _ (by decide), up2_self]) dX8_lump_253 ?_
                  refine z_iadd C dX8_lump_254 (v := nI ((nn d 6 3) + ((le * nn d 5 0) - (((le * nn d 5 0) - 2 * nn d 5 1) / nn d 5 2) * nn d 5 2))) (nI_add (nn d 6 3) ((le * nn d 5 0) - (((le * nn d 5 0) - 2 * nn d 5 1) / nn d 5 2) * nn d 5 2)) ?_
                  refine zp_X8_scrap C (k := 300) (hL _ (by unfold live; omega)) (by rfl) i8 (by decide +kernel) dX8_lump_255 ?_
                  refine z_aload_n C dX8_lump_258 rfl (q := 4) rfl ?_
                  refine z_dup C dX8_lump_259 rfl ?_
                  refine zg_X8_lumps C (k := 300) (hL _ (by unfold live; omega)) (by rfl) i8 (by decide +kernel) (v := nI nk) (by rw [up2_i _ _ _ _ (by decide), up2_i _ _ _ _ (by decide), up2_k _ _ _ _ (by decide), up2_k _ _ _ _ (by decide), up2_k _ _ _ _ (by decide), up2_k _ _ _ _ (by decide), up2_k _ _ _ _ (by decide), up2_k _ _ _ _ (by decide)]; exact LK_nk hK) dX8_lump_260 ?_
                  refine z_iconst C dX8_lump_263 (v := 1) (by decide) ?_
                  refine z_iadd C dX8_lump_264 (v := nI (nk + 1)) (nI_add nk 1) ?_
                  refine zp_X8_lumps C (k := 300) (hL _ (by unfold live; omega)) (by rfl) i8 (by decide +kernel) dX8_lump_265 ?_
                  refine z_iload C dX8_lump_268 (q := 1) rfl ?_
                  exact z_iret C rfl (Nat.le_refl _) (Nat.le_refl _) dX8_lump_270 ⟨_, rfl, Or.inr (Or.inr (Or.inr ⟨by omega, by rw [uw]; exact e78, by omega, by rw [ule], by rw [ule]⟩))⟩
              · have q93 := iv_eq (nI_toInt (by omega)) (show (40 : Int32).toInt = 40 from by decide) h93
                refine z_bipush C dX8_lump_96 (v := -4) (by decide) ?_
                exact z_iret C rfl (Nat.le_refl _) (Nat.le_refl _) dX8_lump_98 ⟨_, rfl, Or.inr (Or.inr (Or.inl ⟨by omega, by rw [uw]; exact e78, by omega, rfl, rfl⟩))⟩
            · refine z_if_ne C dX8_lump_81 (tgt := 87) (by decide) (fun h81 => absurd h81 (by decide)) (fun h81 => ?_)
              refine z_bipush C dX8_lump_84 (v := -3) (by decide) ?_
              exact z_iret C rfl (Nat.le_refl _) (Nat.le_refl _) dX8_lump_86 ⟨_, rfl, Or.inr (Or.inl ⟨by omega, by rw [uw]; exact e78, rfl, rfl⟩)⟩
          · refine z_if_ne C dX8_lump_70 (tgt := 76) (by decide) (fun h70 => absurd h70 (by decide)) (fun h70 => ?_)
            refine z_bipush C dX8_lump_73 (v := -2) (by decide) ?_
            exact z_iret C rfl (Nat.le_refl _) (Nat.le_refl _) dX8_lump_75 ⟨_, rfl, Or.inl ⟨by omega, rfl, rfl⟩⟩
        · refine z_if_eq C dX8_lump_57 (tgt := 73) (by decide) (fun h57 => ?_) (fun h57 => absurd h57 (by decide))
          refine z_bipush C dX8_lump_73 (v := -2) (by decide) ?_
          exact z_iret C rfl (Nat.le_refl _) (Nat.le_refl _) dX8_lump_75 ⟨_, rfl, Or.inl ⟨by omega, rfl, rfl⟩⟩
      · refine z_if_eq C dX8_lump_43 (tgt := 73) (by decide) (fun h43 => ?_) (fun h43 => absurd h43 (by decide))
        refine z_bipush C dX8_lump_73 (v := -2) (by decide) ?_
        exact z_iret C rfl (Nat.le_refl _) (Nat.le_refl _) dX8_lump_75 ⟨_, rfl, Or.inl ⟨by omega, rfl, rfl⟩⟩
    · refine z_if_eq C dX8_lump_31 (tgt := 73) (by decide) (fun h31 => ?_) (fun h31 => absurd h31 (by decide))
      refine z_bipush C dX8_lump_73 (v := -2) (by decide) ?_
      exact z_iret C rfl (Nat.le_refl _) (Nat.le_refl _) dX8_lump_75 ⟨_, rfl, Or.inl ⟨by omega, rfl, rfl⟩⟩
