theorem zf_0 (c : Nat → Nat → Int32) (k b : Nat) (v : Int32) : up1 c k (fun q => if b ≤ q ∧ q < b + 0 then v else c k q) = c := by
  funext k' q; unfold up1; split
  · rename_i h; subst h; exact if_neg (by omega)
  · rfl
theorem zf_step (c : Nat → Nat → Int32) (k b i : Nat) (v : Int32) : up2 (up1 c k (fun q => if b ≤ q ∧ q < b + i then v else c k q)) k (b + i) v = up1 c k (fun q => if b ≤ q ∧ q < b + (i + 1) then v else c k q) := by
  funext k' q; unfold up2 up1
  by_cases hk : k' = k
  · subst hk
    simp only [if_true]
    by_cases hq : q = b + i
    · subst hq; rw [if_pos rfl, if_pos (by omega)]
    · rw [if_neg hq]
      by_cases h2 : b ≤ q ∧ q < b + i
      · rw [if_pos h2, if_pos (by omega)]
      · rw [if_neg h2, if_neg (by omega)]
  · simp [hk]

set_option maxHeartbeats 4000000 in
set_option maxRecDepth 100000 in
theorem c_X8_sheet (l : Launch) (D : va_G) (cy : Nat → ClassId) (a : Nat → Nat) (L : List Nat) (c : Nat → Nat → Int32) (g : Nat → Nat → Int64) (r : Nat → Nat → Option Nat) (nl nk : Nat) (hL : zLv L nl nk) (hM : RM r) (d : Nat → Nat → Int32) (hI : CI d nl nk) (x : Nat → Nat → Nat) (hX : XL d nl x) (hK : LK d c nl nk x) (sheet form n : Int32) : zCI l yX8_sheet wsX8_sheet { frames := 2, cells := 0, slots := 0, locals := 45 } D cy a L c g r [Value.ref (a 300), Value.int sheet, Value.int form, Value.int n] (fun v c' => (¬ ((0 ≤ sheet.toInt ∧ sheet.toInt ≤ 3) ∧ (0 ≤ form.toInt ∧ form.toInt ≤ 2) ∧ n.toInt ≤ 60) ∧ v = -2 ∧ c' = c) ∨ (((0 ≤ sheet.toInt ∧ sheet.toInt ≤ 3) ∧ (0 ≤ form.toInt ∧ form.toInt ≤ 2) ∧ n.toInt ≤ 60) ∧ n.toInt < 0 ∧ v = -15 ∧ c' = up2 c 300 27 5) ∨ (((0 ≤ sheet.toInt ∧ sheet.toInt ≤ 3) ∧ (0 ≤ form.toInt ∧ form.toInt ≤ 2) ∧ n.toInt ≤ 60) ∧ 0 ≤ n.toInt ∧ v = n ∧ c' = up1 (up2 (up2 c 324 (tn sheet) form) 325 (tn sheet) n) 326 (fun q => if 60 * tn sheet ≤ q ∧ q < 60 * tn sheet + tn n then nI 0 else (up2 (up2 c 324 (tn sheet) form) 325 (tn sheet) n) 326 q))) := by
  refine z_enter cX8_sheet 5 (some .int) (by decide) (Nat.le_of_ble_eq_true rfl) ?_
  intro p e s m below meth co C hin
  have C : zC p s m _ meth co D cy _ cX8_sheet 5 (some .int) wsX8_sheet RX8 := C
  have i8 : ∀ w ∈ wsX80, w ∈ wsX8_sheet := by decide +kernel
  refine z_iload_n C dX8_sheet_0 rfl (q := 1) rfl ?_
  refine z_pI C (z_runS C (As := [Value.int sheet]) (rest := []) (c_X8_isSheet l D cy a L c g r sheet) (va_cwS 1 C.2.2.2.2.2.1 gX8_sheet_X8_isSheet rfl rfl rfl (by decide +kernel) ⟨Nat.le_of_ble_eq_true rfl, Nat.le_of_ble_eq_true rfl⟩) rfl rfl (Nat.le_of_ble_eq_true rfl) dX8_sheet_1 ⟨Nat.zero_le _, Nat.zero_le _⟩) (fun v1 e1 => ?_)
  rcases e1 with ⟨rfl, e1⟩ | ⟨rfl, e1⟩
  · obtain ⟨sh, hsh, rfl⟩ := arg_nI (b := 3) e1
    have tsh := nI_toInt (n := sh) (by omega)
    have ush := tn_nI (j := sh) (by omega)
    refine z_if_eq C dX8_sheet_4 (tgt := 25) (by decide) (fun h4 => absurd h4 (by decide)) (fun h4 => ?_)
    refine z_iload_n C dX8_sheet_7 rfl (q := 2) rfl ?_
    refine z_i2l C dX8_sheet_8 (v := form.toInt64) rfl ?_
    refine z_lconst C dX8_sheet_9 (v := 0) (by decide) ?_
    refine z_ldc2 C dX8_sheet_10 (v := 2) (by decide +kernel) ?_
    refine z_pI C (z_runS C (As := [Value.long (form.toInt64), Value.long 0, Value.long 2]) (rest := []) (c_X8_in l D cy a L c g r form.toInt64 0 2 (V := form.toInt) (LO := 0) (HI := 2) (tL rfl) (show (0 : Int64).toInt = 0 from by decide) (show (2 : Int64).toInt = 2 from by decide)) (va_cwS 3 C.2.2.2.2.2.1 gX8_sheet_X8_in rfl rfl rfl (by decide +kernel) ⟨Nat.le_of_ble_eq_true rfl, Nat.le_of_ble_eq_true rfl⟩) rfl rfl (Nat.le_of_ble_eq_true rfl) dX8_sheet_13 ⟨Nat.zero_le _, Nat.zero_le _⟩) (fun v13 e13 => ?_)
    rcases e13 with ⟨rfl, e13⟩ | ⟨rfl, e13⟩
    · obtain ⟨fo, hfo, rfl⟩ := arg_nI (b := 2) e13
      have tfo := nI_toInt (n := fo) (by omega)
      have ufo := tn_nI (j := fo) (by omega)
      refine z_if_eq C dX8_sheet_16 (tgt := 25) (by decide) (fun h16 => absurd h16 (by decide)) (fun h16 => ?_)
      refine z_iload_n C dX8_sheet_19 rfl (q := 3) rfl ?_
      refine z_bipush C dX8_sheet_20 (v := 60) (by decide) ?_
      refine z_icmp_le C dX8_sheet_22 (tgt := 28) (by decide) (fun h22 => ?_) (fun h22 => ?_)
      · have q22 := iv_le rfl (show (60 : Int32).toInt = 60 from by decide) h22
        refine z_iload_n C dX8_sheet_28 rfl (q := 3) rfl ?_
        refine z_if_ge C dX8_sheet_29 (tgt := 38) (by decide) (fun h29 => ?_) (fun h29 => ?_)
        · have q29 := iv_le (show (0 : Int32).toInt = 0 from by decide) rfl h29
          obtain ⟨n1, hn1, rfl⟩ := arg_nI (b := 60) ⟨q29, q22⟩
          have tn1 := nI_toInt (n := n1) (by omega)
          have un1 := tn_nI (j := n1) (by omega)
          refine z_aload_n C dX8_sheet_38 rfl (q := 0) rfl ?_
          refine zg_X8_forms C (k := 300) (hL _ (by unfold live; omega)) (by rfl) i8 (by decide +kernel) (k' := 324) (RM_forms hM) dX8_sheet_39 ?_
          refine z_iload_n C dX8_sheet_42 rfl (q := 1) rfl ?_
          refine z_iload_n C dX8_sheet_43 rfl (q := 2) rfl ?_
          refine z_iastore C (k := 324) (hL _ (by unfold live; omega)) (by rfl) (j := sh) rfl (by rw [show ln 324 = 4 from rfl]; omega) (by rw [show ln 324 = 4 from rfl]; decide) dX8_sheet_44 ?_
          refine z_aload_n C dX8_sheet_45 rfl (q := 0) rfl ?_
          refine zg_X8_sizes C (k := 300) (hL _ (by unfold live; omega)) (by rfl) i8 (by decide +kernel) (k' := 325) (RM_sizes hM) dX8_sheet_46 ?_
          refine z_iload_n C dX8_sheet_49 rfl (q := 1) rfl ?_
          refine z_iload_n C dX8_sheet_50 rfl (q := 3) rfl ?_
          refine z_iastore C (k := 325) (hL _ (by unfold live; omega)) (by rfl) (j := sh) rfl (by rw [show ln 325 = 4 from rfl]; omega) (by rw [show ln 325 = 4 from rfl]; decide) dX8_sheet_51 ?_
          refine z_iconst C dX8_sheet_52 (v := nI 0) (by decide) ?_
          refine z_istore C dX8_sheet_53 (by decide) (lv' := [(4, Value.int (nI 0)), (0, Value.ref (a 300)), (1, Value.int (nI sh)), (2, Value.int (nI fo)), (3, Value.int (nI n1))]) rfl ?_
          refine z_ceq (zf_0 (up2 (up2 c 324 sh (nI fo)) 325 sh (nI n1)) 326 (60 * sh) (nI 0)) ?_
          refine z_for 0 n1 (Nat.zero_le _) (fun i => [(4, Value.int (nI i)), (0, Value.ref (a 300)), (1, Value.int (nI sh)), (2, Value.int (nI fo)), (3, Value.int (nI n1))]) (fun i => up1 (up2 (up2 c 324 sh (nI fo)) 325 sh (nI n1)) 326 (fun q => if 60 * sh ≤ q ∧ q < 60 * sh + i then nI 0 else (up2 (up2 c 324 sh (nI fo)) 325 sh (nI n1)) 326 q)) (fun i => g) ?_ ?_
          · refine z_iload C dX8_sheet_55 (q := 0) rfl ?_
            refine z_iload_n C dX8_sheet_57 rfl (q := 4) rfl ?_
            refine z_icmp_ge C dX8_sheet_58 (tgt := 80) (by decide) (fun h58 => ?_) (fun h58 => absurd (Int32.le_refl _) h58)
            refine z_iload_n C dX8_sheet_80 rfl (q := 4) rfl ?_
            exact z_iret C rfl (Nat.le_refl _) (Nat.le_refl _) dX8_sheet_81 ⟨_, rfl, Or.inr (Or.inr ⟨by omega, by omega, rfl, by rw [ush, un1]⟩)⟩
          · intro i hli hi ihi
            refine z_iload C dX8_sheet_55 (q := 0) rfl ?_
            refine z_iload_n C dX8_sheet_57 rfl (q := 4) rfl ?_
            refine z_icmp_ge C dX8_sheet_58 (tgt := 80) (by decide) (fun h58 => absurd h58 (nI_ge hi (by omega))) (fun h58 => ?_)
            refine z_aload_n C dX8_sheet_61 rfl (q := 1) rfl ?_
            refine zg_X8_items C (k := 300) (hL _ (by unfold live; omega)) (by rfl) i8 (by decide +kernel) (k' := 326) (RM_items hM) dX8_sheet_62 ?_
            refine z_bipush C dX8_sheet_65 (v := 60) (by decide) ?_
            refine z_iload_n C dX8_sheet_67 rfl (q := 2) rfl ?_
            refine z_imul C dX8_sheet_68 (v := nI (60 * sh)) (pk_mul 60 sh) ?_
            refine z_iload C dX8_sheet_69 (q := 0) rfl ?_
            refine z_iadd C dX8_sheet_71 (v := nI ((60 * sh) + i)) (nI_add (60 * sh) i) ?_
            refine z_iconst C dX8_sheet_72 (v := nI 0) (by decide) ?_
            refine z_iastore C (k := 326) (hL _ (by unfold live; omega)) (by rfl) (j := ((60 * sh) + i)) rfl (by rw [show ln 326 = 240 from rfl]; omega) (by rw [show ln 326 = 240 from rfl]; decide) dX8_sheet_73 ?_
            refine z_iinc C dX8_sheet_74 (q := 0) rfl (v := nI (i + 1)) (nI_1 _) (by decide) (lv' := [(4, Value.int (nI (i + 1))), (0, Value.ref (a 300)), (1, Value.int (nI sh)), (2, Value.int (nI fo)), (3, Value.int (nI n1))]) rfl ?_
            refine z_goto C dX8_sheet_77 (tgt := 55) (by decide) ?_
            refine z_ceq (zf_step (up2 (up2 c 324 sh (nI fo)) 325 sh (nI n1)) 326 (60 * sh) i (nI 0)).symm ?_
            exact ihi
        · have q29 := iv_nle (show (0 : Int32).toInt = 0 from by decide) rfl h29
          refine z_aload_n C dX8_sheet_32 rfl (q := 0) rfl ?_
          refine z_iconst C dX8_sheet_33 (v := 5) (by decide) ?_
          refine z_cI C (z_runV C (As := [Value.int 5]) (rest := []) (c_X8_met l D cy a L c g r nl nk hL 5) (cwV 1 C.2.2.2.2.2.1 gX8_sheet_X8_met rfl rfl rfl (by decide +kernel) ⟨Nat.le_of_ble_eq_true rfl, Nat.le_of_ble_eq_true rfl⟩) (hL _ (by unfold live; omega)) (zF_k8 (by rfl)) rfl rfl rfl rfl (Nat.le_of_ble_eq_true rfl) dX8_sheet_34 ⟨Nat.zero_le _, Nat.zero_le _⟩) (fun v34 c34 e34 => ?_)
          obtain ⟨rfl, rfl⟩ := e34
          exact z_iret C rfl (Nat.le_refl _) (Nat.le_refl _) dX8_sheet_37 ⟨_, rfl, Or.inr (Or.inl ⟨by omega, by omega, by decide, rfl⟩)⟩
      · have q22 := iv_nle rfl (show (60 : Int32).toInt = 60 from by decide) h22
        refine z_bipush C dX8_sheet_25 (v := -2) (by decide) ?_
        exact z_iret C rfl (Nat.le_refl _) (Nat.le_refl _) dX8_sheet_27 ⟨_, rfl, Or.inl ⟨by omega, rfl, rfl⟩⟩
    · refine z_if_eq C dX8_sheet_16 (tgt := 25) (by decide) (fun h16 => ?_) (fun h16 => absurd h16 (by decide))
      refine z_bipush C dX8_sheet_25 (v := -2) (by decide) ?_
      exact z_iret C rfl (Nat.le_refl _) (Nat.le_refl _) dX8_sheet_27 ⟨_, rfl, Or.inl ⟨by omega, rfl, rfl⟩⟩
  · refine z_if_eq C dX8_sheet_4 (tgt := 25) (by decide) (fun h4 => ?_) (fun h4 => absurd h4 (by decide))
    refine z_bipush C dX8_sheet_25 (v := -2) (by decide) ?_
    exact z_iret C rfl (Nat.le_refl _) (Nat.le_refl _) dX8_sheet_27 ⟨_, rfl, Or.inl ⟨by omega, rfl, rfl⟩⟩

set_option maxHeartbeats 4000000 in
set_option maxRecDepth 100000 in
theorem c_X8_count (l : Launch) (D : va_G) (cy : Nat → ClassId) (a : Nat → Nat) (L : List Nat) (c : Nat → Nat → Int32) (g : Nat → Nat → Int64) (r : Nat → Nat → Option Nat) (nl nk : Nat) (hL : zLv L nl nk) (hM : RM r) (d : Nat → Nat → Int32) (hI : CI d nl nk) (x : Nat → Nat → Nat) (hX : XL d nl x) (hK : LK d c nl nk x) (what : Int32) : zPI l yX8_count wsX8_count { frames := 2, cells := 0, slots := 0, locals := 44 } D cy a L c g r [Value.ref (a 300), Value.int what] (fun v => v = countC d x what) := by
  refine z_enter cX8_count 4 (some .int) (by decide) (Nat.le_of_ble_eq_true rfl) ?_
  intro p e s m below meth co C hin
  have C : zC p s m _ meth co D cy _ cX8_count 4 (some .int) wsX8_count RX8 := C
  have i8 : ∀ w ∈ wsX80, w ∈ wsX8_count := by decide +kernel
  refine z_iconst C dX8_count_0 (v := nI 0) (by decide) ?_
  refine z_istore_n C dX8_count_1 rfl (by decide) (lv' := [(2, Value.int (nI 0)), (0, Value.ref (a 300)), (1, Value.int what)]) rfl ?_
  refine z_iload_n C dX8_count_2 rfl (q := 2) rfl ?_
  by_cases hs0 : what.toInt = 0
  · refine z_tableIn C dX8_count_3 (off := 49) (tgt := 52) (by omega) (by omega) (by rw [hs0]; rfl) (by decide) ?_
    refine z_aload_n C dX8_count_52 rfl (q := 1) rfl ?_
    refine zg_X8_letters C (k := 300) (hL _ (by unfold live; omega)) (by rfl) i8 (by decide +kernel) (v := nI nl) (LK_nl hK) dX8_count_53 ?_
    exact z_iret C rfl (Nat.le_refl _) (Nat.le_refl _) dX8_count_56 ⟨rfl, by rw [countC, if_pos (by omega)]; exact (CI_nl hI).symm⟩
  · skip
    by_cases hs1 : what.toInt = 1
    · refine z_tableIn C dX8_count_3 (off := 54) (tgt := 57) (by omega) (by omega) (by rw [hs1]; rfl) (by decide) ?_
      refine z_iconst C dX8_count_57 (v := nI 0) (by decide) ?_
      refine z_istore_n C dX8_count_58 rfl (by decide) (lv' := [(3, Value.int (nI 0)), (2, Value.int (nI 0)), (0, Value.ref (a 300)), (1, Value.int what)]) rfl ?_
      refine z_for 0 8 (Nat.zero_le _) (fun w => [(3, Value.int (nI w)), (2, Value.int (nI (fitsC d x w))), (0, Value.ref (a 300)), (1, Value.int what)]) (fun w => c) (fun w => g) ?_ ?_
      · refine z_iload_n C dX8_count_59 rfl (q := 0) rfl ?_
        refine z_bipush C dX8_count_60 (v := nI 8) (by decide) ?_
        refine z_icmp_ge C dX8_count_62 (tgt := 87) (by decide) (fun h62 => ?_) (fun h62 => absurd (Int32.le_refl _) h62)
        refine z_iload_n C dX8_count_87 rfl (q := 1) rfl ?_
        exact z_iret C rfl (Nat.le_refl _) (Nat.le_refl _) dX8_count_88 ⟨rfl, by rw [countC, if_neg (by omega), if_pos (by omega)]⟩
      · intro w hlw hw ihw
        refine z_iload_n C dX8_count_59 rfl (q := 0) rfl ?_
        refine z_bipush C dX8_count_60 (v := nI 8) (by decide) ?_
        refine z_icmp_ge C dX8_count_62 (tgt := 87) (by decide) (fun h62 => absurd h62 (nI_ge hw (by omega))) (fun h62 => ?_)
        refine z_iload_n C dX8_count_65 rfl (q := 1) rfl ?_
        refine z_aload_n C dX8_count_66 rfl (q := 2) rfl ?_
        refine z_iload_n C dX8_count_67 rfl (q := 0) rfl ?_
        refine z_pI C (z_runV C (As := [Value.int (nI w)]) (rest := [Value.int (nI (fitsC d x w))]) (c_X8_fits l D cy a L c g r nl nk hL hM d hI x hX hK w (by omega)) (cwV 1 C.2.2.2.2.2.1 gX8_count_X8_fits rfl rfl rfl (by decide +kernel) ⟨Nat.le_of_ble_eq_true rfl, Nat.le_of_ble_eq_true rfl⟩) (hL _ (by unfold live; omega)) (zF_k8 (by rfl)) rfl rfl rfl rfl (Nat.le_of_ble_eq_true rfl) dX8_count_68 ⟨Nat.zero_le _, Nat.zero_le _⟩) (fun v68 e68 => ?_)
        rcases e68 with ⟨rfl, e68⟩ | ⟨rfl, e68⟩
        · refine z_if_eq C dX8_count_71 (tgt := 78) (by decide) (fun h71 => absurd h71 (by decide)) (fun h71 => ?_)
          refine z_iconst C dX8_count_74 (v := 1) (by decide) ?_
          refine z_goto C dX8_count_75 (tgt := 79) (by decide) ?_
          refine z_iadd C dX8_count_79 (v := nI ((fitsC d x w) + 1)) (nI_add (fitsC d x w) 1) ?_
          refine z_istore_n C dX8_count_80 rfl (by decide) (lv' := [(2, Value.int (nI ((fitsC d x w) + 1))), (3, Value.int (nI w)), (0, Value.ref (a 300)), (1, Value.int what)]) rfl ?_
          refine z_iinc C dX8_count_81 (q := 1) rfl (v := nI (w + 1)) (nI_1 _) (by decide) (lv' := [(3, Value.int (nI (w + 1))), (2, Value.int (nI ((fitsC d x w) + 1))), (0, Value.ref (a 300)), (1, Value.int what)]) rfl ?_
          refine z_goto C dX8_count_84 (tgt := 59) (by decide) ?_
          rw [show fitsC d x (w + 1) = fitsC d x w + 1 from by unfold fitsC; rw [sumF, one_pos (show fitC d x w from e68)]] at ihw
          exact ihw
        · refine z_if_eq C dX8_count_71 (tgt := 78) (by decide) (fun h71 => ?_) (fun h71 => absurd h71 (by decide))
          refine z_iconst C dX8_count_78 (v := 0) (by decide) ?_
          refine z_iadd C dX8_count_79 (v := nI ((fitsC d x w) + 0)) (nI_add (fitsC d x w) 0) ?_
          refine z_istore_n C dX8_count_80 rfl (by decide) (lv' := [(2, Value.int (nI ((fitsC d x w) + 0))), (3, Value.int (nI w)), (0, Value.ref (a 300)), (1, Value.int what)]) rfl ?_
          refine z_iinc C dX8_count_81 (q := 1) rfl (v := nI (w + 1)) (nI_1 _) (by decide) (lv' := [(3, Value.int (nI (w + 1))), (2, Value.int (nI ((fitsC d x w) + 0))), (0, Value.ref (a 300)), (1, Value.int what)]) rfl ?_
          refine z_goto C dX8_count_84 (tgt := 59) (by decide) ?_
          rw [show fitsC d x (w + 1) = fitsC d x w + 0 from by unfold fitsC; rw [sumF, one_neg (show ¬ fitC d x w from e68)]] at ihw
          exact ihw
    · skip
      by_cases hs2 : what.toInt = 2
      · refine z_tableIn C dX8_count_3 (off := 86) (tgt := 89) (by omega) (by omega) (by rw [hs2]; rfl) (by decide) ?_
        refine z_aload_n C dX8_count_89 rfl (q := 1) rfl ?_
        refine zg_X8_slots C (k := 300) (hL _ (by unfold live; omega)) (by rfl) i8 (by decide +kernel) (v := nI (nn d 3 1)) (LK_S hK hI) dX8_count_90 ?_
        exact z_iret C rfl (Nat.le_refl _) (Nat.le_refl _) dX8_count_93 ⟨rfl, by rw [countC, if_neg (by omega), if_neg (by omega), if_pos (by omega)]; exact (CI_S hI).1.symm⟩
      · skip
        by_cases hs3 : what.toInt = 3
        · refine z_tableIn C dX8_count_3 (off := 91) (tgt := 94) (by omega) (by omega) (by rw [hs3]; rfl) (by decide) ?_
          refine z_aload_n C dX8_count_94 rfl (q := 1) rfl ?_
          refine zg_X8_gap C (k := 300) (hL _ (by unfold live; omega)) (by rfl) i8 (by decide +kernel) (v := nI (nn d 3 2)) (LK_G hK hI) dX8_count_95 ?_
          exact z_iret C rfl (Nat.le_refl _) (Nat.le_refl _) dX8_count_98 ⟨rfl, by rw [countC, if_neg (by omega), if_neg (by omega), if_neg (by omega), if_pos (by omega)]; exact (CI_G hI).1.symm⟩
        · skip
          by_cases hs4 : what.toInt = 4
          · refine z_tableIn C dX8_count_3 (off := 96) (tgt := 99) (by omega) (by omega) (by rw [hs4]; rfl) (by decide) ?_
            refine z_aload_n C dX8_count_99 rfl (q := 1) rfl ?_
            refine zg_X8_lumps C (k := 300) (hL _ (by unfold live; omega)) (by rfl) i8 (by decide +kernel) (v := nI nk) (LK_nk hK) dX8_count_100 ?_
            exact z_iret C rfl (Nat.le_refl _) (Nat.le_refl _) dX8_count_103 ⟨rfl, by rw [countC, if_neg (by omega), if_neg (by omega), if_neg (by omega), if_neg (by omega), if_pos (by omega)]; exact (CI_nk hI).symm⟩
          · skip
            by_cases hs5 : what.toInt = 5
            · refine z_tableIn C dX8_count_3 (off := 101) (tgt := 104) (by omega) (by omega) (by rw [hs5]; rfl) (by decide) ?_
              refine z_aload_n C dX8_count_104 rfl (q := 1) rfl ?_
              refine zg_X8_sticks C (k := 300) (hL _ (by unfold live; omega)) (by rfl) i8 (by decide +kernel) (v := nI (nn d 6 2)) (LK_st hK hI) dX8_count_105 ?_
              exact z_iret C rfl (Nat.le_refl _) (Nat.le_refl _) dX8_count_108 ⟨rfl, by rw [countC, if_neg (by omega), if_neg (by omega), if_neg (by omega), if_neg (by omega), if_neg (by omega), if_pos (by omega)]; exact (CI_tot hI).1.1.symm⟩
            · skip
              by_cases hs6 : what.toInt = 6
              · refine z_tableIn C dX8_count_3 (off := 106) (tgt := 109) (by omega) (by omega) (by rw [hs6]; rfl) (by decide) ?_
                refine z_aload_n C dX8_count_109 rfl (q := 1) rfl ?_
                refine zg_X8_latest C (k := 300) (hL _ (by unfold live; omega)) (by rfl) i8 (by decide +kernel) (v := c 300 27) rfl dX8_count_110 ?_
                exact z_iret C rfl (Nat.le_refl _) (Nat.le_refl _) dX8_count_113 ⟨rfl, by rw [countC, if_neg (by omega), if_neg (by omega), if_neg (by omega), if_neg (by omega), if_neg (by omega), if_neg (by omega), if_pos (by omega)]; exact (LK_fi hK)⟩
              · skip
                by_cases hs7 : what.toInt = 7
                · refine z_tableIn C dX8_count_3 (off := 111) (tgt := 114) (by omega) (by omega) (by rw [hs7]; rfl) (by decide) ?_
                  refine z_aload_n C dX8_count_114 rfl (q := 1) rfl ?_
                  refine zg_X8_scrap C (k := 300) (hL _ (by unfold live; omega)) (by rfl) i8 (by decide +kernel) (v := nI (nn d 6 3)) (LK_sc hK hI) dX8_count_115 ?_
                  exact z_iret C rfl (Nat.le_refl _) (Nat.le_refl _) dX8_count_118 ⟨rfl, by rw [countC, if_neg (by omega), if_neg (by omega), if_neg (by omega), if_neg (by omega), if_neg (by omega), if_neg (by omega), if_neg (by omega), if_pos (by omega)]; exact (CI_tot hI).2.1.symm⟩
                · skip
                  by_cases hs8 : what.toInt = 8
                  · refine z_tableIn C dX8_count_3 (off := 116) (tgt := 119) (by omega) (by omega) (by rw [hs8]; rfl) (by decide) ?_
                    refine z_iconst C dX8_count_119 (v := nI 0) (by decide) ?_
                    refine z_istore_n C dX8_count_120 rfl (by decide) (lv' := [(3, Value.int (nI 0)), (2, Value.int (nI 0)), (0, Value.ref (a 300)), (1, Value.int what)]) rfl ?_
                    refine z_for 0 52 (Nat.zero_le _) (fun w => [(3, Value.int (nI w)), (2, Value.int (nI (dampsC d w))), (0, Value.ref (a 300)), (1, Value.int what)]) (fun w => c) (fun w => g) ?_ ?_
                    · refine z_iload_n C dX8_count_121 rfl (q := 0) rfl ?_
                      refine z_bipush C dX8_count_122 (v := nI 52) (by decide) ?_
                      refine z_icmp_ge C dX8_count_124 (tgt := 150) (by decide) (fun h124 => ?_) (fun h124 => absurd (Int32.le_refl _) h124)
                      refine z_iload_n C dX8_count_150 rfl (q := 1) rfl ?_
                      exact z_iret C rfl (Nat.le_refl _) (Nat.le_refl _) dX8_count_151 ⟨rfl, by rw [countC, if_neg (by omega), if_neg (by omega), if_neg (by omega), if_neg (by omega), if_neg (by omega), if_neg (by omega), if_neg (by omega), if_neg (by omega), if_pos (by omega)]⟩
                    · intro w hlw hw ihw
                      have hdw := (CI_wk hI hw).1
                      have hd2 := hdw.2
                      refine z_iload_n C dX8_count_121 rfl (q := 0) rfl ?_
                      refine z_bipush C dX8_count_122 (v := nI 52) (by decide) ?_
                      refine z_icmp_ge C dX8_count_124 (tgt := 150) (by decide) (fun h124 => absurd h124 (nI_ge hw (by omega))) (fun h124 => ?_)
                      refine z_iload_n C dX8_count_127 rfl (q := 1) rfl ?_
                      refine z_aload_n C dX8_count_128 rfl (q := 2) rfl ?_
                      refine zg_X8_isDamp C (k := 300) (hL _ (by unfold live; omega)) (by rfl) i8 (by decide +kernel) (k' := 322) (RM_isDamp hM) dX8_count_129 ?_
                      refine z_iload_n C dX8_count_132 rfl (q := 0) rfl ?_
                      refine z_baload C (k := 322) (hL _ (by unfold live; omega)) (by rfl) (j := w) rfl (by rw [show ln 322 = 52 from rfl]; omega) (by rw [show ln 322 = 52 from rfl]; decide) (v := nI (nn d 8 w)) ((LK_wk hK hw).1.trans hdw.1) dX8_count_133 ?_
                      refine z_if_eq C dX8_count_134 (tgt := 141) (by decide) (fun h134 => ?_) (fun h134 => ?_)
                      · have q134 := iv_eq (y := 0) (nI_toInt (by omega)) (show (0 : Int32).toInt = 0 from by decide) h134
                        refine z_iconst C dX8_count_141 (v := 0) (by decide) ?_
                        refine z_iadd C dX8_count_142 (v := nI ((dampsC d w) + 0)) (nI_add (dampsC d w) 0) ?_
                        refine z_istore_n C dX8_count_143 rfl (by decide) (lv' := [(2, Value.int (nI ((dampsC d w) + 0))), (3, Value.int (nI w)), (0, Value.ref (a 300)), (1, Value.int what)]) rfl ?_
                        refine z_iinc C dX8_count_144 (q := 1) rfl (v := nI (w + 1)) (nI_1 _) (by decide) (lv' := [(3, Value.int (nI (w + 1))), (2, Value.int (nI ((dampsC d w) + 0))), (0, Value.ref (a 300)), (1, Value.int what)]) rfl ?_
                        refine z_goto C dX8_count_147 (tgt := 121) (by decide) ?_
                        rw [show dampsC d (w + 1) = dampsC d w + 0 from by unfold dampsC; rw [sumF]; omega] at ihw
                        exact ihw
                      · have q134 := iv_ne (y := 0) (nI_toInt (by omega)) (show (0 : Int32).toInt = 0 from by decide) h134
                        refine z_iconst C dX8_count_137 (v := 1) (by decide) ?_
                        refine z_goto C dX8_count_138 (tgt := 142) (by decide) ?_
                        refine z_iadd C dX8_count_142 (v := nI ((dampsC d w) + 1)) (nI_add (dampsC d w) 1) ?_
                        refine z_istore_n C dX8_count_143 rfl (by decide) (lv' := [(2, Value.int (nI ((dampsC d w) + 1))), (3, Value.int (nI w)), (0, Value.ref (a 300)), (1, Value.int what)]) rfl ?_
                        refine z_iinc C dX8_count_144 (q := 1) rfl (v := nI (w + 1)) (nI_1 _) (by decide) (lv' := [(3, Value.int (nI (w + 1))), (2, Value.int (nI ((dampsC d w) + 1))), (0, Value.ref (a 300)), (1, Value.int what)]) rfl ?_
                        refine z_goto C dX8_count_147 (tgt := 121) (by decide) ?_
                        rw [show dampsC d (w + 1) = dampsC d w + 1 from by unfold dampsC; rw [sumF]; omega] at ihw
                        exact ihw
                  · skip
                    refine z_tableOut C dX8_count_3 (by omega) (tgt := 152) (by decide) ?_
                    refine z_bipush C dX8_count_152 (v := -2) (by decide) ?_
                    exact z_iret C rfl (Nat.le_refl _) (Nat.le_refl _) dX8_count_154 ⟨rfl, by rw [countC, if_neg (by omega), if_neg (by omega), if_neg (by omega), if_neg (by omega), if_neg (by omega), if_neg (by omega), if_neg (by omega), if_neg (by omega), if_neg (by omega)]⟩

def fsS (s : Int32 × Int32 × Int32 × Nat) (v : Int32) : Int32 × Int32 × Int32 × Nat := if v < 0 then s else if v < s.1 then (v, s.1, s.2.1, s.2.2.2 + 1) else if v < s.2.1 then (s.1, v, s.2.1, s.2.2.2 + 1) else (s.1, s.2.1, v, s.2.2.2 + 1)
def fs3 (d : Nat → Nat → Int32) (wk : Nat) : Nat → Int32 × Int32 × Int32 × Nat
  | 0 => (2147483647, 2147483647, 2147483647, 0)
  | s + 1 => fsS (fs3 d wk s) (wantC d s wk)
theorem fs3_n (d : Nat → Nat → Int32) (wk : Nat) : ∀ s, (fs3 d wk s).2.2.2 ≤ s
  | 0 => Nat.le_refl 0
  | s + 1 => by
    have h := fs3_n d wk s
    rw [fs3]; unfold fsS
    split
    · omega
    · split
      · simp only; omega
      · split
        · simp only; omega
        · simp only; omega
theorem neg1_lt : (-1 : Int32) < 0 := by decide
theorem fs3_no {d : Nat → Nat → Int32} {wk s : Nat} (h : wantC d s wk = -1) : fs3 d wk (s + 1) = fs3 d wk s := by
  rw [fs3, h]; unfold fsS; exact if_pos neg1_lt
theorem i32_max {x : Int32} (h : 0 ≤ x.toInt) : ¬ x < 0 := by
  rw [tI_lt, show (0 : Int32).toInt = 0 from by decide]; omega
theorem i32_neg {x : Int32} (h : 0 ≤ x.toInt) : ¬ x < -1 := by
  rw [tI_lt, show (-1 : Int32).toInt = -1 from by decide]; omega
theorem i32_pos {x : Int32} (h : 0 ≤ x.toInt) : (-1 : Int32) < x := by
  rw [tI_lt, show (-1 : Int32).toInt = -1 from by decide]; omega
theorem i32_ne {x : Int32} (h : 0 ≤ x.toInt) : ¬ x = -1 := by
  rw [tI_ne, show (-1 : Int32).toInt = -1 from by decide]; omega
theorem wantC_or (d : Nat → Nat → Int32) (s wk : Nat) : wantC d s wk = -1 ∨ 0 ≤ (wantC d s wk).toInt := by
  unfold wantC; split
  · rename_i h; exact Or.inr h.2.2
  · exact Or.inl rfl

def foreF (d : Nat → Nat → Int32) (wk : Nat) : Int32 := if (fs3 d wk 3).2.2.2 = 0 then 0 else if (fs3 d wk 3).2.2.2 = 3 then (fs3 d wk 3).2.1 else (fs3 d wk 3).1

set_option maxHeartbeats 4000000 in
set_option maxRecDepth 100000 in
theorem c_X8_foretoldOf (l : Launch) (D : va_G) (cy : Nat → ClassId) (a : Nat → Nat) (L : List Nat) (c : Nat → Nat → Int32) (g : Nat → Nat → Int64) (r : Nat → Nat → Option Nat) (nl nk : Nat) (hL : zLv L nl nk) (hM : RM r) (d : Nat → Nat → Int32) (hI : CI d nl nk) (x : Nat → Nat → Nat) (hX : XL d nl x) (hK : LK d c nl nk x) (wk : Nat) (hwk : wk < 52) : zPI l yX8_foretoldOf wsX8_foretoldOf { frames := 0, cells := 0, slots := 0, locals := 0 } D cy a L c g r [Value.ref (a 300), Value.int (nI wk)] (fun v => v = foreF d wk) := by
  refine z_enter cX8_foretoldOf 8 (some .int) (by decide) (Nat.le_of_ble_eq_true rfl) ?_
  intro p e s m below meth co C hin
  have C : zC p s m _ meth co D cy _ cX8_foretoldOf 8 (some .int) wsX8_foretoldOf RX8 := C
  have i8 : ∀ w ∈ wsX80, w ∈ wsX8_foretoldOf := by decide +kernel
  refine z_ldc C dX8_foretoldOf_0 (v := 2147483647) (by decide +kernel) ?_
  refine z_istore_n C dX8_foretoldOf_2 rfl (by decide) (lv' := [(2, Value.int 2147483647), (0, Value.ref (a 300)), (1, Value.int (nI wk))]) rfl ?_
  refine z_ldc C dX8_foretoldOf_3 (v := 2147483647) (by decide +kernel) ?_
  refine z_istore_n C dX8_foretoldOf_5 rfl (by decide) (lv' := [(3, Value.int 2147483647), (2, Value.int 2147483647), (0, Value.ref (a 300)), (1, Value.int (nI wk))]) rfl ?_
  refine z_ldc C dX8_foretoldOf_6 (v := 2147483647) (by decide +kernel) ?_
  refine z_istore C dX8_foretoldOf_8 (by decide) (lv' := [(4, Value.int 2147483647), (3, Value.int 2147483647), (2, Value.int 2147483647), (0, Value.ref (a 300)), (1, Value.int (nI wk))]) rfl ?_
  refine z_iconst C dX8_foretoldOf_10 (v := nI 0) (by decide) ?_
  refine z_istore C dX8_foretoldOf_11 (by decide) (lv' := [(5, Value.int (nI 0)), (4, Value.int 2147483647), (3, Value.int 2147483647), (2, Value.int 2147483647), (0, Value.ref (a 300)), (1, Value.int (nI wk))]) rfl ?_
  refine z_iconst C dX8_foretoldOf_13 (v := nI 0) (by decide) ?_
  refine z_istore C dX8_foretoldOf_14 (by decide) (lv' := [(6, Value.int (nI 0)), (5, Value.int (nI 0)), (4, Value.int 2147483647), (3, Value.int 2147483647), (2, Value.int 2147483647), (0, Value.ref (a 300)), (1, Value.int (nI wk))]) rfl ?_
  refine z_lveq (lv' := [(6, Value.int (nI 0)), (5, Value.int (nI ((fs3 d wk 0).2.2.2))), (4, Value.int ((fs3 d wk 0).2.2.1)), (3, Value.int ((fs3 d wk 0).2.1)), (2, Value.int ((fs3 d wk 0).1)), (0, Value.ref (a 300)), (1, Value.int (nI wk))]) rfl ?_
  refine z_for 0 3 (Nat.zero_le _) (fun sq => [(6, Value.int (nI sq)), (5, Value.int (nI ((fs3 d wk sq).2.2.2))), (4, Value.int ((fs3 d wk sq).2.2.1)), (3, Value.int ((fs3 d wk sq).2.1)), (2, Value.int ((fs3 d wk sq).1)), (0, Value.ref (a 300)), (1, Value.int (nI wk))]) (fun sq => c) (fun sq => g) ?_ ?_
  · have hfn := fs3_n d wk 3
    refine z_iload C dX8_foretoldOf_16 (q := 0) rfl ?_
    refine z_iconst C dX8_foretoldOf_18 (v := nI 3) (by decide) ?_
    refine z_icmp_ge C dX8_foretoldOf_19 (tgt := 111) (by decide) (fun h19 => ?_) (fun h19 => absurd (Int32.le_refl _) h19)
    refine z_iload C dX8_foretoldOf_111 (q := 1) rfl ?_
    refine z_if_ne C dX8_foretoldOf_113 (tgt := 120) (by decide) (fun h113 => ?_) (fun h113 => ?_)
    · have q113 := iv_ne (y := 0) (nI_toInt (by omega)) (show (0 : Int32).toInt = 0 from by decide) h113
      refine z_iload C dX8_foretoldOf_120 (q := 1) rfl ?_
      refine z_iconst C dX8_foretoldOf_122 (v := 3) (by decide) ?_
      refine z_icmp_ne C dX8_foretoldOf_123 (tgt := 130) (by decide) (fun h123 => ?_) (fun h123 => ?_)
      · have q123 := iv_ne (nI_toInt (by omega)) (show (3 : Int32).toInt = 3 from by decide) h123
        refine z_iload_n C dX8_foretoldOf_130 rfl (q := 4) rfl ?_
        exact z_iret C rfl (Nat.le_refl _) (Nat.le_refl _) dX8_foretoldOf_131 ⟨rfl, by rw [foreF, if_neg (by omega), if_neg (by omega)]⟩
      · have q123 := iv_eq (nI_toInt (by omega)) (show (3 : Int32).toInt = 3 from by decide) h123
        refine z_iload_n C dX8_foretoldOf_126 rfl (q := 3) rfl ?_
        refine z_goto C dX8_foretoldOf_127 (tgt := 131) (by decide) ?_
        exact z_iret C rfl (Nat.le_refl _) (Nat.le_refl _) dX8_foretoldOf_131 ⟨rfl, by rw [foreF, if_neg (by omega), if_pos (by omega)]⟩
    · have q113 := iv_eq (y := 0) (nI_toInt (by omega)) (show (0 : Int32).toInt = 0 from by decide) h113
      refine z_iconst C dX8_foretoldOf_116 (v := 0) (by decide) ?_
      refine z_goto C dX8_foretoldOf_117 (tgt := 131) (by decide) ?_
      exact z_iret C rfl (Nat.le_refl _) (Nat.le_refl _) dX8_foretoldOf_131 ⟨rfl, by rw [foreF, if_pos (by omega)]⟩
  · intro sq hlsq hsq ihsq
    have hsn := (CI_sh hI (show sq < 4 by omega)).2.2.2
    have hfn := fs3_n d wk sq
    refine z_iload C dX8_foretoldOf_16 (q := 0) rfl ?_
    refine z_iconst C dX8_foretoldOf_18 (v := nI 3) (by decide) ?_
    refine z_icmp_ge C dX8_foretoldOf_19 (tgt := 111) (by decide) (fun h19 => absurd h19 (nI_ge hsq (by omega))) (fun h19 => ?_)
    refine z_aload_n C dX8_foretoldOf_22 rfl (q := 5) rfl ?_
    refine zg_X8_forms C (k := 300) (hL _ (by unfold live; omega)) (by rfl) i8 (by decide +kernel) (k' := 324) (RM_forms hM) dX8_foretoldOf_23 ?_
    refine z_iload C dX8_foretoldOf_26 (q := 0) rfl ?_
    have ho28 := (CI_sh hI (show sq < 4 by omega)).1.2
    have hf28 := (CI_sh hI (show sq < 4 by omega)).2.1.2
    have hlo : nn d (40 + sq) 1 = 1 ∨ nn d (40 + sq) 1 = 0 := by omega
    rcases hlo with hlo | hlo
    · refine z_iaload C (k := 324) (hL _ (by unfold live; omega)) (by rfl) (j := sq) rfl (by rw [show ln 324 = 4 from rfl]; omega) (by decide) (v := -1) ((LK_fo hK (by omega)).trans (if_pos hlo)) dX8_foretoldOf_28 ?_
      refine z_if_lt C dX8_foretoldOf_29 (tgt := 43) (by decide) (fun h29 => ?_) (fun h29 => absurd h29 (by decide))
      refine z_iconst C dX8_foretoldOf_43 (v := -1) (by decide) ?_
      refine z_goto C dX8_foretoldOf_44 (tgt := 59) (by decide) ?_
      refine z_istore C dX8_foretoldOf_59 (by decide) (lv' := [(7, Value.int (-1)), (6, Value.int (nI sq)), (5, Value.int (nI ((fs3 d wk sq).2.2.2))), (4, Value.int ((fs3 d wk sq).2.2.1)), (3, Value.int ((fs3 d wk sq).2.1)), (2, Value.int ((fs3 d wk sq).1)), (0, Value.ref (a 300)), (1, Value.int (nI wk))]) rfl ?_
      refine z_iload C dX8_foretoldOf_61 (q := 0) rfl ?_
      refine z_if_lt C dX8_foretoldOf_63 (tgt := 105) (by decide) (fun h63 => ?_) (fun h63 => absurd h63 (by decide))
      refine z_iinc C dX8_foretoldOf_105 (q := 1) rfl (v := nI (sq + 1)) (nI_1 _) (by decide) (lv' := [(6, Value.int (nI (sq + 1))), (7, Value.int (-1)), (5, Value.int (nI ((fs3 d wk sq).2.2.2))), (4, Value.int ((fs3 d wk sq).2.2.1)), (3, Value.int ((fs3 d wk sq).2.1)), (2, Value.int ((fs3 d wk sq).1)), (0, Value.ref (a 300)), (1, Value.int (nI wk))]) rfl ?_
      refine z_goto C dX8_foretoldOf_108 (tgt := 16) (by decide) ?_
      refine z_sub [0, 2, 3, 4, 5, 6, 7] (lv' := [(6, Value.int (nI (sq + 1))), (5, Value.int (nI ((fs3 d wk sq).2.2.2))), (4, Value.int ((fs3 d wk sq).2.2.1)), (3, Value.int ((fs3 d wk sq).2.1)), (2, Value.int ((fs3 d wk sq).1)), (0, Value.ref (a 300)), (1, Value.int (nI wk))]) rfl ?_
      rw [fs3_no (by rw [wantC]; exact if_neg (by omega))] at ihsq
      exact ihsq
    · refine z_iaload C (k := 324) (hL _ (by unfold live; omega)) (by rfl) (j := sq) rfl (by rw [show ln 324 = 4 from rfl]; omega) (by decide) (v := nI (nn d (40 + sq) 2)) ((LK_fo hK (by omega)).trans ((if_neg (by omega)).trans (CI_sh hI (by omega)).2.1.1)) dX8_foretoldOf_28 ?_
      refine z_if_lt C dX8_foretoldOf_29 (tgt := 43) (by decide) (fun h29 => absurd h29 (i32_max (by rw [nI_toInt (by omega)]; omega))) (fun h29 => ?_)
      refine z_iload_n C dX8_foretoldOf_32 rfl (q := 6) rfl ?_
      refine z_aload_n C dX8_foretoldOf_33 rfl (q := 5) rfl ?_
      refine zg_X8_sizes C (k := 300) (hL _ (by unfold live; omega)) (by rfl) i8 (by decide +kernel) (k' := 325) (RM_sizes hM) dX8_foretoldOf_34 ?_
      refine z_iload C dX8_foretoldOf_37 (q := 0) rfl ?_
      refine z_iaload C (k := 325) (hL _ (by unfold live; omega)) (by rfl) (j := sq) rfl (by rw [show ln 325 = 4 from rfl]; omega) (by rw [show ln 325 = 4 from rfl]; decide) (v := nI (nn d (40 + sq) 3)) (LK_si hK hI (by omega)) dX8_foretoldOf_39 ?_
      refine z_icmp_lt C dX8_foretoldOf_40 (tgt := 47) (by decide) (fun h40 => ?_) (fun h40 => ?_)
      · have q40 := iv_lt (nI_toInt (by omega)) (nI_toInt (by omega)) h40
        refine z_aload_n C dX8_foretoldOf_47 rfl (q := 5) rfl ?_
        refine zg_X8_items C (k := 300) (hL _ (by unfold live; omega)) (by rfl) i8 (by decide +kernel) (k' := 326) (RM_items hM) dX8_foretoldOf_48 ?_
        refine z_bipush C dX8_foretoldOf_51 (v := 60) (by decide) ?_
        refine z_iload C dX8_foretoldOf_53 (q := 0) rfl ?_
        refine z_imul C dX8_foretoldOf_55 (v := nI (60 * sq)) (pk_mul 60 sq) ?_
        refine z_iload_n C dX8_foretoldOf_56 rfl (q := 6) rfl ?_
        refine z_iadd C dX8_foretoldOf_57 (v := nI ((60 * sq) + wk)) (nI_add (60 * sq) wk) ?_
        refine z_iaload C (k := 326) (hL _ (by unfold live; omega)) (by rfl) (j := ((60 * sq) + wk)) rfl (by rw [show ln 326 = 240 from rfl]; omega) (by rw [show ln 326 = 240 from rfl]; decide) (v := d (50 + sq) wk) (LK_it hK (by omega) (by omega)) dX8_foretoldOf_58 ?_
        refine z_istore C dX8_foretoldOf_59 (by decide) (lv' := [(7, Value.int (d (50 + sq) wk)), (6, Value.int (nI sq)), (5, Value.int (nI ((fs3 d wk sq).2.2.2))), (4, Value.int ((fs3 d wk sq).2.2.1)), (3, Value.int ((fs3 d wk sq).2.1)), (2, Value.int ((fs3 d wk sq).1)), (0, Value.ref (a 300)), (1, Value.int (nI wk))]) rfl ?_
        refine z_iload C dX8_foretoldOf_61 (q := 0) rfl ?_
        refine z_if_lt C dX8_foretoldOf_63 (tgt := 105) (by decide) (fun h63 => ?_) (fun h63 => ?_)
        · have q63 := iv_lt rfl (show (0 : Int32).toInt = 0 from by decide) h63
          refine z_iinc C dX8_foretoldOf_105 (q := 1) rfl (v := nI (sq + 1)) (nI_1 _) (by decide) (lv' := [(6, Value.int (nI (sq + 1))), (7, Value.int (d (50 + sq) wk)), (5, Value.int (nI ((fs3 d wk sq).2.2.2))), (4, Value.int ((fs3 d wk sq).2.2.1)), (3, Value.int ((fs3 d wk sq).2.1)), (2, Value.int ((fs3 d wk sq).1)), (0, Value.ref (a 300)), (1, Value.int (nI wk))]) rfl ?_
          refine z_goto C dX8_foretoldOf_108 (tgt := 16) (by decide) ?_
          refine z_sub [0, 2, 3, 4, 5, 6, 7] (lv' := [(6, Value.int (nI (sq + 1))), (5, Value.int (nI ((fs3 d wk sq).2.2.2))), (4, Value.int ((fs3 d wk sq).2.2.1)), (3, Value.int ((fs3 d wk sq).2.1)), (2, Value.int ((fs3 d wk sq).1)), (0, Value.ref (a 300)), (1, Value.int (nI wk))]) rfl ?_
          rw [fs3_no (by rw [wantC]; exact if_neg (by omega))] at ihsq
          exact ihsq
        · have q63 := iv_nlt rfl (show (0 : Int32).toInt = 0 from by decide) h63
          refine z_iinc C dX8_foretoldOf_66 (q := 2) rfl (v := nI ((fs3 d wk sq).2.2.2 + 1)) (nI_1 _) (by decide) (lv' := [(5, Value.int (nI ((fs3 d wk sq).2.2.2 + 1))), (7, Value.int (d (50 + sq) wk)), (6, Value.int (nI sq)), (4, Value.int ((fs3 d wk sq).2.2.1)), (3, Value.int ((fs3 d wk sq).2.1)), (2, Value.int ((fs3 d wk sq).1)), (0, Value.ref (a 300)), (1, Value.int (nI wk))]) rfl ?_
          refine z_iload C dX8_foretoldOf_69 (q := 1) rfl ?_
          refine z_iload_n C dX8_foretoldOf_71 rfl (q := 5) rfl ?_
          refine z_icmp_ge C dX8_foretoldOf_72 (tgt := 86) (by decide) (fun h72 => ?_) (fun h72 => ?_)
          · refine z_iload C dX8_foretoldOf_86 (q := 1) rfl ?_
            refine z_iload_n C dX8_foretoldOf_88 rfl (q := 4) rfl ?_
            refine z_icmp_ge C dX8_foretoldOf_89 (tgt := 101) (by decide) (fun h89 => ?_) (fun h89 => ?_)
            · refine z_iload C dX8_foretoldOf_101 (q := 1) rfl ?_
              refine z_istore C dX8_foretoldOf_103 (by decide) (lv' := [(4, Value.int (d (50 + sq) wk)), (5, Value.int (nI ((fs3 d wk sq).2.2.2 + 1))), (7, Value.int (d (50 + sq) wk)), (6, Value.int (nI sq)), (3, Value.int ((fs3 d wk sq).2.1)), (2, Value.int ((fs3 d wk sq).1)), (0, Value.ref (a 300)), (1, Value.int (nI wk))]) rfl ?_
              refine z_iinc C dX8_foretoldOf_105 (q := 3) rfl (v := nI (sq + 1)) (nI_1 _) (by decide) (lv' := [(6, Value.int (nI (sq + 1))), (4, Value.int (d (50 + sq) wk)), (5, Value.int (nI ((fs3 d wk sq).2.2.2 + 1))), (7, Value.int (d (50 + sq) wk)), (3, Value.int ((fs3 d wk sq).2.1)), (2, Value.int ((fs3 d wk sq).1)), (0, Value.ref (a 300)), (1, Value.int (nI wk))]) rfl ?_
              refine z_goto C dX8_foretoldOf_108 (tgt := 16) (by decide) ?_
              refine z_sub [0, 2, 1, 4, 5, 6, 7] (lv' := [(6, Value.int (nI (sq + 1))), (5, Value.int (nI ((fs3 d wk sq).2.2.2 + 1))), (4, Value.int (d (50 + sq) wk)), (3, Value.int ((fs3 d wk sq).2.1)), (2, Value.int ((fs3 d wk sq).1)), (0, Value.ref (a 300)), (1, Value.int (nI wk))]) rfl ?_
              have hwa : wantC d sq wk = d (50 + sq) wk := by rw [wantC]; exact if_pos (by omega)
              rw [show fs3 d wk (sq + 1) = ((fs3 d wk sq).1, (fs3 d wk sq).2.1, d (50 + sq) wk, (fs3 d wk sq).2.2.2 + 1) from by rw [fs3, hwa]; unfold fsS; rw [if_neg h63, if_neg (Int32.not_lt.mpr h72), if_neg (Int32.not_lt.mpr h89)]] at ihsq
              exact ihsq
            · refine z_iload_n C dX8_foretoldOf_92 rfl (q := 4) rfl ?_
              refine z_istore C dX8_foretoldOf_93 (by decide) (lv' := [(4, Value.int ((fs3 d wk sq).2.1)), (5, Value.int (nI ((fs3 d wk sq).2.2.2 + 1))), (7, Value.int (d (50 + sq) wk)), (6, Value.int (nI sq)), (3, Value.int ((fs3 d wk sq).2.1)), (2, Value.int ((fs3 d wk sq).1)), (0, Value.ref (a 300)), (1, Value.int (nI wk))]) rfl ?_
              refine z_iload C dX8_foretoldOf_95 (q := 2) rfl ?_
              refine z_istore_n C dX8_foretoldOf_97 rfl (by decide) (lv' := [(3, Value.int (d (50 + sq) wk)), (4, Value.int ((fs3 d wk sq).2.1)), (5, Value.int (nI ((fs3 d wk sq).2.2.2 + 1))), (7, Value.int (d (50 + sq) wk)), (6, Value.int (nI sq)), (2, Value.int ((fs3 d wk sq).1)), (0, Value.ref (a 300)), (1, Value.int (nI wk))]) rfl ?_
              refine z_goto C dX8_foretoldOf_98 (tgt := 105) (by decide) ?_
              refine z_iinc C dX8_foretoldOf_105 (q := 4) rfl (v := nI (sq + 1)) (nI_1 _) (by decide) (lv' := [(6, Value.int (nI (sq + 1))), (3, Value.int (d (50 + sq) wk)), (4, Value.int ((fs3 d wk sq).2.1)), (5, Value.int (nI ((fs3 d wk sq).2.2.2 + 1))), (7, Value.int (d (50 + sq) wk)), (2, Value.int ((fs3 d wk sq).1)), (0, Value.ref (a 300)), (1, Value.int (nI wk))]) rfl ?_
              refine z_goto C dX8_foretoldOf_108 (tgt := 16) (by decide) ?_
              refine z_sub [0, 3, 2, 1, 5, 6, 7] (lv' := [(6, Value.int (nI (sq + 1))), (5, Value.int (nI ((fs3 d wk sq).2.2.2 + 1))), (4, Value.int ((fs3 d wk sq).2.1)), (3, Value.int (d (50 + sq) wk)), (2, Value.int ((fs3 d wk sq).1)), (0, Value.ref (a 300)), (1, Value.int (nI wk))]) rfl ?_
              have hwa : wantC d sq wk = d (50 + sq) wk := by rw [wantC]; exact if_pos (by omega)
              rw [show fs3 d wk (sq + 1) = ((fs3 d wk sq).1, d (50 + sq) wk, (fs3 d wk sq).2.1, (fs3 d wk sq).2.2.2 + 1) from by rw [fs3, hwa]; unfold fsS; rw [if_neg h63, if_neg (Int32.not_lt.mpr h72), if_pos (Int32.not_le.mp h89)]] at ihsq
              exact ihsq
          · refine z_iload_n C dX8_foretoldOf_75 rfl (q := 4) rfl ?_
            refine z_istore C dX8_foretoldOf_76 (by decide) (lv' := [(4, Value.int ((fs3 d wk sq).2.1)), (5, Value.int (nI ((fs3 d wk sq).2.2.2 + 1))), (7, Value.int (d (50 + sq) wk)), (6, Value.int (nI sq)), (3, Value.int ((fs3 d wk sq).2.1)), (2, Value.int ((fs3 d wk sq).1)), (0, Value.ref (a 300)), (1, Value.int (nI wk))]) rfl ?_
            refine z_iload_n C dX8_foretoldOf_78 rfl (q := 5) rfl ?_
            refine z_istore_n C dX8_foretoldOf_79 rfl (by decide) (lv' := [(3, Value.int ((fs3 d wk sq).1)), (4, Value.int ((fs3 d wk sq).2.1)), (5, Value.int (nI ((fs3 d wk sq).2.2.2 + 1))), (7, Value.int (d (50 + sq) wk)), (6, Value.int (nI sq)), (2, Value.int ((fs3 d wk sq).1)), (0, Value.ref (a 300)), (1, Value.int (nI wk))]) rfl ?_
            refine z_iload C dX8_foretoldOf_80 (q := 3) rfl ?_
            refine z_istore_n C dX8_foretoldOf_82 rfl (by decide) (lv' := [(2, Value.int (d (50 + sq) wk)), (3, Value.int ((fs3 d wk sq).1)), (4, Value.int ((fs3 d wk sq).2.1)), (5, Value.int (nI ((fs3 d wk sq).2.2.2 + 1))), (7, Value.int (d (50 + sq) wk)), (6, Value.int (nI sq)), (0, Value.ref (a 300)), (1, Value.int (nI wk))]) rfl ?_
            refine z_goto C dX8_foretoldOf_83 (tgt := 105) (by decide) ?_
            refine z_iinc C dX8_foretoldOf_105 (q := 5) rfl (v := nI (sq + 1)) (nI_1 _) (by decide) (lv' := [(6, Value.int (nI (sq + 1))), (2, Value.int (d (50 + sq) wk)), (3, Value.int ((fs3 d wk sq).1)), (4, Value.int ((fs3 d wk sq).2.1)), (5, Value.int (nI ((fs3 d wk sq).2.2.2 + 1))), (7, Value.int (d (50 + sq) wk)), (0, Value.ref (a 300)), (1, Value.int (nI wk))]) rfl ?_
            refine z_goto C dX8_foretoldOf_108 (tgt := 16) (by decide) ?_
            refine z_sub [0, 4, 3, 2, 1, 6, 7] (lv' := [(6, Value.int (nI (sq + 1))), (5, Value.int (nI ((fs3 d wk sq).2.2.2 + 1))), (4, Value.int ((fs3 d wk sq).2.1)), (3, Value.int ((fs3 d wk sq).1)), (2, Value.int (d (50 + sq) wk)), (0, Value.ref (a 300)), (1, Value.int (nI wk))]) rfl ?_
            have hwa : wantC d sq wk = d (50 + sq) wk := by rw [wantC]; exact if_pos (by omega)
            rw [show fs3 d wk (sq + 1) = (d (50 + sq) wk, (fs3 d wk sq).1, (fs3 d wk sq).2.1, (fs3 d wk sq).2.2.2 + 1) from by rw [fs3, hwa]; unfold fsS; rw [if_neg h63, if_pos (Int32.not_le.mp h72)]] at ihsq
            exact ihsq
      · have q40 := iv_nlt (nI_toInt (by omega)) (nI_toInt (by omega)) h40
        refine z_iconst C dX8_foretoldOf_43 (v := -1) (by decide) ?_
        refine z_goto C dX8_foretoldOf_44 (tgt := 59) (by decide) ?_
        refine z_istore C dX8_foretoldOf_59 (by decide) (lv' := [(7, Value.int (-1)), (6, Value.int (nI sq)), (5, Value.int (nI ((fs3 d wk sq).2.2.2))), (4, Value.int ((fs3 d wk sq).2.2.1)), (3, Value.int ((fs3 d wk sq).2.1)), (2, Value.int ((fs3 d wk sq).1)), (0, Value.ref (a 300)), (1, Value.int (nI wk))]) rfl ?_
        refine z_iload C dX8_foretoldOf_61 (q := 0) rfl ?_
        refine z_if_lt C dX8_foretoldOf_63 (tgt := 105) (by decide) (fun h63 => ?_) (fun h63 => absurd h63 (by decide))
        refine z_iinc C dX8_foretoldOf_105 (q := 1) rfl (v := nI (sq + 1)) (nI_1 _) (by decide) (lv' := [(6, Value.int (nI (sq + 1))), (7, Value.int (-1)), (5, Value.int (nI ((fs3 d wk sq).2.2.2))), (4, Value.int ((fs3 d wk sq).2.2.1)), (3, Value.int ((fs3 d wk sq).2.1)), (2, Value.int ((fs3 d wk sq).1)), (0, Value.ref (a 300)), (1, Value.int (nI wk))]) rfl ?_
        refine z_goto C dX8_foretoldOf_108 (tgt := 16) (by decide) ?_
        refine z_sub [0, 2, 3, 4, 5, 6, 7] (lv' := [(6, Value.int (nI (sq + 1))), (5, Value.int (nI ((fs3 d wk sq).2.2.2))), (4, Value.int ((fs3 d wk sq).2.2.1)), (3, Value.int ((fs3 d wk sq).2.1)), (2, Value.int ((fs3 d wk sq).1)), (0, Value.ref (a 300)), (1, Value.int (nI wk))]) rfl ?_
        rw [fs3_no (by rw [wantC]; exact if_neg (by omega))] at ihsq
        exact ihsq
