set_option maxHeartbeats 4000000 in
set_option maxRecDepth 100000 in
theorem c_X7_strip (l : Launch) (D : va_G) (cy : Nat → ClassId) (a : Nat → Nat) (L : List Nat) (c : Nat → Nat → Int32) (g : Nat → Nat → Int64) (r : Nat → Nat → Option Nat) (nl nk : Nat) (hL : zLv L nl nk) (hR : RC r nl nk) (hI : CI c nl nk) (letter i bits : Int32) : zCI l yX7_strip wsX7_strip { frames := 2, cells := 0, slots := 0, locals := 43 } D cy a L c g r [Value.ref (a 0), Value.int letter, Value.int i, Value.int bits] (fun v c' => ((0 ≤ letter.toInt ∧ letter.toInt < (nl : Int) ∧ 0 ≤ i.toInt ∧ i.toInt < (nn c (100 + tn letter) 0 : Int) ∧ 0 ≤ bits.toInt ∧ bits.toInt ≤ 31) ∧ v = c (120 + tn letter) (tn i) ∧ c' = up2 c (120 + tn letter) (tn i) bits) ∨ (¬ (0 ≤ letter.toInt ∧ letter.toInt < (nl : Int) ∧ 0 ≤ i.toInt ∧ i.toInt < (nn c (100 + tn letter) 0 : Int) ∧ 0 ≤ bits.toInt ∧ bits.toInt ≤ 31) ∧ v = -2 ∧ c' = c)) := by
  refine z_enter cX7_strip 6 (some .int) (by decide) (Nat.le_of_ble_eq_true rfl) ?_
  intro p e s m below meth co C hin
  have C : zC p s m _ meth co D cy _ cX7_strip 6 (some .int) wsX7_strip RX7 := C
  have i0 : ∀ w ∈ wsX00, w ∈ wsX7_strip := by decide +kernel
  have h16 := CI_nl16 hI
  refine z_aload_n C dX7_strip_0 rfl (q := 0) rfl ?_
  refine z_iload_n C dX7_strip_1 rfl (q := 1) rfl ?_
  refine z_pQ C (z_runV C (As := [Value.int letter]) (rest := []) (c_X7_letterAt l D cy a L c g r nl nk hL hR hI letter) (cwV 1 C.2.2.2.2.2.1 gX7_strip_X7_letterAt rfl rfl rfl (by decide +kernel) ⟨Nat.le_of_ble_eq_true rfl, Nat.le_of_ble_eq_true rfl⟩) (hL _ (by unfold live; omega)) (zF_k7 (by rfl)) rfl rfl rfl rfl (Nat.le_of_ble_eq_true rfl) dX7_strip_2 ⟨Nat.zero_le _, Nat.zero_le _⟩) (fun v2 e2 => ?_)
  rcases e2 with ⟨j, hj, rfl, rfl⟩ | ⟨rfl, e2⟩
  · have tj := nI_toInt (n := j) (by omega)
    have uj := tn_nI (j := j) (by omega)
    have hwi := (CI_wi hI hj).2
    refine z_astore C dX7_strip_5 (by decide) (lv' := [(4, Value.ref (a (100 + j))), (0, Value.ref (a 0)), (1, Value.int (nI j)), (2, Value.int i), (3, Value.int bits)]) rfl ?_
    refine z_aload C dX7_strip_7 (q := 0) rfl ?_
    refine z_ifnull C dX7_strip_9 ?_
    refine z_aload C dX7_strip_12 (q := 0) rfl ?_
    refine z_iload_n C dX7_strip_14 rfl (q := 3) rfl ?_
    refine z_pI C (z_runV C (As := [Value.int i]) (rest := []) (c_X0_hasStrip l D cy a L c g r nl nk hL hR hI j (by omega) i) (cwV 1 C.2.2.2.2.2.1 gX7_strip_X0_hasStrip rfl rfl rfl (by decide +kernel) ⟨Nat.le_of_ble_eq_true rfl, Nat.le_of_ble_eq_true rfl⟩) (hL _ (by unfold live; omega)) (zF_k0 (kd_l (by omega))) rfl rfl rfl rfl (Nat.le_of_ble_eq_true rfl) dX7_strip_15 ⟨Nat.zero_le _, Nat.zero_le _⟩) (fun v15 e15 => ?_)
    rcases e15 with ⟨rfl, e15⟩ | ⟨rfl, e15⟩
    · refine z_if_eq C dX7_strip_18 (tgt := 31) (by decide) (fun h18 => absurd h18 (by decide)) (fun h18 => ?_)
      refine z_iload_n C dX7_strip_21 rfl (q := 4) rfl ?_
      refine z_iconst C dX7_strip_22 (v := 0) (by decide) ?_
      refine z_bipush C dX7_strip_23 (v := 31) (by decide) ?_
      refine z_pI C (z_runS C (As := [Value.int bits, Value.int 0, Value.int 31]) (rest := []) (c_X7_within l D cy a L c g r bits 0 31 (V := bits.toInt) (LO := 0) (HI := 31) rfl (show (0 : Int32).toInt = 0 from by decide) (show (31 : Int32).toInt = 31 from by decide)) (va_cwS 3 C.2.2.2.2.2.1 gX7_strip_X7_within rfl rfl rfl (by decide +kernel) ⟨Nat.le_of_ble_eq_true rfl, Nat.le_of_ble_eq_true rfl⟩) rfl rfl (Nat.le_of_ble_eq_true rfl) dX7_strip_25 ⟨Nat.zero_le _, Nat.zero_le _⟩) (fun v25 e25 => ?_)
      rcases e25 with ⟨rfl, e25⟩ | ⟨rfl, e25⟩
      · obtain ⟨i1, hi1, rfl⟩ := arg_lt e15
        have ti1 := nI_toInt (n := i1) (by omega)
        have ui1 := tn_nI (j := i1) (by omega)
        refine z_if_ne C dX7_strip_28 (tgt := 34) (by decide) (fun h28 => ?_) (fun h28 => absurd h28 (by decide))
        refine z_aload C dX7_strip_34 (q := 0) rfl ?_
        refine zg_X0_strips C (k := 100 + j) (hL _ (by unfold live; omega)) (kd_l (by omega)) i0 (by decide +kernel) (k' := 120 + j) (RC_strips hR (by omega)) dX7_strip_36 ?_
        refine z_iload_n C dX7_strip_39 rfl (q := 3) rfl ?_
        refine z_iaload C (k := 120 + j) (hL _ (by unfold live; omega)) (kd_st (by omega)) (j := i1) rfl (by rw [ln_st (by omega)]; omega) (by rw [ln_st (by omega)]; decide) (v := c (120 + j) i1) rfl dX7_strip_40 ?_
        refine z_istore C dX7_strip_41 (by decide) (lv' := [(5, Value.int (c (120 + j) i1)), (4, Value.ref (a (100 + j))), (0, Value.ref (a 0)), (1, Value.int (nI j)), (2, Value.int (nI i1)), (3, Value.int bits)]) rfl ?_
        refine z_aload C dX7_strip_43 (q := 1) rfl ?_
        refine zg_X0_strips C (k := 100 + j) (hL _ (by unfold live; omega)) (kd_l (by omega)) i0 (by decide +kernel) (k' := 120 + j) (RC_strips hR (by omega)) dX7_strip_45 ?_
        refine z_iload_n C dX7_strip_48 rfl (q := 4) rfl ?_
        refine z_iload_n C dX7_strip_49 rfl (q := 5) rfl ?_
        refine z_iastore C (k := 120 + j) (hL _ (by unfold live; omega)) (kd_st (by omega)) (j := i1) rfl (by rw [ln_st (by omega)]; omega) (by rw [ln_st (by omega)]; decide) dX7_strip_50 ?_
        refine z_iload C dX7_strip_51 (q := 0) rfl ?_
        exact z_iret C rfl (Nat.le_refl _) (Nat.le_refl _) dX7_strip_53 ⟨_, rfl, Or.inl ⟨by rw [uj]; omega, by rw [uj, ui1], by rw [uj, ui1]⟩⟩
      · refine z_if_ne C dX7_strip_28 (tgt := 34) (by decide) (fun h28 => absurd h28 (by decide)) (fun h28 => ?_)
        refine z_bipush C dX7_strip_31 (v := -2) (by decide) ?_
        exact z_iret C rfl (Nat.le_refl _) (Nat.le_refl _) dX7_strip_33 ⟨_, rfl, Or.inr ⟨by rw [tn_nI (j := j) (by omega)]; omega, rfl, rfl⟩⟩
    · refine z_if_eq C dX7_strip_18 (tgt := 31) (by decide) (fun h18 => ?_) (fun h18 => absurd h18 (by decide))
      refine z_bipush C dX7_strip_31 (v := -2) (by decide) ?_
      exact z_iret C rfl (Nat.le_refl _) (Nat.le_refl _) dX7_strip_33 ⟨_, rfl, Or.inr ⟨by rw [tn_nI (j := j) (by omega)]; omega, rfl, rfl⟩⟩
  · refine z_astoreN C dX7_strip_5 (by decide) (lv' := [(4, Value.null), (0, Value.ref (a 0)), (1, Value.int letter), (2, Value.int i), (3, Value.int bits)]) rfl ?_
    refine z_aloadN C dX7_strip_7 (q := 0) rfl ?_
    refine z_ifnullN C dX7_strip_9 (tgt := 31) (by decide) ?_
    refine z_bipush C dX7_strip_31 (v := -2) (by decide) ?_
    exact z_iret C rfl (Nat.le_refl _) (Nat.le_refl _) dX7_strip_33 ⟨_, rfl, Or.inr ⟨by omega, rfl, rfl⟩⟩

def aboutC (c : Nat → Nat → Int32) (nl : Nat) (letter what : Int32) : Int32 := if 0 ≤ letter.toInt ∧ letter.toInt < (nl : Int) then (if what.toInt = 0 then c (100 + tn letter) 0 else if what.toInt = 1 then c (100 + tn letter) 1 else if what.toInt = 2 then c (100 + tn letter) 2 else if 10 ≤ what.toInt ∧ what.toInt - 10 < (nn c (100 + tn letter) 0 : Int) then c (120 + tn letter) (tn what - 10) else -2) else -2

theorem tI_sub10 (x : Int32) (h : 10 ≤ x.toInt) : (x - 10).toInt = x.toInt - 10 := by
  have h2 : x.toInt < 2147483648 := Int32.toInt_lt x
  rw [Int32.toInt_sub, show (10 : Int32).toInt = 10 from by decide, Int.bmod_eq_of_le (by omega) (by omega)]
theorem sub10_nI {x : Int32} (h : 10 ≤ x.toInt) : x - 10 = nI (tn x - 10) := by
  have h1 := tI_sub10 x h
  rw [tI_of (x := x - 10) (by omega), h1]; unfold tn; congr 1; omega

set_option maxHeartbeats 4000000 in
set_option maxRecDepth 100000 in
theorem c_X7_about (l : Launch) (D : va_G) (cy : Nat → ClassId) (a : Nat → Nat) (L : List Nat) (c : Nat → Nat → Int32) (g : Nat → Nat → Int64) (r : Nat → Nat → Option Nat) (nl nk : Nat) (hL : zLv L nl nk) (hR : RC r nl nk) (hI : CI c nl nk) (letter what : Int32) : zPI l yX7_about wsX7_about { frames := 2, cells := 0, slots := 0, locals := 43 } D cy a L c g r [Value.ref (a 0), Value.int letter, Value.int what] (fun v => v = aboutC c nl letter what) := by
  refine z_enter cX7_about 4 (some .int) (by decide) (Nat.le_of_ble_eq_true rfl) ?_
  intro p e s m below meth co C hin
  have C : zC p s m _ meth co D cy _ cX7_about 4 (some .int) wsX7_about RX7 := C
  have i0 : ∀ w ∈ wsX00, w ∈ wsX7_about := by decide +kernel
  have h16 := CI_nl16 hI
  refine z_aload_n C dX7_about_0 rfl (q := 0) rfl ?_
  refine z_iload_n C dX7_about_1 rfl (q := 1) rfl ?_
  refine z_pQ C (z_runV C (As := [Value.int letter]) (rest := []) (c_X7_letterAt l D cy a L c g r nl nk hL hR hI letter) (cwV 1 C.2.2.2.2.2.1 gX7_about_X7_letterAt rfl rfl rfl (by decide +kernel) ⟨Nat.le_of_ble_eq_true rfl, Nat.le_of_ble_eq_true rfl⟩) (hL _ (by unfold live; omega)) (zF_k7 (by rfl)) rfl rfl rfl rfl (Nat.le_of_ble_eq_true rfl) dX7_about_2 ⟨Nat.zero_le _, Nat.zero_le _⟩) (fun v2 e2 => ?_)
  rcases e2 with ⟨j, hj, rfl, rfl⟩ | ⟨rfl, e2⟩
  · have tj := nI_toInt (n := j) (by omega)
    refine z_astore_n C dX7_about_5 rfl (by decide) (lv' := [(3, Value.ref (a (100 + j))), (0, Value.ref (a 0)), (1, Value.int (nI j)), (2, Value.int what)]) rfl ?_
    refine z_aload_n C dX7_about_6 rfl (q := 0) rfl ?_
    refine z_ifnonnull C dX7_about_7 (tgt := 13) (by decide) ?_
    refine z_iload_n C dX7_about_13 rfl (q := 3) rfl ?_
    by_cases hs0 : what.toInt = 0
    · refine z_tableIn C dX7_about_14 (off := 26) (tgt := 40) (by omega) (by omega) (by rw [hs0]; rfl) (by decide) ?_
      refine z_aload_n C dX7_about_40 rfl (q := 0) rfl ?_
      refine zg_X0_width C (k := 100 + j) (hL _ (by unfold live; omega)) (kd_l (by omega)) i0 (by decide +kernel) (v := nI (nn c (100 + j) 0)) (CI_wi hI (by omega)).1 dX7_about_41 ?_
      exact z_iret C rfl (Nat.le_refl _) (Nat.le_refl _) dX7_about_44 ⟨rfl, by rw [aboutC, if_pos (by omega), tn_nI (j := j) (by omega), if_pos (by omega)]; exact (CI_wi hI hj).1.symm⟩
    · skip
      by_cases hs1 : what.toInt = 1
      · refine z_tableIn C dX7_about_14 (off := 31) (tgt := 45) (by omega) (by omega) (by rw [hs1]; rfl) (by decide) ?_
        refine z_aload_n C dX7_about_45 rfl (q := 0) rfl ?_
        refine zg_X0_minutes C (k := 100 + j) (hL _ (by unfold live; omega)) (kd_l (by omega)) i0 (by decide +kernel) (v := nI (nn c (100 + j) 1)) (CI_mi hI (by omega)).1 dX7_about_46 ?_
        exact z_iret C rfl (Nat.le_refl _) (Nat.le_refl _) dX7_about_49 ⟨rfl, by rw [aboutC, if_pos (by omega), tn_nI (j := j) (by omega), if_neg (by omega), if_pos (by omega)]; exact (CI_mi hI hj).1.symm⟩
      · skip
        by_cases hs2 : what.toInt = 2
        · refine z_tableIn C dX7_about_14 (off := 36) (tgt := 50) (by omega) (by omega) (by rw [hs2]; rfl) (by decide) ?_
          refine z_aload_n C dX7_about_50 rfl (q := 0) rfl ?_
          refine zg_X0_soft C (k := 100 + j) (hL _ (by unfold live; omega)) (kd_l (by omega)) i0 (by decide +kernel) (v := nI (nn c (100 + j) 2)) (CI_so hI (by omega)).1 dX7_about_51 ?_
          exact z_iret C rfl (Nat.le_refl _) (Nat.le_refl _) dX7_about_54 ⟨rfl, by rw [aboutC, if_pos (by omega), tn_nI (j := j) (by omega), if_neg (by omega), if_neg (by omega), if_pos (by omega)]; exact (CI_so hI hj).1.symm⟩
        · skip
          refine z_tableOut C dX7_about_14 (by omega) (tgt := 55) (by decide) ?_
          refine z_iload_n C dX7_about_55 rfl (q := 3) rfl ?_
          refine z_bipush C dX7_about_56 (v := 10) (by decide) ?_
          refine z_icmp_lt C dX7_about_58 (tgt := 84) (by decide) (fun h58 => ?_) (fun h58 => ?_)
          · have q58 := iv_lt rfl (show (10 : Int32).toInt = 10 from by decide) h58
            refine z_bipush C dX7_about_84 (v := -2) (by decide) ?_
            exact z_iret C rfl (Nat.le_refl _) (Nat.le_refl _) dX7_about_86 ⟨rfl, by rw [aboutC, if_pos (by omega), tn_nI (j := j) (by omega), if_neg (by omega), if_neg (by omega), if_neg (by omega), if_neg (by omega)]⟩
          · have q58 := iv_nlt rfl (show (10 : Int32).toInt = 10 from by decide) h58
            refine z_aload_n C dX7_about_61 rfl (q := 0) rfl ?_
            refine z_iload_n C dX7_about_62 rfl (q := 3) rfl ?_
            refine z_bipush C dX7_about_63 (v := 10) (by decide) ?_
            refine z_isub C dX7_about_65 (v := what - 10) rfl ?_
            have hsb := tI_sub10 what q58
            refine z_pI C (z_runV C (As := [Value.int (what - 10)]) (rest := []) (c_X0_hasStrip l D cy a L c g r nl nk hL hR hI j (by omega) (what - 10)) (cwV 1 C.2.2.2.2.2.1 gX7_about_X0_hasStrip rfl rfl rfl (by decide +kernel) ⟨Nat.le_of_ble_eq_true rfl, Nat.le_of_ble_eq_true rfl⟩) (hL _ (by unfold live; omega)) (zF_k0 (kd_l (by omega))) rfl rfl rfl rfl (Nat.le_of_ble_eq_true rfl) dX7_about_66 ⟨Nat.zero_le _, Nat.zero_le _⟩) (fun v66 e66 => ?_)
            rcases e66 with ⟨rfl, e66⟩ | ⟨rfl, e66⟩
            · refine z_if_eq C dX7_about_69 (tgt := 84) (by decide) (fun h69 => absurd h69 (by decide)) (fun h69 => ?_)
              refine z_aload_n C dX7_about_72 rfl (q := 0) rfl ?_
              refine zg_X0_strips C (k := 100 + j) (hL _ (by unfold live; omega)) (kd_l (by omega)) i0 (by decide +kernel) (k' := 120 + j) (RC_strips hR (by omega)) dX7_about_73 ?_
              refine z_iload_n C dX7_about_76 rfl (q := 3) rfl ?_
              refine z_bipush C dX7_about_77 (v := 10) (by decide) ?_
              refine z_isub C dX7_about_79 (v := what - 10) rfl ?_
              refine z_iaload C (k := 120 + j) (hL _ (by unfold live; omega)) (kd_st (by omega)) (j := tn what - 10) (sub10_nI q58) (by rw [ln_st (by omega)]; have := (CI_wi hI hj).2.2; unfold tn; omega) (by rw [ln_st (by omega)]; decide) (v := c (120 + j) (tn what - 10)) rfl dX7_about_80 ?_
              refine z_goto C dX7_about_81 (tgt := 86) (by decide) ?_
              exact z_iret C rfl (Nat.le_refl _) (Nat.le_refl _) dX7_about_86 ⟨rfl, by rw [aboutC, if_pos (by omega), tn_nI (j := j) (by omega), if_neg (by omega), if_neg (by omega), if_neg (by omega), if_pos (by omega)]⟩
            · refine z_if_eq C dX7_about_69 (tgt := 84) (by decide) (fun h69 => ?_) (fun h69 => absurd h69 (by decide))
              refine z_bipush C dX7_about_84 (v := -2) (by decide) ?_
              exact z_iret C rfl (Nat.le_refl _) (Nat.le_refl _) dX7_about_86 ⟨rfl, by rw [aboutC, if_pos (by omega), tn_nI (j := j) (by omega), if_neg (by omega), if_neg (by omega), if_neg (by omega), if_neg (by omega)]⟩
  · refine z_astore_nN C dX7_about_5 rfl (by decide) (lv' := [(3, Value.null), (0, Value.ref (a 0)), (1, Value.int letter), (2, Value.int what)]) rfl ?_
    refine z_aload_nN C dX7_about_6 rfl (q := 0) rfl ?_
    refine z_ifnonnullN C dX7_about_7 ?_
    refine z_bipush C dX7_about_10 (v := -2) (by decide) ?_
    exact z_iret C rfl (Nat.le_refl _) (Nat.le_refl _) dX7_about_12 ⟨rfl, by rw [aboutC, if_neg e2]⟩

set_option maxHeartbeats 4000000 in
set_option maxRecDepth 100000 in
theorem c_X7_wipe (l : Launch) (D : va_G) (cy : Nat → ClassId) (a : Nat → Nat) (L : List Nat) (c : Nat → Nat → Int32) (g : Nat → Nat → Int64) (r : Nat → Nat → Option Nat) (nl nk : Nat) (hL : zLv L nl nk) (hR : RC r nl nk) (hI : CI c nl nk) (word : Int32) : zCI l yX7_wipe wsX7_wipe { frames := 2, cells := 0, slots := 0, locals := 43 } D cy a L c g r [Value.ref (a 0), Value.int word] (fun v c' => ((0 ≤ word.toInt ∧ word.toInt < 8) ∧ v = c (20 + tn word) 1 ∧ c' = up2 c (20 + tn word) 1 (nI 0)) ∨ (¬ (0 ≤ word.toInt ∧ word.toInt < 8) ∧ v = -2 ∧ c' = c)) := by
  refine z_enter cX7_wipe 4 (some .int) (by decide) (Nat.le_of_ble_eq_true rfl) ?_
  intro p e s m below meth co C hin
  have C : zC p s m _ meth co D cy _ cX7_wipe 4 (some .int) wsX7_wipe RX7 := C
  have i6 : ∀ w ∈ wsX60, w ∈ wsX7_wipe := by decide +kernel
  refine z_aload_n C dX7_wipe_0 rfl (q := 0) rfl ?_
  refine z_iload_n C dX7_wipe_1 rfl (q := 1) rfl ?_
  refine z_pQ C (z_runV C (As := [Value.int word]) (rest := []) (c_X7_wordAt l D cy a L c g r nl nk hL hR hI word) (cwV 1 C.2.2.2.2.2.1 gX7_wipe_X7_wordAt rfl rfl rfl (by decide +kernel) ⟨Nat.le_of_ble_eq_true rfl, Nat.le_of_ble_eq_true rfl⟩) (hL _ (by unfold live; omega)) (zF_k7 (by rfl)) rfl rfl rfl rfl (Nat.le_of_ble_eq_true rfl) dX7_wipe_2 ⟨Nat.zero_le _, Nat.zero_le _⟩) (fun v2 e2 => ?_)
  rcases e2 with ⟨w, hw, rfl, rfl⟩ | ⟨rfl, e2⟩
  · have tw := nI_toInt (n := w) (by omega)
    refine z_astore_n C dX7_wipe_5 rfl (by decide) (lv' := [(2, Value.ref (a (20 + w))), (0, Value.ref (a 0)), (1, Value.int (nI w))]) rfl ?_
    refine z_aload_n C dX7_wipe_6 rfl (q := 0) rfl ?_
    refine z_ifnonnull C dX7_wipe_7 (tgt := 13) (by decide) ?_
    refine z_aload_n C dX7_wipe_13 rfl (q := 0) rfl ?_
    refine zg_X6_size C (k := 20 + w) (hL _ (by unfold live; omega)) (kd_w (by omega)) i6 (by decide +kernel) (v := nI (nn c (20 + w) 1)) (CI_sz hI (by omega)).1 dX7_wipe_14 ?_
    refine z_istore_n C dX7_wipe_17 rfl (by decide) (lv' := [(3, Value.int (nI (nn c (20 + w) 1))), (2, Value.ref (a (20 + w))), (0, Value.ref (a 0)), (1, Value.int (nI w))]) rfl ?_
    refine z_aload_n C dX7_wipe_18 rfl (q := 1) rfl ?_
    refine z_iconst C dX7_wipe_19 (v := nI 0) (by decide) ?_
    refine zp_X6_size C (k := 20 + w) (hL _ (by unfold live; omega)) (kd_w (by omega)) i6 (by decide +kernel) dX7_wipe_20 ?_
    refine z_iload_n C dX7_wipe_23 rfl (q := 0) rfl ?_
    exact z_iret C rfl (Nat.le_refl _) (Nat.le_refl _) dX7_wipe_24 ⟨_, rfl, Or.inl ⟨by omega, by rw [tn_nI (by omega)]; exact (CI_sz hI hw).1.symm, by rw [tn_nI (by omega)]⟩⟩
  · refine z_astore_nN C dX7_wipe_5 rfl (by decide) (lv' := [(2, Value.null), (0, Value.ref (a 0)), (1, Value.int word)]) rfl ?_
    refine z_aload_nN C dX7_wipe_6 rfl (q := 0) rfl ?_
    refine z_ifnonnullN C dX7_wipe_7 ?_
    refine z_bipush C dX7_wipe_10 (v := -2) (by decide) ?_
    exact z_iret C rfl (Nat.le_refl _) (Nat.le_refl _) dX7_wipe_12 ⟨_, rfl, Or.inr ⟨by omega, rfl, rfl⟩⟩

set_option maxHeartbeats 4000000 in
set_option maxRecDepth 100000 in
theorem c_X7_slots (l : Launch) (D : va_G) (cy : Nat → ClassId) (a : Nat → Nat) (L : List Nat) (c : Nat → Nat → Int32) (g : Nat → Nat → Int64) (r : Nat → Nat → Option Nat) (nl nk : Nat) (hL : zLv L nl nk) (hR : RC r nl nk) (hI : CI c nl nk) (n : Int32) : zCI l yX7_slots wsX7_slots { frames := 1, cells := 0, slots := 0, locals := 22 } D cy a L c g r [Value.ref (a 0), Value.int n] (fun v c' => ((5 ≤ n.toInt ∧ n.toInt ≤ 60) ∧ v = c 3 1 ∧ c' = up2 c 3 1 n) ∨ (¬ (5 ≤ n.toInt ∧ n.toInt ≤ 60) ∧ v = -2 ∧ c' = c)) := by
  refine z_enter cX7_slots 3 (some .int) (by decide) (Nat.le_of_ble_eq_true rfl) ?_
  intro p e s m below meth co C hin
  have C : zC p s m _ meth co D cy _ cX7_slots 3 (some .int) wsX7_slots RX7 := C
  have i3 : ∀ w ∈ wsX30, w ∈ wsX7_slots := by decide +kernel
  have i7 : ∀ w ∈ wsX70, w ∈ wsX7_slots := by decide +kernel
  refine z_iload_n C dX7_slots_0 rfl (q := 1) rfl ?_
  refine z_iconst C dX7_slots_1 (v := 5) (by decide) ?_
  refine z_bipush C dX7_slots_2 (v := 60) (by decide) ?_
  refine z_pI C (z_runS C (As := [Value.int n, Value.int 5, Value.int 60]) (rest := []) (c_X7_within l D cy a L c g r n 5 60 (V := n.toInt) (LO := 5) (HI := 60) rfl (show (5 : Int32).toInt = 5 from by decide) (show (60 : Int32).toInt = 60 from by decide)) (va_cwS 3 C.2.2.2.2.2.1 gX7_slots_X7_within rfl rfl rfl (by decide +kernel) ⟨Nat.le_of_ble_eq_true rfl, Nat.le_of_ble_eq_true rfl⟩) rfl rfl (Nat.le_of_ble_eq_true rfl) dX7_slots_4 ⟨Nat.zero_le _, Nat.zero_le _⟩) (fun v4 e4 => ?_)
  rcases e4 with ⟨rfl, e4⟩ | ⟨rfl, e4⟩
  · refine z_if_ne C dX7_slots_7 (tgt := 13) (by decide) (fun h7 => ?_) (fun h7 => absurd h7 (by decide))
    refine z_aload_n C dX7_slots_13 rfl (q := 0) rfl ?_
    refine zg_X7_ring C (k := 0) (hL _ (by unfold live; omega)) (by rfl) i7 (by decide +kernel) (k' := 3) (RC_ring hR) dX7_slots_14 ?_
    refine zg_X3_slotCount C (k := 3) (hL _ (by unfold live; omega)) (by rfl) i3 (by decide +kernel) (v := nI (nn c 3 1)) (CI_S hI).1 dX7_slots_17 ?_
    refine z_istore_n C dX7_slots_20 rfl (by decide) (lv' := [(2, Value.int (nI (nn c 3 1))), (0, Value.ref (a 0)), (1, Value.int n)]) rfl ?_
    refine z_aload_n C dX7_slots_21 rfl (q := 1) rfl ?_
    refine zg_X7_ring C (k := 0) (hL _ (by unfold live; omega)) (by rfl) i7 (by decide +kernel) (k' := 3) (RC_ring hR) dX7_slots_22 ?_
    refine z_iload_n C dX7_slots_25 rfl (q := 2) rfl ?_
    refine zp_X3_slotCount C (k := 3) (hL _ (by unfold live; omega)) (by rfl) i3 (by decide +kernel) dX7_slots_26 ?_
    refine z_iload_n C dX7_slots_29 rfl (q := 0) rfl ?_
    exact z_iret C rfl (Nat.le_refl _) (Nat.le_refl _) dX7_slots_30 ⟨_, rfl, Or.inl ⟨by omega, (CI_S hI).1.symm, rfl⟩⟩
  · refine z_if_ne C dX7_slots_7 (tgt := 13) (by decide) (fun h7 => absurd h7 (by decide)) (fun h7 => ?_)
    refine z_bipush C dX7_slots_10 (v := -2) (by decide) ?_
    exact z_iret C rfl (Nat.le_refl _) (Nat.le_refl _) dX7_slots_12 ⟨_, rfl, Or.inr ⟨by omega, rfl, rfl⟩⟩

set_option maxHeartbeats 4000000 in
set_option maxRecDepth 100000 in
theorem c_X7_gap (l : Launch) (D : va_G) (cy : Nat → ClassId) (a : Nat → Nat) (L : List Nat) (c : Nat → Nat → Int32) (g : Nat → Nat → Int64) (r : Nat → Nat → Option Nat) (nl nk : Nat) (hL : zLv L nl nk) (hR : RC r nl nk) (hI : CI c nl nk) (n : Int32) : zCI l yX7_gap wsX7_gap { frames := 1, cells := 0, slots := 0, locals := 22 } D cy a L c g r [Value.ref (a 0), Value.int n] (fun v c' => ((0 ≤ n.toInt ∧ n.toInt ≤ 3) ∧ v = c 3 2 ∧ c' = up2 c 3 2 n) ∨ (¬ (0 ≤ n.toInt ∧ n.toInt ≤ 3) ∧ v = -2 ∧ c' = c)) := by
  refine z_enter cX7_gap 3 (some .int) (by decide) (Nat.le_of_ble_eq_true rfl) ?_
  intro p e s m below meth co C hin
  have C : zC p s m _ meth co D cy _ cX7_gap 3 (some .int) wsX7_gap RX7 := C
  have i3 : ∀ w ∈ wsX30, w ∈ wsX7_gap := by decide +kernel
  have i7 : ∀ w ∈ wsX70, w ∈ wsX7_gap := by decide +kernel
  refine z_iload_n C dX7_gap_0 rfl (q := 1) rfl ?_
  refine z_iconst C dX7_gap_1 (v := 0) (by decide) ?_
  refine z_iconst C dX7_gap_2 (v := 3) (by decide) ?_
  refine z_pI C (z_runS C (As := [Value.int n, Value.int 0, Value.int 3]) (rest := []) (c_X7_within l D cy a L c g r n 0 3 (V := n.toInt) (LO := 0) (HI := 3) rfl (show (0 : Int32).toInt = 0 from by decide) (show (3 : Int32).toInt = 3 from by decide)) (va_cwS 3 C.2.2.2.2.2.1 gX7_gap_X7_within rfl rfl rfl (by decide +kernel) ⟨Nat.le_of_ble_eq_true rfl, Nat.le_of_ble_eq_true rfl⟩) rfl rfl (Nat.le_of_ble_eq_true rfl) dX7_gap_3 ⟨Nat.zero_le _, Nat.zero_le _⟩) (fun v3 e3 => ?_)
  rcases e3 with ⟨rfl, e3⟩ | ⟨rfl, e3⟩
  · refine z_if_ne C dX7_gap_6 (tgt := 12) (by decide) (fun h6 => ?_) (fun h6 => absurd h6 (by decide))
    refine z_aload_n C dX7_gap_12 rfl (q := 0) rfl ?_
    refine zg_X7_ring C (k := 0) (hL _ (by unfold live; omega)) (by rfl) i7 (by decide +kernel) (k' := 3) (RC_ring hR) dX7_gap_13 ?_
    refine zg_X3_gapWidth C (k := 3) (hL _ (by unfold live; omega)) (by rfl) i3 (by decide +kernel) (v := nI (nn c 3 2)) (CI_G hI).1 dX7_gap_16 ?_
    refine z_istore_n C dX7_gap_19 rfl (by decide) (lv' := [(2, Value.int (nI (nn c 3 2))), (0, Value.ref (a 0)), (1, Value.int n)]) rfl ?_
    refine z_aload_n C dX7_gap_20 rfl (q := 1) rfl ?_
    refine zg_X7_ring C (k := 0) (hL _ (by unfold live; omega)) (by rfl) i7 (by decide +kernel) (k' := 3) (RC_ring hR) dX7_gap_21 ?_
    refine z_iload_n C dX7_gap_24 rfl (q := 2) rfl ?_
    refine zp_X3_gapWidth C (k := 3) (hL _ (by unfold live; omega)) (by rfl) i3 (by decide +kernel) dX7_gap_25 ?_
    refine z_iload_n C dX7_gap_28 rfl (q := 0) rfl ?_
    exact z_iret C rfl (Nat.le_refl _) (Nat.le_refl _) dX7_gap_29 ⟨_, rfl, Or.inl ⟨by omega, (CI_G hI).1.symm, rfl⟩⟩
  · refine z_if_ne C dX7_gap_6 (tgt := 12) (by decide) (fun h6 => absurd h6 (by decide)) (fun h6 => ?_)
    refine z_bipush C dX7_gap_9 (v := -2) (by decide) ?_
    exact z_iret C rfl (Nat.le_refl _) (Nat.le_refl _) dX7_gap_11 ⟨_, rfl, Or.inr ⟨by omega, rfl, rfl⟩⟩

set_option maxHeartbeats 4000000 in
set_option maxRecDepth 100000 in
theorem c_X7_wide (l : Launch) (D : va_G) (cy : Nat → ClassId) (a : Nat → Nat) (L : List Nat) (c : Nat → Nat → Int32) (g : Nat → Nat → Int64) (r : Nat → Nat → Option Nat) (nl nk : Nat) (hL : zLv L nl nk) (hR : RC r nl nk) (hI : CI c nl nk) (x : Nat → Nat → Nat) (hX : XC c r nl x) (word : Int32) : zPI l yX7_wide wsX7_wide { frames := 2, cells := 0, slots := 0, locals := 43 } D cy a L c g r [Value.ref (a 0), Value.int word] (fun v => v = if 0 ≤ word.toInt ∧ word.toInt < 8 then nI (wideC c x (tn word)) else -2) := by
  refine z_enter cX7_wide 3 (some .int) (by decide) (Nat.le_of_ble_eq_true rfl) ?_
  intro p e s m below meth co C hin
  have C : zC p s m _ meth co D cy _ cX7_wide 3 (some .int) wsX7_wide RX7 := C
  have i7 : ∀ w ∈ wsX70, w ∈ wsX7_wide := by decide +kernel
  refine z_aload_n C dX7_wide_0 rfl (q := 0) rfl ?_
  refine z_iload_n C dX7_wide_1 rfl (q := 1) rfl ?_
  refine z_pQ C (z_runV C (As := [Value.int word]) (rest := []) (c_X7_wordAt l D cy a L c g r nl nk hL hR hI word) (cwV 1 C.2.2.2.2.2.1 gX7_wide_X7_wordAt rfl rfl rfl (by decide +kernel) ⟨Nat.le_of_ble_eq_true rfl, Nat.le_of_ble_eq_true rfl⟩) (hL _ (by unfold live; omega)) (zF_k7 (by rfl)) rfl rfl rfl rfl (Nat.le_of_ble_eq_true rfl) dX7_wide_2 ⟨Nat.zero_le _, Nat.zero_le _⟩) (fun v2 e2 => ?_)
  rcases e2 with ⟨w, hw, rfl, rfl⟩ | ⟨rfl, e2⟩
  · have tw := nI_toInt (n := w) (by omega)
    refine z_astore_n C dX7_wide_5 rfl (by decide) (lv' := [(2, Value.ref (a (20 + w))), (0, Value.ref (a 0)), (1, Value.int (nI w))]) rfl ?_
    refine z_aload_n C dX7_wide_6 rfl (q := 0) rfl ?_
    refine z_ifnonnull C dX7_wide_7 (tgt := 15) (by decide) ?_
    refine z_aload_n C dX7_wide_15 rfl (q := 1) rfl ?_
    refine zg_X7_ring C (k := 0) (hL _ (by unfold live; omega)) (by rfl) i7 (by decide +kernel) (k' := 3) (RC_ring hR) dX7_wide_16 ?_
    refine z_aload_n C dX7_wide_19 rfl (q := 0) rfl ?_
    refine z_pI C (z_runV C (As := [Value.ref (a (20 + w))]) (rest := []) (c_X3_widthOf l D cy a L c g r nl nk hL hR hI x hX w (by omega)) (cwV 1 C.2.2.2.2.2.1 gX7_wide_X3_widthOf rfl rfl rfl (by decide +kernel) ⟨Nat.le_of_ble_eq_true rfl, Nat.le_of_ble_eq_true rfl⟩) (hL _ (by unfold live; omega)) (zF_k3 (by rfl)) rfl rfl rfl rfl (Nat.le_of_ble_eq_true rfl) dX7_wide_20 ⟨Nat.zero_le _, Nat.zero_le _⟩) (fun v20 e20 => ?_)
    subst e20
    exact z_iret C rfl (Nat.le_refl _) (Nat.le_refl _) dX7_wide_23 ⟨rfl, by rw [if_pos (by omega), tn_nI (by omega)]⟩
  · refine z_astore_nN C dX7_wide_5 rfl (by decide) (lv' := [(2, Value.null), (0, Value.ref (a 0)), (1, Value.int word)]) rfl ?_
    refine z_aload_nN C dX7_wide_6 rfl (q := 0) rfl ?_
    refine z_ifnonnullN C dX7_wide_7 ?_
    refine z_bipush C dX7_wide_10 (v := -2) (by decide) ?_
    refine z_goto C dX7_wide_12 (tgt := 23) (by decide) ?_
    exact z_iret C rfl (Nat.le_refl _) (Nat.le_refl _) dX7_wide_23 ⟨rfl, by rw [if_neg (by omega)]⟩

set_option maxHeartbeats 4000000 in
set_option maxRecDepth 100000 in
theorem c_X7_late (l : Launch) (D : va_G) (cy : Nat → ClassId) (a : Nat → Nat) (L : List Nat) (c : Nat → Nat → Int32) (g : Nat → Nat → Int64) (r : Nat → Nat → Option Nat) (nl nk : Nat) (hL : zLv L nl nk) (hR : RC r nl nk) (hI : CI c nl nk) (x : Nat → Nat → Nat) (hX : XC c r nl x) (word : Int32) : zPI l yX7_late wsX7_late { frames := 3, cells := 0, slots := 0, locals := 69 } D cy a L c g r [Value.ref (a 0), Value.int word] (fun v => v = if 0 ≤ word.toInt ∧ word.toInt < 8 then nI (maxF (lateN c x (tn word)) (nn c (20 + tn word) 1)) else -2) := by
  refine z_enter cX7_late 3 (some .int) (by decide) (Nat.le_of_ble_eq_true rfl) ?_
  intro p e s m below meth co C hin
  have C : zC p s m _ meth co D cy _ cX7_late 3 (some .int) wsX7_late RX7 := C
  refine z_aload_n C dX7_late_0 rfl (q := 0) rfl ?_
  refine z_iload_n C dX7_late_1 rfl (q := 1) rfl ?_
  refine z_pQ C (z_runV C (As := [Value.int word]) (rest := []) (c_X7_wordAt l D cy a L c g r nl nk hL hR hI word) (cwV 1 C.2.2.2.2.2.1 gX7_late_X7_wordAt rfl rfl rfl (by decide +kernel) ⟨Nat.le_of_ble_eq_true rfl, Nat.le_of_ble_eq_true rfl⟩) (hL _ (by unfold live; omega)) (zF_k7 (by rfl)) rfl rfl rfl rfl (Nat.le_of_ble_eq_true rfl) dX7_late_2 ⟨Nat.zero_le _, Nat.zero_le _⟩) (fun v2 e2 => ?_)
  rcases e2 with ⟨w, hw, rfl, rfl⟩ | ⟨rfl, e2⟩
  · have tw := nI_toInt (n := w) (by omega)
    refine z_astore_n C dX7_late_5 rfl (by decide) (lv' := [(2, Value.ref (a (20 + w))), (0, Value.ref (a 0)), (1, Value.int (nI w))]) rfl ?_
    refine z_aload_n C dX7_late_6 rfl (q := 0) rfl ?_
    refine z_ifnonnull C dX7_late_7 (tgt := 15) (by decide) ?_
    refine z_aload_n C dX7_late_15 rfl (q := 0) rfl ?_
    refine z_pI C (z_runV C (As := []) (rest := []) (c_X6_greatestLate l D cy a L c g r nl nk hL hR hI x hX w (by omega) ) (cwV 0 C.2.2.2.2.2.1 gX7_late_X6_greatestLate rfl rfl rfl (by decide +kernel) ⟨Nat.le_of_ble_eq_true rfl, Nat.le_of_ble_eq_true rfl⟩) (hL _ (by unfold live; omega)) (zF_k6 (kd_w (by omega))) rfl rfl rfl rfl (Nat.le_of_ble_eq_true rfl) dX7_late_16 ⟨Nat.zero_le _, Nat.zero_le _⟩) (fun v16 e16 => ?_)
    subst e16
    exact z_iret C rfl (Nat.le_refl _) (Nat.le_refl _) dX7_late_19 ⟨rfl, by rw [if_pos (by omega), tn_nI (by omega)]⟩
  · refine z_astore_nN C dX7_late_5 rfl (by decide) (lv' := [(2, Value.null), (0, Value.ref (a 0)), (1, Value.int word)]) rfl ?_
    refine z_aload_nN C dX7_late_6 rfl (q := 0) rfl ?_
    refine z_ifnonnullN C dX7_late_7 ?_
    refine z_bipush C dX7_late_10 (v := -2) (by decide) ?_
    refine z_goto C dX7_late_12 (tgt := 19) (by decide) ?_
    exact z_iret C rfl (Nat.le_refl _) (Nat.le_refl _) dX7_late_19 ⟨rfl, by rw [if_neg (by omega)]⟩

set_option maxHeartbeats 4000000 in
set_option maxRecDepth 100000 in
theorem c_X7_spoiled (l : Launch) (D : va_G) (cy : Nat → ClassId) (a : Nat → Nat) (L : List Nat) (c : Nat → Nat → Int32) (g : Nat → Nat → Int64) (r : Nat → Nat → Option Nat) (nl nk : Nat) (hL : zLv L nl nk) (hR : RC r nl nk) (hI : CI c nl nk) (x : Nat → Nat → Nat) (hX : XC c r nl x) (word : Int32) : zPI l yX7_spoiled wsX7_spoiled { frames := 3, cells := 0, slots := 0, locals := 69 } D cy a L c g r [Value.ref (a 0), Value.int word] (fun v => v = if 0 ≤ word.toInt ∧ word.toInt < 8 then nI (spoilC c x (tn word)) else -2) := by
  refine z_enter cX7_spoiled 3 (some .int) (by decide) (Nat.le_of_ble_eq_true rfl) ?_
  intro p e s m below meth co C hin
  have C : zC p s m _ meth co D cy _ cX7_spoiled 3 (some .int) wsX7_spoiled RX7 := C
  refine z_aload_n C dX7_spoiled_0 rfl (q := 0) rfl ?_
  refine z_iload_n C dX7_spoiled_1 rfl (q := 1) rfl ?_
  refine z_pQ C (z_runV C (As := [Value.int word]) (rest := []) (c_X7_wordAt l D cy a L c g r nl nk hL hR hI word) (cwV 1 C.2.2.2.2.2.1 gX7_spoiled_X7_wordAt rfl rfl rfl (by decide +kernel) ⟨Nat.le_of_ble_eq_true rfl, Nat.le_of_ble_eq_true rfl⟩) (hL _ (by unfold live; omega)) (zF_k7 (by rfl)) rfl rfl rfl rfl (Nat.le_of_ble_eq_true rfl) dX7_spoiled_2 ⟨Nat.zero_le _, Nat.zero_le _⟩) (fun v2 e2 => ?_)
  rcases e2 with ⟨w, hw, rfl, rfl⟩ | ⟨rfl, e2⟩
  · have tw := nI_toInt (n := w) (by omega)
    refine z_astore_n C dX7_spoiled_5 rfl (by decide) (lv' := [(2, Value.ref (a (20 + w))), (0, Value.ref (a 0)), (1, Value.int (nI w))]) rfl ?_
    refine z_aload_n C dX7_spoiled_6 rfl (q := 0) rfl ?_
    refine z_ifnonnull C dX7_spoiled_7 (tgt := 15) (by decide) ?_
    refine z_aload_n C dX7_spoiled_15 rfl (q := 0) rfl ?_
    refine z_pI C (z_runV C (As := []) (rest := []) (c_X6_countLate l D cy a L c g r nl nk hL hR hI x hX w (by omega) ) (cwV 0 C.2.2.2.2.2.1 gX7_spoiled_X6_countLate rfl rfl rfl (by decide +kernel) ⟨Nat.le_of_ble_eq_true rfl, Nat.le_of_ble_eq_true rfl⟩) (hL _ (by unfold live; omega)) (zF_k6 (kd_w (by omega))) rfl rfl rfl rfl (Nat.le_of_ble_eq_true rfl) dX7_spoiled_16 ⟨Nat.zero_le _, Nat.zero_le _⟩) (fun v16 e16 => ?_)
    subst e16
    exact z_iret C rfl (Nat.le_refl _) (Nat.le_refl _) dX7_spoiled_19 ⟨rfl, by rw [if_pos (by omega), tn_nI (by omega)]⟩
  · refine z_astore_nN C dX7_spoiled_5 rfl (by decide) (lv' := [(2, Value.null), (0, Value.ref (a 0)), (1, Value.int word)]) rfl ?_
    refine z_aload_nN C dX7_spoiled_6 rfl (q := 0) rfl ?_
    refine z_ifnonnullN C dX7_spoiled_7 ?_
    refine z_bipush C dX7_spoiled_10 (v := -2) (by decide) ?_
    refine z_goto C dX7_spoiled_12 (tgt := 19) (by decide) ?_
    exact z_iret C rfl (Nat.le_refl _) (Nat.le_refl _) dX7_spoiled_19 ⟨rfl, by rw [if_neg (by omega)]⟩

set_option maxHeartbeats 4000000 in
set_option maxRecDepth 100000 in
theorem c_X7_order (l : Launch) (D : va_G) (cy : Nat → ClassId) (a : Nat → Nat) (L : List Nat) (c : Nat → Nat → Int32) (g : Nat → Nat → Int64) (r : Nat → Nat → Option Nat) (nl nk : Nat) (hL : zLv L nl nk) (hR : RC r nl nk) (hI : CI c nl nk) (x : Nat → Nat → Nat) (hX : XC c r nl x) (word i : Int32) : zPI l yX7_order wsX7_order { frames := 3, cells := 0, slots := 0, locals := 69 } D cy a L c g r [Value.ref (a 0), Value.int word, Value.int i] (fun v => ((0 ≤ word.toInt ∧ word.toInt < 8 ∧ 0 ≤ i.toInt ∧ i.toInt < (nn c (20 + tn word) 1 : Int)) ∧ ((∃ p, p < nn c (20 + tn word) 1 ∧ v = nI p ∧ rankC c x (tn word) p (nn c (20 + tn word) 1) = tn i ∧ ∀ j, j < p → rankC c x (tn word) j (nn c (20 + tn word) 1) ≠ tn i) ∨ (v = -2 ∧ ∀ j, j < nn c (20 + tn word) 1 → rankC c x (tn word) j (nn c (20 + tn word) 1) ≠ tn i))) ∨ (¬ (0 ≤ word.toInt ∧ word.toInt < 8 ∧ 0 ≤ i.toInt ∧ i.toInt < (nn c (20 + tn word) 1 : Int)) ∧ v = -2)) := by
  refine z_enter cX7_order 4 (some .int) (by decide) (Nat.le_of_ble_eq_true rfl) ?_
  intro p e s m below meth co C hin
  have C : zC p s m _ meth co D cy _ cX7_order 4 (some .int) wsX7_order RX7 := C
  have i6 : ∀ w ∈ wsX60, w ∈ wsX7_order := by decide +kernel
  refine z_aload_n C dX7_order_0 rfl (q := 0) rfl ?_
  refine z_iload_n C dX7_order_1 rfl (q := 1) rfl ?_
  refine z_pQ C (z_runV C (As := [Value.int word]) (rest := []) (c_X7_wordAt l D cy a L c g r nl nk hL hR hI word) (cwV 1 C.2.2.2.2.2.1 gX7_order_X7_wordAt rfl rfl rfl (by decide +kernel) ⟨Nat.le_of_ble_eq_true rfl, Nat.le_of_ble_eq_true rfl⟩) (hL _ (by unfold live; omega)) (zF_k7 (by rfl)) rfl rfl rfl rfl (Nat.le_of_ble_eq_true rfl) dX7_order_2 ⟨Nat.zero_le _, Nat.zero_le _⟩) (fun v2 e2 => ?_)
  rcases e2 with ⟨w, hw, rfl, rfl⟩ | ⟨rfl, e2⟩
  · have tw := nI_toInt (n := w) (by omega)
    have hz := (CI_sz hI hw).2
    refine z_astore_n C dX7_order_5 rfl (by decide) (lv' := [(3, Value.ref (a (20 + w))), (0, Value.ref (a 0)), (1, Value.int (nI w)), (2, Value.int i)]) rfl ?_
    refine z_aload_n C dX7_order_6 rfl (q := 0) rfl ?_
    refine z_ifnull C dX7_order_7 ?_
    refine z_iload_n C dX7_order_10 rfl (q := 3) rfl ?_
    refine z_iconst C dX7_order_11 (v := 0) (by decide) ?_
    refine z_aload_n C dX7_order_12 rfl (q := 0) rfl ?_
    refine zg_X6_size C (k := 20 + w) (hL _ (by unfold live; omega)) (kd_w (by omega)) i6 (by decide +kernel) (v := nI (nn c (20 + w) 1)) (CI_sz hI (by omega)).1 dX7_order_13 ?_
    refine z_iconst C dX7_order_16 (v := 1) (by decide) ?_
    refine z_isub C dX7_order_17 (v := (nI (nn c (20 + w) 1)) - 1) rfl ?_
    refine z_pI C (z_runS C (As := [Value.int i, Value.int 0, Value.int ((nI (nn c (20 + w) 1)) - 1)]) (rest := []) (c_X7_within l D cy a L c g r i 0 ((nI (nn c (20 + w) 1)) - 1) (V := i.toInt) (LO := 0) (HI := ((nn c (20 + w) 1 : Nat) : Int) - 1) rfl (show (0 : Int32).toInt = 0 from by decide) (tI_pred (by omega))) (va_cwS 3 C.2.2.2.2.2.1 gX7_order_X7_within rfl rfl rfl (by decide +kernel) ⟨Nat.le_of_ble_eq_true rfl, Nat.le_of_ble_eq_true rfl⟩) rfl rfl (Nat.le_of_ble_eq_true rfl) dX7_order_18 ⟨Nat.zero_le _, Nat.zero_le _⟩) (fun v18 e18 => ?_)
    rcases e18 with ⟨rfl, e18⟩ | ⟨rfl, e18⟩
    · obtain ⟨i1, hi1, rfl⟩ := arg_pr e18
      have ti1 := nI_toInt (n := i1) (by omega)
      have ui1 := tn_nI (j := i1) (by omega)
      refine z_if_ne C dX7_order_21 (tgt := 27) (by decide) (fun h21 => ?_) (fun h21 => absurd h21 (by decide))
      refine z_aload_n C dX7_order_27 rfl (q := 0) rfl ?_
      refine z_iload_n C dX7_order_28 rfl (q := 3) rfl ?_
      refine z_pI C (z_runV C (As := [Value.int (nI i1)]) (rest := []) (c_X6_placeInOrder l D cy a L c g r nl nk hL hR hI x hX w (by omega) i1 (by omega)) (cwV 1 C.2.2.2.2.2.1 gX7_order_X6_placeInOrder rfl rfl rfl (by decide +kernel) ⟨Nat.le_of_ble_eq_true rfl, Nat.le_of_ble_eq_true rfl⟩) (hL _ (by unfold live; omega)) (zF_k6 (kd_w (by omega))) rfl rfl rfl rfl (Nat.le_of_ble_eq_true rfl) dX7_order_29 ⟨Nat.zero_le _, Nat.zero_le _⟩) (fun v29 e29 => ?_)
      exact z_iret C rfl (Nat.le_refl _) (Nat.le_refl _) dX7_order_32 ⟨rfl, Or.inl ⟨by rw [tn_nI (j := w) (by omega)]; omega, by rw [tn_nI (j := w) (by omega), ui1]; exact e29⟩⟩
    · refine z_if_ne C dX7_order_21 (tgt := 27) (by decide) (fun h21 => absurd h21 (by decide)) (fun h21 => ?_)
      refine z_bipush C dX7_order_24 (v := -2) (by decide) ?_
      exact z_iret C rfl (Nat.le_refl _) (Nat.le_refl _) dX7_order_26 ⟨rfl, Or.inr ⟨by rw [tn_nI (j := w) (by omega)]; omega, rfl⟩⟩
  · refine z_astore_nN C dX7_order_5 rfl (by decide) (lv' := [(3, Value.null), (0, Value.ref (a 0)), (1, Value.int word), (2, Value.int i)]) rfl ?_
    refine z_aload_nN C dX7_order_6 rfl (q := 0) rfl ?_
    refine z_ifnullN C dX7_order_7 (tgt := 24) (by decide) ?_
    refine z_bipush C dX7_order_24 (v := -2) (by decide) ?_
    exact z_iret C rfl (Nat.le_refl _) (Nat.le_refl _) dX7_order_26 ⟨rfl, Or.inr ⟨by omega, rfl⟩⟩
