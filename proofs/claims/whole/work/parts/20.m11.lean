set_option maxHeartbeats 4000000 in
set_option maxRecDepth 100000 in
theorem c_X7_troubleOfSheet (l : Launch) (D : va_G) (cy : Nat → ClassId) (a : Nat → Nat) (L : List Nat) (c : Nat → Nat → Int32) (g : Nat → Nat → Int64) (r : Nat → Nat → Option Nat) (nl nk : Nat) (hL : zLv L nl nk) (hR : RC r nl nk) (hI : CI c nl nk) (sheet : Int32) : zCI l yX7_troubleOfSheet wsX7_troubleOfSheet { frames := 2, cells := 0, slots := 0, locals := 42 } D cy a L c g r [Value.ref (a 0), Value.int sheet] (fun v c' => (¬ (0 ≤ sheet.toInt ∧ sheet.toInt ≤ 3) ∧ v = -2 ∧ c' = c) ∨ ((0 ≤ sheet.toInt ∧ sheet.toInt ≤ 3) ∧ nn c (40 + tn sheet) 1 = 1 ∧ v = -11 ∧ c' = up2 c 0 10 1) ∨ ((0 ≤ sheet.toInt ∧ sheet.toInt ≤ 3) ∧ nn c (40 + tn sheet) 1 = 0 ∧ v = 0 ∧ c' = c)) := by
  refine z_enter cX7_troubleOfSheet 2 (some .int) (by decide) (Nat.le_of_ble_eq_true rfl) ?_
  intro p e s m below meth co C hin
  have C : zC p s m _ meth co D cy _ cX7_troubleOfSheet 2 (some .int) wsX7_troubleOfSheet RX7 := C
  have i4 : ∀ w ∈ wsX40, w ∈ wsX7_troubleOfSheet := by decide +kernel
  have i7 : ∀ w ∈ wsX70, w ∈ wsX7_troubleOfSheet := by decide +kernel
  refine z_iload_n C dX7_troubleOfSheet_0 rfl (q := 1) rfl ?_
  refine z_pI C (z_runS C (As := [Value.int sheet]) (rest := []) (c_X7_isSheet l D cy a L c g r sheet) (va_cwS 1 C.2.2.2.2.2.1 gX7_troubleOfSheet_X7_isSheet rfl rfl rfl (by decide +kernel) ⟨Nat.le_of_ble_eq_true rfl, Nat.le_of_ble_eq_true rfl⟩) rfl rfl (Nat.le_of_ble_eq_true rfl) dX7_troubleOfSheet_1 ⟨Nat.zero_le _, Nat.zero_le _⟩) (fun v1 e1 => ?_)
  rcases e1 with ⟨rfl, e1⟩ | ⟨rfl, e1⟩
  · obtain ⟨sh, hsh, rfl⟩ := arg_nI (b := 3) e1
    have tsh := nI_toInt (n := sh) (by omega)
    have ush := tn_nI (j := sh) (by omega)
    have ho := (CI_sh hI hsh).1.2
    refine z_if_ne C dX7_troubleOfSheet_4 (tgt := 10) (by decide) (fun h4 => ?_) (fun h4 => absurd h4 (by decide))
    refine z_aload_n C dX7_troubleOfSheet_10 rfl (q := 0) rfl ?_
    refine zg_X7_sheetRow C (k := 0) (hL _ (by unfold live; omega)) (by rfl) i7 (by decide +kernel) (k' := 11) (RC_sheetRow hR) dX7_troubleOfSheet_11 ?_
    refine z_iload_n C dX7_troubleOfSheet_14 rfl (q := 1) rfl ?_
    refine z_aaload C (k := 11) (hL _ (by unfold live; omega)) (by rfl) (by decide) (j := sh) rfl (by rw [show ln 11 = 4 from rfl]; omega) (by rw [show ln 11 = 4 from rfl]; decide) (v := .ref (a (40 + sh))) (by rw [RC_sheet hR (by omega)]; rfl) dX7_troubleOfSheet_15 ?_
    refine zg_X4_isLost C (k := 40 + sh) (hL _ (by unfold live; omega)) (kd_s (by omega)) i4 (by decide +kernel) (v := nI (nn c (40 + sh) 1)) (CI_sh hI (by omega)).1.1 dX7_troubleOfSheet_16 ?_
    refine z_if_eq C dX7_troubleOfSheet_19 (tgt := 30) (by decide) (fun h19 => ?_) (fun h19 => ?_)
    · have q19 := iv_eq (y := 0) (nI_toInt (by omega)) (show (0 : Int32).toInt = 0 from by decide) h19
      refine z_iconst C dX7_troubleOfSheet_30 (v := 0) (by decide) ?_
      exact z_iret C rfl (Nat.le_refl _) (Nat.le_refl _) dX7_troubleOfSheet_31 ⟨_, rfl, Or.inr (Or.inr ⟨by omega, by rw [ush]; omega, rfl, rfl⟩)⟩
    · have q19 := iv_ne (y := 0) (nI_toInt (by omega)) (show (0 : Int32).toInt = 0 from by decide) h19
      refine z_aload_n C dX7_troubleOfSheet_22 rfl (q := 0) rfl ?_
      refine z_iconst C dX7_troubleOfSheet_23 (v := 1) (by decide) ?_
      refine z_cI C (z_runV C (As := [Value.int 1]) (rest := []) (c_X7_finding l D cy a L c g r nl nk hL 1) (cwV 1 C.2.2.2.2.2.1 gX7_troubleOfSheet_X7_finding rfl rfl rfl (by decide +kernel) ⟨Nat.le_of_ble_eq_true rfl, Nat.le_of_ble_eq_true rfl⟩) (hL _ (by unfold live; omega)) (zF_k7 (by rfl)) rfl rfl rfl rfl (Nat.le_of_ble_eq_true rfl) dX7_troubleOfSheet_24 ⟨Nat.zero_le _, Nat.zero_le _⟩) (fun v24 c24 e24 => ?_)
      obtain ⟨rfl, rfl⟩ := e24
      refine z_goto C dX7_troubleOfSheet_27 (tgt := 31) (by decide) ?_
      exact z_iret C rfl (Nat.le_refl _) (Nat.le_refl _) dX7_troubleOfSheet_31 ⟨_, rfl, Or.inr (Or.inl ⟨by omega, by rw [ush]; omega, by decide, rfl⟩)⟩
  · refine z_if_ne C dX7_troubleOfSheet_4 (tgt := 10) (by decide) (fun h4 => absurd h4 (by decide)) (fun h4 => ?_)
    refine z_bipush C dX7_troubleOfSheet_7 (v := -2) (by decide) ?_
    exact z_iret C rfl (Nat.le_refl _) (Nat.le_refl _) dX7_troubleOfSheet_9 ⟨_, rfl, Or.inl ⟨e1, rfl, rfl⟩⟩

set_option maxHeartbeats 4000000 in
set_option maxRecDepth 100000 in
theorem c_X7_lose (l : Launch) (D : va_G) (cy : Nat → ClassId) (a : Nat → Nat) (L : List Nat) (c : Nat → Nat → Int32) (g : Nat → Nat → Int64) (r : Nat → Nat → Option Nat) (nl nk : Nat) (hL : zLv L nl nk) (hR : RC r nl nk) (hI : CI c nl nk) (sheet : Int32) : zCI l yX7_lose wsX7_lose { frames := 3, cells := 0, slots := 0, locals := 63 } D cy a L c g r [Value.ref (a 0), Value.int sheet] (fun v c' => (¬ (0 ≤ sheet.toInt ∧ sheet.toInt ≤ 3) ∧ v = -2 ∧ c' = c) ∨ ((0 ≤ sheet.toInt ∧ sheet.toInt ≤ 3) ∧ nn c (40 + tn sheet) 1 = 1 ∧ v = -11 ∧ c' = up2 c 0 10 1) ∨ ((0 ≤ sheet.toInt ∧ sheet.toInt ≤ 3) ∧ nn c (40 + tn sheet) 1 = 0 ∧ v = c (40 + tn sheet) 3 ∧ c' = up2 c (40 + tn sheet) 1 (nI 1))) := by
  refine z_enter cX7_lose 3 (some .int) (by decide) (Nat.le_of_ble_eq_true rfl) ?_
  intro p e s m below meth co C hin
  have C : zC p s m _ meth co D cy _ cX7_lose 3 (some .int) wsX7_lose RX7 := C
  have i4 : ∀ w ∈ wsX40, w ∈ wsX7_lose := by decide +kernel
  have i7 : ∀ w ∈ wsX70, w ∈ wsX7_lose := by decide +kernel
  refine z_aload_n C dX7_lose_0 rfl (q := 0) rfl ?_
  refine z_iload_n C dX7_lose_1 rfl (q := 1) rfl ?_
  refine z_cI C (z_runV C (As := [Value.int sheet]) (rest := []) (c_X7_troubleOfSheet l D cy a L c g r nl nk hL hR hI sheet) (cwV 1 C.2.2.2.2.2.1 gX7_lose_X7_troubleOfSheet rfl rfl rfl (by decide +kernel) ⟨Nat.le_of_ble_eq_true rfl, Nat.le_of_ble_eq_true rfl⟩) (hL _ (by unfold live; omega)) (zF_k7 (by rfl)) rfl rfl rfl rfl (Nat.le_of_ble_eq_true rfl) dX7_lose_2 ⟨Nat.zero_le _, Nat.zero_le _⟩) (fun v2 c2 e2 => ?_)
  rcases e2 with ⟨hts, rfl, hc⟩ | ⟨hts, htl, rfl, rfl⟩ | ⟨hts, htl, rfl, hc⟩
  · have hc := hc.symm
    subst hc
    refine z_istore_n C dX7_lose_5 rfl (by decide) (lv' := [(2, Value.int (-2)), (0, Value.ref (a 0)), (1, Value.int sheet)]) rfl ?_
    refine z_iload_n C dX7_lose_6 rfl (q := 0) rfl ?_
    refine z_if_eq C dX7_lose_7 (tgt := 12) (by decide) (fun h7 => absurd h7 (by decide)) (fun h7 => ?_)
    refine z_iload_n C dX7_lose_10 rfl (q := 0) rfl ?_
    exact z_iret C rfl (Nat.le_refl _) (Nat.le_refl _) dX7_lose_11 ⟨_, rfl, Or.inl ⟨hts, rfl, rfl⟩⟩
  · refine z_istore_n C dX7_lose_5 rfl (by decide) (lv' := [(2, Value.int (-11)), (0, Value.ref (a 0)), (1, Value.int sheet)]) rfl ?_
    refine z_iload_n C dX7_lose_6 rfl (q := 0) rfl ?_
    refine z_if_eq C dX7_lose_7 (tgt := 12) (by decide) (fun h7 => absurd h7 (by decide)) (fun h7 => ?_)
    refine z_iload_n C dX7_lose_10 rfl (q := 0) rfl ?_
    exact z_iret C rfl (Nat.le_refl _) (Nat.le_refl _) dX7_lose_11 ⟨_, rfl, Or.inr (Or.inl ⟨hts, htl, rfl, rfl⟩)⟩
  · have hc := hc.symm
    subst hc
    obtain ⟨sh, hsh, rfl⟩ := arg_nI (b := 3) hts
    have tsh := nI_toInt (n := sh) (by omega)
    have ush := tn_nI (j := sh) (by omega)
    rw [ush] at htl
    refine z_istore_n C dX7_lose_5 rfl (by decide) (lv' := [(2, Value.int 0), (0, Value.ref (a 0)), (1, Value.int (nI sh))]) rfl ?_
    refine z_iload_n C dX7_lose_6 rfl (q := 0) rfl ?_
    refine z_if_eq C dX7_lose_7 (tgt := 12) (by decide) (fun h7 => ?_) (fun h7 => absurd h7 (by decide))
    refine z_aload_n C dX7_lose_12 rfl (q := 1) rfl ?_
    refine zg_X7_sheetRow C (k := 0) (hL _ (by unfold live; omega)) (by rfl) i7 (by decide +kernel) (k' := 11) (RC_sheetRow hR) dX7_lose_13 ?_
    refine z_iload_n C dX7_lose_16 rfl (q := 2) rfl ?_
    refine z_aaload C (k := 11) (hL _ (by unfold live; omega)) (by rfl) (by decide) (j := sh) rfl (by rw [show ln 11 = 4 from rfl]; omega) (by rw [show ln 11 = 4 from rfl]; decide) (v := .ref (a (40 + sh))) (by rw [RC_sheet hR (by omega)]; rfl) dX7_lose_17 ?_
    refine z_iconst C dX7_lose_18 (v := nI 1) (by decide) ?_
    refine zp_X4_isLost C (k := 40 + sh) (hL _ (by unfold live; omega)) (kd_s (by omega)) i4 (by decide +kernel) rfl rfl dX7_lose_19 ?_
    refine z_aload_n C dX7_lose_22 rfl (q := 1) rfl ?_
    refine zg_X7_sheetRow C (k := 0) (hL _ (by unfold live; omega)) (by rfl) i7 (by decide +kernel) (k' := 11) (RC_sheetRow hR) dX7_lose_23 ?_
    refine z_iload_n C dX7_lose_26 rfl (q := 2) rfl ?_
    refine z_aaload C (k := 11) (hL _ (by unfold live; omega)) (by rfl) (by decide) (j := sh) rfl (by rw [show ln 11 = 4 from rfl]; omega) (by rw [show ln 11 = 4 from rfl]; decide) (v := .ref (a (40 + sh))) (by rw [RC_sheet hR (by omega)]; rfl) dX7_lose_27 ?_
    refine zg_X4_size C (k := 40 + sh) (hL _ (by unfold live; omega)) (kd_s (by omega)) i4 (by decide +kernel) (v := c (40 + sh) 3) (by simp [up2]) dX7_lose_28 ?_
    exact z_iret C rfl (Nat.le_refl _) (Nat.le_refl _) dX7_lose_31 ⟨_, rfl, Or.inr (Or.inr ⟨by omega, by rw [ush]; exact htl, by rw [ush], by rw [ush]⟩)⟩

set_option maxHeartbeats 4000000 in
set_option maxRecDepth 100000 in
theorem c_X7_troubleOfItem (l : Launch) (D : va_G) (cy : Nat → ClassId) (a : Nat → Nat) (L : List Nat) (c : Nat → Nat → Int32) (g : Nat → Nat → Int64) (r : Nat → Nat → Option Nat) (nl nk : Nat) (hL : zLv L nl nk) (hR : RC r nl nk) (hI : CI c nl nk) (sheet form i : Int32) : zCI l yX7_troubleOfItem wsX7_troubleOfItem { frames := 3, cells := 0, slots := 0, locals := 63 } D cy a L c g r [Value.ref (a 0), Value.int sheet, Value.int form, Value.int i] (fun v c' => ((¬ ((0 ≤ sheet.toInt ∧ sheet.toInt ≤ 3) ∧ (0 ≤ form.toInt ∧ form.toInt ≤ 2)) ∧ v = -2 ∧ c' = c) ∨ ((0 ≤ sheet.toInt ∧ sheet.toInt ≤ 3) ∧ (0 ≤ form.toInt ∧ form.toInt ≤ 2) ∧ nn c (40 + tn sheet) 1 = 1 ∧ v = -11 ∧ c' = up2 c 0 10 1) ∨ ((0 ≤ sheet.toInt ∧ sheet.toInt ≤ 3) ∧ (0 ≤ form.toInt ∧ form.toInt ≤ 2) ∧ nn c (40 + tn sheet) 1 = 0 ∧ nn c (40 + tn sheet) 2 ≠ tn form ∧ v = -13 ∧ c' = up2 c 0 10 3) ∨ ((0 ≤ sheet.toInt ∧ sheet.toInt ≤ 3) ∧ (0 ≤ form.toInt ∧ form.toInt ≤ 2) ∧ nn c (40 + tn sheet) 1 = 0 ∧ nn c (40 + tn sheet) 2 = tn form ∧ ¬ (0 ≤ i.toInt ∧ i.toInt < (nn c (40 + tn sheet) 3 : Int)) ∧ v = -12 ∧ c' = up2 c 0 10 2)) ∨ (((0 ≤ sheet.toInt ∧ sheet.toInt ≤ 3) ∧ (0 ≤ form.toInt ∧ form.toInt ≤ 2) ∧ nn c (40 + tn sheet) 1 = 0 ∧ nn c (40 + tn sheet) 2 = tn form ∧ (0 ≤ i.toInt ∧ i.toInt < (nn c (40 + tn sheet) 3 : Int))) ∧ v = 0 ∧ c' = c)) := by
  refine z_enter cX7_troubleOfItem 5 (some .int) (by decide) (Nat.le_of_ble_eq_true rfl) ?_
  intro p e s m below meth co C hin
  have C : zC p s m _ meth co D cy _ cX7_troubleOfItem 5 (some .int) wsX7_troubleOfItem RX7 := C
  have i4 : ∀ w ∈ wsX40, w ∈ wsX7_troubleOfItem := by decide +kernel
  have i7 : ∀ w ∈ wsX70, w ∈ wsX7_troubleOfItem := by decide +kernel
  refine z_iload_n C dX7_troubleOfItem_0 rfl (q := 2) rfl ?_
  refine z_pI C (z_runS C (As := [Value.int form]) (rest := []) (c_X7_isForm l D cy a L c g r form) (va_cwS 1 C.2.2.2.2.2.1 gX7_troubleOfItem_X7_isForm rfl rfl rfl (by decide +kernel) ⟨Nat.le_of_ble_eq_true rfl, Nat.le_of_ble_eq_true rfl⟩) rfl rfl (Nat.le_of_ble_eq_true rfl) dX7_troubleOfItem_1 ⟨Nat.zero_le _, Nat.zero_le _⟩) (fun v1 e1 => ?_)
  rcases e1 with ⟨rfl, e1⟩ | ⟨rfl, e1⟩
  · obtain ⟨fo, hfo, rfl⟩ := arg_nI (b := 2) e1
    have tfo := nI_toInt (n := fo) (by omega)
    have ufo := tn_nI (j := fo) (by omega)
    refine z_if_ne C dX7_troubleOfItem_4 (tgt := 10) (by decide) (fun h4 => ?_) (fun h4 => absurd h4 (by decide))
    refine z_aload_n C dX7_troubleOfItem_10 rfl (q := 0) rfl ?_
    refine z_iload_n C dX7_troubleOfItem_11 rfl (q := 1) rfl ?_
    refine z_cI C (z_runV C (As := [Value.int sheet]) (rest := []) (c_X7_troubleOfSheet l D cy a L c g r nl nk hL hR hI sheet) (cwV 1 C.2.2.2.2.2.1 gX7_troubleOfItem_X7_troubleOfSheet rfl rfl rfl (by decide +kernel) ⟨Nat.le_of_ble_eq_true rfl, Nat.le_of_ble_eq_true rfl⟩) (hL _ (by unfold live; omega)) (zF_k7 (by rfl)) rfl rfl rfl rfl (Nat.le_of_ble_eq_true rfl) dX7_troubleOfItem_12 ⟨Nat.zero_le _, Nat.zero_le _⟩) (fun v12 c12 e12 => ?_)
    rcases e12 with ⟨hts, rfl, hc⟩ | ⟨hts, htl, rfl, rfl⟩ | ⟨hts, htl, rfl, hc⟩
    · have hc := hc.symm
      subst hc
      refine z_istore C dX7_troubleOfItem_15 (by decide) (lv' := [(4, Value.int (-2)), (0, Value.ref (a 0)), (1, Value.int sheet), (2, Value.int (nI fo)), (3, Value.int i)]) rfl ?_
      refine z_iload C dX7_troubleOfItem_17 (q := 0) rfl ?_
      refine z_if_eq C dX7_troubleOfItem_19 (tgt := 25) (by decide) (fun h19 => absurd h19 (by decide)) (fun h19 => ?_)
      refine z_iload C dX7_troubleOfItem_22 (q := 0) rfl ?_
      exact z_iret C rfl (Nat.le_refl _) (Nat.le_refl _) dX7_troubleOfItem_24 ⟨_, rfl, Or.inl (Or.inl ⟨by omega, rfl, rfl⟩)⟩
    · refine z_istore C dX7_troubleOfItem_15 (by decide) (lv' := [(4, Value.int (-11)), (0, Value.ref (a 0)), (1, Value.int sheet), (2, Value.int (nI fo)), (3, Value.int i)]) rfl ?_
      refine z_iload C dX7_troubleOfItem_17 (q := 0) rfl ?_
      refine z_if_eq C dX7_troubleOfItem_19 (tgt := 25) (by decide) (fun h19 => absurd h19 (by decide)) (fun h19 => ?_)
      refine z_iload C dX7_troubleOfItem_22 (q := 0) rfl ?_
      exact z_iret C rfl (Nat.le_refl _) (Nat.le_refl _) dX7_troubleOfItem_24 ⟨_, rfl, Or.inl (Or.inr (Or.inl ⟨hts, by omega, htl, rfl, rfl⟩))⟩
    · have hc := hc.symm
      subst hc
      obtain ⟨sh, hsh, rfl⟩ := arg_nI (b := 3) hts
      have tsh := nI_toInt (n := sh) (by omega)
      have ush := tn_nI (j := sh) (by omega)
      rw [ush] at htl
      refine z_istore C dX7_troubleOfItem_15 (by decide) (lv' := [(4, Value.int 0), (0, Value.ref (a 0)), (1, Value.int (nI sh)), (2, Value.int (nI fo)), (3, Value.int i)]) rfl ?_
      refine z_iload C dX7_troubleOfItem_17 (q := 0) rfl ?_
      refine z_if_eq C dX7_troubleOfItem_19 (tgt := 25) (by decide) (fun h19 => ?_) (fun h19 => absurd h19 (by decide))
      refine z_aload_n C dX7_troubleOfItem_25 rfl (q := 1) rfl ?_
      refine zg_X7_sheetRow C (k := 0) (hL _ (by unfold live; omega)) (by rfl) i7 (by decide +kernel) (k' := 11) (RC_sheetRow hR) dX7_troubleOfItem_26 ?_
      refine z_iload_n C dX7_troubleOfItem_29 rfl (q := 2) rfl ?_
      refine z_aaload C (k := 11) (hL _ (by unfold live; omega)) (by rfl) (by decide) (j := sh) rfl (by rw [show ln 11 = 4 from rfl]; omega) (by rw [show ln 11 = 4 from rfl]; decide) (v := .ref (a (40 + sh))) (by rw [RC_sheet hR (by omega)]; rfl) dX7_troubleOfItem_30 ?_
      have hf := (CI_sh hI hsh).2.1.2
      refine zg_X4_form C (k := 40 + sh) (hL _ (by unfold live; omega)) (kd_s (by omega)) i4 (by decide +kernel) (v := nI (nn c (40 + sh) 2)) (CI_sh hI (by omega)).2.1.1 dX7_troubleOfItem_31 ?_
      refine z_iload_n C dX7_troubleOfItem_34 rfl (q := 3) rfl ?_
      refine z_icmp_eq C dX7_troubleOfItem_35 (tgt := 44) (by decide) (fun h35 => ?_) (fun h35 => ?_)
      · have q35 := iv_eq (nI_toInt (by omega)) (nI_toInt (by omega)) h35
        refine z_aload_n C dX7_troubleOfItem_44 rfl (q := 1) rfl ?_
        refine zg_X7_sheetRow C (k := 0) (hL _ (by unfold live; omega)) (by rfl) i7 (by decide +kernel) (k' := 11) (RC_sheetRow hR) dX7_troubleOfItem_45 ?_
        refine z_iload_n C dX7_troubleOfItem_48 rfl (q := 2) rfl ?_
        refine z_aaload C (k := 11) (hL _ (by unfold live; omega)) (by rfl) (by decide) (j := sh) rfl (by rw [show ln 11 = 4 from rfl]; omega) (by rw [show ln 11 = 4 from rfl]; decide) (v := .ref (a (40 + sh))) (by rw [RC_sheet hR (by omega)]; rfl) dX7_troubleOfItem_49 ?_
        refine z_iload_n C dX7_troubleOfItem_50 rfl (q := 4) rfl ?_
        refine z_pI C (z_runV C (As := [Value.int i]) (rest := []) (c_X4_hasItem l D cy a L c g r nl nk hL hR hI sh (by omega) i) (cwV 1 C.2.2.2.2.2.1 gX7_troubleOfItem_X4_hasItem rfl rfl rfl (by decide +kernel) ⟨Nat.le_of_ble_eq_true rfl, Nat.le_of_ble_eq_true rfl⟩) (hL _ (by unfold live; omega)) (zF_k4 (kd_s (by omega))) rfl rfl rfl rfl (Nat.le_of_ble_eq_true rfl) dX7_troubleOfItem_51 ⟨Nat.zero_le _, Nat.zero_le _⟩) (fun v51 e51 => ?_)
        rcases e51 with ⟨rfl, e51⟩ | ⟨rfl, e51⟩
        · refine z_if_eq C dX7_troubleOfItem_54 (tgt := 61) (by decide) (fun h54 => absurd h54 (by decide)) (fun h54 => ?_)
          refine z_iconst C dX7_troubleOfItem_57 (v := 0) (by decide) ?_
          refine z_goto C dX7_troubleOfItem_58 (tgt := 66) (by decide) ?_
          exact z_iret C rfl (Nat.le_refl _) (Nat.le_refl _) dX7_troubleOfItem_66 ⟨_, rfl, Or.inr ⟨⟨by omega, by omega, by rw [ush]; exact htl, by rw [ush, ufo]; omega, by rw [ush]; exact e51⟩, rfl, rfl⟩⟩
        · refine z_if_eq C dX7_troubleOfItem_54 (tgt := 61) (by decide) (fun h54 => ?_) (fun h54 => absurd h54 (by decide))
          refine z_aload_n C dX7_troubleOfItem_61 rfl (q := 1) rfl ?_
          refine z_iconst C dX7_troubleOfItem_62 (v := 2) (by decide) ?_
          refine z_cI C (z_runV C (As := [Value.int 2]) (rest := []) (c_X7_finding l D cy a L c g r nl nk hL 2) (cwV 1 C.2.2.2.2.2.1 gX7_troubleOfItem_X7_finding rfl rfl rfl (by decide +kernel) ⟨Nat.le_of_ble_eq_true rfl, Nat.le_of_ble_eq_true rfl⟩) (hL _ (by unfold live; omega)) (zF_k7 (by rfl)) rfl rfl rfl rfl (Nat.le_of_ble_eq_true rfl) dX7_troubleOfItem_63 ⟨Nat.zero_le _, Nat.zero_le _⟩) (fun v63 c63 e63 => ?_)
          obtain ⟨rfl, rfl⟩ := e63
          exact z_iret C rfl (Nat.le_refl _) (Nat.le_refl _) dX7_troubleOfItem_66 ⟨_, rfl, Or.inl (Or.inr (Or.inr (Or.inr ⟨by omega, by omega, by rw [ush]; exact htl, by rw [ush, ufo]; omega, by rw [ush]; exact e51, by decide, rfl⟩)))⟩
      · have q35 := iv_ne (nI_toInt (by omega)) (nI_toInt (by omega)) h35
        refine z_aload_n C dX7_troubleOfItem_38 rfl (q := 1) rfl ?_
        refine z_iconst C dX7_troubleOfItem_39 (v := 3) (by decide) ?_
        refine z_cI C (z_runV C (As := [Value.int 3]) (rest := []) (c_X7_finding l D cy a L c g r nl nk hL 3) (cwV 1 C.2.2.2.2.2.1 gX7_troubleOfItem_X7_finding rfl rfl rfl (by decide +kernel) ⟨Nat.le_of_ble_eq_true rfl, Nat.le_of_ble_eq_true rfl⟩) (hL _ (by unfold live; omega)) (zF_k7 (by rfl)) rfl rfl rfl rfl (Nat.le_of_ble_eq_true rfl) dX7_troubleOfItem_40 ⟨Nat.zero_le _, Nat.zero_le _⟩) (fun v40 c40 e40 => ?_)
        obtain ⟨rfl, rfl⟩ := e40
        exact z_iret C rfl (Nat.le_refl _) (Nat.le_refl _) dX7_troubleOfItem_43 ⟨_, rfl, Or.inl (Or.inr (Or.inr (Or.inl ⟨by omega, by omega, by rw [ush]; exact htl, by rw [ush, ufo]; omega, by decide, rfl⟩)))⟩
  · refine z_if_ne C dX7_troubleOfItem_4 (tgt := 10) (by decide) (fun h4 => absurd h4 (by decide)) (fun h4 => ?_)
    refine z_bipush C dX7_troubleOfItem_7 (v := -2) (by decide) ?_
    exact z_iret C rfl (Nat.le_refl _) (Nat.le_refl _) dX7_troubleOfItem_9 ⟨_, rfl, Or.inl (Or.inl ⟨by omega, rfl, rfl⟩)⟩

set_option maxHeartbeats 4000000 in
set_option maxRecDepth 100000 in
theorem c_X7_put (l : Launch) (D : va_G) (cy : Nat → ClassId) (a : Nat → Nat) (L : List Nat) (c : Nat → Nat → Int32) (g : Nat → Nat → Int64) (r : Nat → Nat → Option Nat) (nl nk : Nat) (hL : zLv L nl nk) (hR : RC r nl nk) (hI : CI c nl nk) (sheet form i val : Int32) : zCI l yX7_put wsX7_put { frames := 4, cells := 0, slots := 0, locals := 87 } D cy a L c g r [Value.ref (a 0), Value.int sheet, Value.int form, Value.int i, Value.int val] (fun v c' => ((¬ ((0 ≤ sheet.toInt ∧ sheet.toInt ≤ 3) ∧ (0 ≤ form.toInt ∧ form.toInt ≤ 2)) ∧ v = -2 ∧ c' = c) ∨ ((0 ≤ sheet.toInt ∧ sheet.toInt ≤ 3) ∧ (0 ≤ form.toInt ∧ form.toInt ≤ 2) ∧ nn c (40 + tn sheet) 1 = 1 ∧ v = -11 ∧ c' = up2 c 0 10 1) ∨ ((0 ≤ sheet.toInt ∧ sheet.toInt ≤ 3) ∧ (0 ≤ form.toInt ∧ form.toInt ≤ 2) ∧ nn c (40 + tn sheet) 1 = 0 ∧ nn c (40 + tn sheet) 2 ≠ tn form ∧ v = -13 ∧ c' = up2 c 0 10 3) ∨ ((0 ≤ sheet.toInt ∧ sheet.toInt ≤ 3) ∧ (0 ≤ form.toInt ∧ form.toInt ≤ 2) ∧ nn c (40 + tn sheet) 1 = 0 ∧ nn c (40 + tn sheet) 2 = tn form ∧ ¬ (0 ≤ i.toInt ∧ i.toInt < (nn c (40 + tn sheet) 3 : Int)) ∧ v = -12 ∧ c' = up2 c 0 10 2)) ∨ (((0 ≤ sheet.toInt ∧ sheet.toInt ≤ 3) ∧ (0 ≤ form.toInt ∧ form.toInt ≤ 2) ∧ nn c (40 + tn sheet) 1 = 0 ∧ nn c (40 + tn sheet) 2 = tn form ∧ (0 ≤ i.toInt ∧ i.toInt < (nn c (40 + tn sheet) 3 : Int))) ∧ v = 1 ∧ c' = up2 c (50 + tn sheet) (tn i) (wrV (nn c (40 + tn sheet) 2) val))) := by
  refine z_enter cX7_put 6 (some .int) (by decide) (Nat.le_of_ble_eq_true rfl) ?_
  intro p e s m below meth co C hin
  have C : zC p s m _ meth co D cy _ cX7_put 6 (some .int) wsX7_put RX7 := C
  have i7 : ∀ w ∈ wsX70, w ∈ wsX7_put := by decide +kernel
  refine z_aload_n C dX7_put_0 rfl (q := 0) rfl ?_
  refine z_iload_n C dX7_put_1 rfl (q := 1) rfl ?_
  refine z_iload_n C dX7_put_2 rfl (q := 2) rfl ?_
  refine z_iload_n C dX7_put_3 rfl (q := 3) rfl ?_
  refine z_cI C (z_runV C (As := [Value.int sheet, Value.int form, Value.int i]) (rest := []) (c_X7_troubleOfItem l D cy a L c g r nl nk hL hR hI sheet form i) (cwV 3 C.2.2.2.2.2.1 gX7_put_X7_troubleOfItem rfl rfl rfl (by decide +kernel) ⟨Nat.le_of_ble_eq_true rfl, Nat.le_of_ble_eq_true rfl⟩) (hL _ (by unfold live; omega)) (zF_k7 (by rfl)) rfl rfl rfl rfl (Nat.le_of_ble_eq_true rfl) dX7_put_4 ⟨Nat.zero_le _, Nat.zero_le _⟩) (fun v4 c4 e4 => ?_)
  rcases e4 with (⟨h1, rfl, hc⟩ | ⟨h1, h2, h3, rfl, rfl⟩ | ⟨h1, h2, h3, h4, rfl, rfl⟩ | ⟨h1, h2, h3, h4, h5, rfl, rfl⟩) | ⟨⟨h1, h2, h3, h4, h5⟩, rfl, hc⟩
  · have hc := hc.symm
    subst hc
    refine z_istore C dX7_put_7 (by decide) (lv' := [(5, Value.int (-2)), (0, Value.ref (a 0)), (1, Value.int sheet), (2, Value.int form), (3, Value.int i), (4, Value.int val)]) rfl ?_
    refine z_iload C dX7_put_9 (q := 0) rfl ?_
    refine z_if_eq C dX7_put_11 (tgt := 17) (by decide) (fun h11 => absurd h11 (by decide)) (fun h11 => ?_)
    refine z_iload C dX7_put_14 (q := 0) rfl ?_
    exact z_iret C rfl (Nat.le_refl _) (Nat.le_refl _) dX7_put_16 ⟨_, rfl, Or.inl (Or.inl ⟨h1, rfl, rfl⟩)⟩
  · refine z_istore C dX7_put_7 (by decide) (lv' := [(5, Value.int (-11)), (0, Value.ref (a 0)), (1, Value.int sheet), (2, Value.int form), (3, Value.int i), (4, Value.int val)]) rfl ?_
    refine z_iload C dX7_put_9 (q := 0) rfl ?_
    refine z_if_eq C dX7_put_11 (tgt := 17) (by decide) (fun h11 => absurd h11 (by decide)) (fun h11 => ?_)
    refine z_iload C dX7_put_14 (q := 0) rfl ?_
    exact z_iret C rfl (Nat.le_refl _) (Nat.le_refl _) dX7_put_16 ⟨_, rfl, Or.inl (Or.inr (Or.inl ⟨h1, h2, h3, rfl, rfl⟩))⟩
  · refine z_istore C dX7_put_7 (by decide) (lv' := [(5, Value.int (-13)), (0, Value.ref (a 0)), (1, Value.int sheet), (2, Value.int form), (3, Value.int i), (4, Value.int val)]) rfl ?_
    refine z_iload C dX7_put_9 (q := 0) rfl ?_
    refine z_if_eq C dX7_put_11 (tgt := 17) (by decide) (fun h11 => absurd h11 (by decide)) (fun h11 => ?_)
    refine z_iload C dX7_put_14 (q := 0) rfl ?_
    exact z_iret C rfl (Nat.le_refl _) (Nat.le_refl _) dX7_put_16 ⟨_, rfl, Or.inl (Or.inr (Or.inr (Or.inl ⟨h1, h2, h3, h4, rfl, rfl⟩)))⟩
  · refine z_istore C dX7_put_7 (by decide) (lv' := [(5, Value.int (-12)), (0, Value.ref (a 0)), (1, Value.int sheet), (2, Value.int form), (3, Value.int i), (4, Value.int val)]) rfl ?_
    refine z_iload C dX7_put_9 (q := 0) rfl ?_
    refine z_if_eq C dX7_put_11 (tgt := 17) (by decide) (fun h11 => absurd h11 (by decide)) (fun h11 => ?_)
    refine z_iload C dX7_put_14 (q := 0) rfl ?_
    exact z_iret C rfl (Nat.le_refl _) (Nat.le_refl _) dX7_put_16 ⟨_, rfl, Or.inl (Or.inr (Or.inr (Or.inr ⟨h1, h2, h3, h4, h5, rfl, rfl⟩)))⟩
  · have hc := hc.symm
    subst hc
    obtain ⟨sh, hsh, rfl⟩ := arg_nI (b := 3) h1
    have tsh := nI_toInt (n := sh) (by omega)
    have ush := tn_nI (j := sh) (by omega)
    rw [ush] at h3 h4 h5
    have hn := (CI_sh hI hsh).2.2.2
    obtain ⟨it, hit, rfl⟩ := arg_lt h5
    have uit := tn_nI (j := it) (by omega)
    refine z_istore C dX7_put_7 (by decide) (lv' := [(5, Value.int 0), (0, Value.ref (a 0)), (1, Value.int (nI sh)), (2, Value.int form), (3, Value.int (nI it)), (4, Value.int val)]) rfl ?_
    refine z_iload C dX7_put_9 (q := 0) rfl ?_
    refine z_if_eq C dX7_put_11 (tgt := 17) (by decide) (fun h11 => ?_) (fun h11 => absurd h11 (by decide))
    refine z_aload_n C dX7_put_17 rfl (q := 1) rfl ?_
    refine zg_X7_sheetRow C (k := 0) (hL _ (by unfold live; omega)) (by rfl) i7 (by decide +kernel) (k' := 11) (RC_sheetRow hR) dX7_put_18 ?_
    refine z_iload_n C dX7_put_21 rfl (q := 2) rfl ?_
    refine z_aaload C (k := 11) (hL _ (by unfold live; omega)) (by rfl) (by decide) (j := sh) rfl (by rw [show ln 11 = 4 from rfl]; omega) (by rw [show ln 11 = 4 from rfl]; decide) (v := .ref (a (40 + sh))) (by rw [RC_sheet hR (by omega)]; rfl) dX7_put_22 ?_
    refine z_iload_n C dX7_put_23 rfl (q := 4) rfl ?_
    refine z_iload C dX7_put_24 (q := 5) rfl ?_
    refine z_cV C (z_runV C (As := [Value.int (nI it), Value.int val]) (rest := []) (c_X4_write l D cy a L c g r nl nk hL hR hI sh (by omega) it (by omega) val) (cwV 2 C.2.2.2.2.2.1 gX7_put_X4_write rfl rfl rfl (by decide +kernel) ⟨Nat.le_of_ble_eq_true rfl, Nat.le_of_ble_eq_true rfl⟩) (hL _ (by unfold live; omega)) (zF_k4 (kd_s (by omega))) rfl rfl rfl rfl (Nat.le_of_ble_eq_true rfl) dX7_put_26 ⟨Nat.zero_le _, Nat.zero_le _⟩) (fun c26 e26 => ?_)
    refine z_iconst C dX7_put_29 (v := 1) (by decide) ?_
    exact z_iret C rfl (Nat.le_refl _) (Nat.le_refl _) dX7_put_30 ⟨_, rfl, Or.inr ⟨⟨h1, h2, by rw [ush]; exact h3, by rw [ush]; exact h4, by rw [ush]; exact h5⟩, rfl, by rw [ush, uit]; exact e26⟩⟩

set_option maxHeartbeats 4000000 in
set_option maxRecDepth 100000 in
theorem c_X7_get (l : Launch) (D : va_G) (cy : Nat → ClassId) (a : Nat → Nat) (L : List Nat) (c : Nat → Nat → Int32) (g : Nat → Nat → Int64) (r : Nat → Nat → Option Nat) (nl nk : Nat) (hL : zLv L nl nk) (hR : RC r nl nk) (hI : CI c nl nk) (sheet form i : Int32) : zCI l yX7_get wsX7_get { frames := 4, cells := 0, slots := 0, locals := 87 } D cy a L c g r [Value.ref (a 0), Value.int sheet, Value.int form, Value.int i] (fun v c' => (v = -2147483648 ∧ ∃ t : Int32, (¬ ((0 ≤ sheet.toInt ∧ sheet.toInt ≤ 3) ∧ (0 ≤ form.toInt ∧ form.toInt ≤ 2)) ∧ t = -2 ∧ c' = c) ∨ ((0 ≤ sheet.toInt ∧ sheet.toInt ≤ 3) ∧ (0 ≤ form.toInt ∧ form.toInt ≤ 2) ∧ nn c (40 + tn sheet) 1 = 1 ∧ t = -11 ∧ c' = up2 c 0 10 1) ∨ ((0 ≤ sheet.toInt ∧ sheet.toInt ≤ 3) ∧ (0 ≤ form.toInt ∧ form.toInt ≤ 2) ∧ nn c (40 + tn sheet) 1 = 0 ∧ nn c (40 + tn sheet) 2 ≠ tn form ∧ t = -13 ∧ c' = up2 c 0 10 3) ∨ ((0 ≤ sheet.toInt ∧ sheet.toInt ≤ 3) ∧ (0 ≤ form.toInt ∧ form.toInt ≤ 2) ∧ nn c (40 + tn sheet) 1 = 0 ∧ nn c (40 + tn sheet) 2 = tn form ∧ ¬ (0 ≤ i.toInt ∧ i.toInt < (nn c (40 + tn sheet) 3 : Int)) ∧ t = -12 ∧ c' = up2 c 0 10 2)) ∨ (((0 ≤ sheet.toInt ∧ sheet.toInt ≤ 3) ∧ (0 ≤ form.toInt ∧ form.toInt ≤ 2) ∧ nn c (40 + tn sheet) 1 = 0 ∧ nn c (40 + tn sheet) 2 = tn form ∧ (0 ≤ i.toInt ∧ i.toInt < (nn c (40 + tn sheet) 3 : Int))) ∧ v = c (50 + tn sheet) (tn i) ∧ c' = c)) := by
  refine z_enter cX7_get 4 (some .int) (by decide) (Nat.le_of_ble_eq_true rfl) ?_
  intro p e s m below meth co C hin
  have C : zC p s m _ meth co D cy _ cX7_get 4 (some .int) wsX7_get RX7 := C
  have i4 : ∀ w ∈ wsX40, w ∈ wsX7_get := by decide +kernel
  have i7 : ∀ w ∈ wsX70, w ∈ wsX7_get := by decide +kernel
  refine z_aload_n C dX7_get_0 rfl (q := 0) rfl ?_
  refine z_iload_n C dX7_get_1 rfl (q := 1) rfl ?_
  refine z_iload_n C dX7_get_2 rfl (q := 2) rfl ?_
  refine z_iload_n C dX7_get_3 rfl (q := 3) rfl ?_
  refine z_cI C (z_runV C (As := [Value.int sheet, Value.int form, Value.int i]) (rest := []) (c_X7_troubleOfItem l D cy a L c g r nl nk hL hR hI sheet form i) (cwV 3 C.2.2.2.2.2.1 gX7_get_X7_troubleOfItem rfl rfl rfl (by decide +kernel) ⟨Nat.le_of_ble_eq_true rfl, Nat.le_of_ble_eq_true rfl⟩) (hL _ (by unfold live; omega)) (zF_k7 (by rfl)) rfl rfl rfl rfl (Nat.le_of_ble_eq_true rfl) dX7_get_4 ⟨Nat.zero_le _, Nat.zero_le _⟩) (fun v4 c4 e4 => ?_)
  rcases e4 with (⟨h1, rfl, hc⟩ | ⟨h1, h2, h3, rfl, rfl⟩ | ⟨h1, h2, h3, h4, rfl, rfl⟩ | ⟨h1, h2, h3, h4, h5, rfl, rfl⟩) | ⟨⟨h1, h2, h3, h4, h5⟩, rfl, hc⟩
  · have hc := hc.symm
    subst hc
    refine z_if_eq C dX7_get_7 (tgt := 16) (by decide) (fun h7 => absurd h7 (by decide)) (fun h7 => ?_)
    refine z_ldcw C dX7_get_10 (v := -2147483648) (by decide +kernel) ?_
    refine z_goto C dX7_get_13 (tgt := 27) (by decide) ?_
    exact z_iret C rfl (Nat.le_refl _) (Nat.le_refl _) dX7_get_27 ⟨_, rfl, Or.inl ⟨rfl, -2, Or.inl ⟨h1, rfl, rfl⟩⟩⟩
  · refine z_if_eq C dX7_get_7 (tgt := 16) (by decide) (fun h7 => absurd h7 (by decide)) (fun h7 => ?_)
    refine z_ldcw C dX7_get_10 (v := -2147483648) (by decide +kernel) ?_
    refine z_goto C dX7_get_13 (tgt := 27) (by decide) ?_
    exact z_iret C rfl (Nat.le_refl _) (Nat.le_refl _) dX7_get_27 ⟨_, rfl, Or.inl ⟨rfl, -11, Or.inr (Or.inl ⟨h1, h2, h3, rfl, rfl⟩)⟩⟩
  · refine z_if_eq C dX7_get_7 (tgt := 16) (by decide) (fun h7 => absurd h7 (by decide)) (fun h7 => ?_)
    refine z_ldcw C dX7_get_10 (v := -2147483648) (by decide +kernel) ?_
    refine z_goto C dX7_get_13 (tgt := 27) (by decide) ?_
    exact z_iret C rfl (Nat.le_refl _) (Nat.le_refl _) dX7_get_27 ⟨_, rfl, Or.inl ⟨rfl, -13, Or.inr (Or.inr (Or.inl ⟨h1, h2, h3, h4, rfl, rfl⟩))⟩⟩
  · refine z_if_eq C dX7_get_7 (tgt := 16) (by decide) (fun h7 => absurd h7 (by decide)) (fun h7 => ?_)
    refine z_ldcw C dX7_get_10 (v := -2147483648) (by decide +kernel) ?_
    refine z_goto C dX7_get_13 (tgt := 27) (by decide) ?_
    exact z_iret C rfl (Nat.le_refl _) (Nat.le_refl _) dX7_get_27 ⟨_, rfl, Or.inl ⟨rfl, -12, Or.inr (Or.inr (Or.inr ⟨h1, h2, h3, h4, h5, rfl, rfl⟩))⟩⟩
  · have hc := hc.symm
    subst hc
    obtain ⟨sh, hsh, rfl⟩ := arg_nI (b := 3) h1
    have tsh := nI_toInt (n := sh) (by omega)
    have ush := tn_nI (j := sh) (by omega)
    rw [ush] at h3 h4 h5
    have hn := (CI_sh hI hsh).2.2.2
    obtain ⟨it, hit, rfl⟩ := arg_lt h5
    have uit := tn_nI (j := it) (by omega)
    refine z_if_eq C dX7_get_7 (tgt := 16) (by decide) (fun h7 => ?_) (fun h7 => absurd h7 (by decide))
    refine z_aload_n C dX7_get_16 rfl (q := 0) rfl ?_
    refine zg_X7_sheetRow C (k := 0) (hL _ (by unfold live; omega)) (by rfl) i7 (by decide +kernel) (k' := 11) (RC_sheetRow hR) dX7_get_17 ?_
    refine z_iload_n C dX7_get_20 rfl (q := 1) rfl ?_
    refine z_aaload C (k := 11) (hL _ (by unfold live; omega)) (by rfl) (by decide) (j := sh) rfl (by rw [show ln 11 = 4 from rfl]; omega) (by rw [show ln 11 = 4 from rfl]; decide) (v := .ref (a (40 + sh))) (by rw [RC_sheet hR (by omega)]; rfl) dX7_get_21 ?_
    refine zg_X4_items C (k := 40 + sh) (hL _ (by unfold live; omega)) (kd_s (by omega)) i4 (by decide +kernel) (k' := 50 + sh) (RC_items hR (by omega)) dX7_get_22 ?_
    refine z_iload_n C dX7_get_25 rfl (q := 3) rfl ?_
    refine z_iaload C (k := 50 + sh) (hL _ (by unfold live; omega)) (kd_it (by omega)) (j := it) rfl (by rw [ln_it (by omega)]; omega) (by rw [ln_it (by omega)]; decide) (v := c (50 + sh) it) rfl dX7_get_26 ?_
    exact z_iret C rfl (Nat.le_refl _) (Nat.le_refl _) dX7_get_27 ⟨_, rfl, Or.inr ⟨⟨h1, h2, by rw [ush]; exact h3, by rw [ush]; exact h4, by rw [ush]; exact h5⟩, by rw [ush, uit], rfl⟩⟩

set_option maxHeartbeats 4000000 in
set_option maxRecDepth 100000 in
theorem c_X7_sheet (l : Launch) (D : va_G) (cy : Nat → ClassId) (a : Nat → Nat) (L : List Nat) (c : Nat → Nat → Int32) (g : Nat → Nat → Int64) (r : Nat → Nat → Option Nat) (nl nk : Nat) (hL : zLv L nl nk) (hR : RC r nl nk) (hI : CI c nl nk) (sheet form n : Int32) : zCI l yX7_sheet wsX7_sheet { frames := 2, cells := 0, slots := 0, locals := 45 } D cy a L c g r [Value.ref (a 0), Value.int sheet, Value.int form, Value.int n] (fun v c' => (¬ ((0 ≤ sheet.toInt ∧ sheet.toInt ≤ 3) ∧ (0 ≤ form.toInt ∧ form.toInt ≤ 2) ∧ n.toInt ≤ 60) ∧ v = -2 ∧ c' = c) ∨ (((0 ≤ sheet.toInt ∧ sheet.toInt ≤ 3) ∧ (0 ≤ form.toInt ∧ form.toInt ≤ 2) ∧ n.toInt ≤ 60) ∧ n.toInt < 0 ∧ v = -15 ∧ c' = up2 c 0 10 5) ∨ (((0 ≤ sheet.toInt ∧ sheet.toInt ≤ 3) ∧ (0 ≤ form.toInt ∧ form.toInt ≤ 2) ∧ n.toInt ≤ 60) ∧ 0 ≤ n.toInt ∧ v = n ∧ c' = up1 (up2 (up2 (up2 c (40 + tn sheet) 1 (nI 0)) (40 + tn sheet) 2 form) (40 + tn sheet) 3 n) (50 + tn sheet) (fun q => if q < ln (50 + tn sheet) then nI 0 else (up2 (up2 (up2 c (40 + tn sheet) 1 (nI 0)) (40 + tn sheet) 2 form) (40 + tn sheet) 3 n) (50 + tn sheet) q))) := by
  refine z_enter cX7_sheet 4 (some .int) (by decide) (Nat.le_of_ble_eq_true rfl) ?_
  intro p e s m below meth co C hin
  have C : zC p s m _ meth co D cy _ cX7_sheet 4 (some .int) wsX7_sheet RX7 := C
  have i7 : ∀ w ∈ wsX70, w ∈ wsX7_sheet := by decide +kernel
  refine z_iload_n C dX7_sheet_0 rfl (q := 1) rfl ?_
  refine z_pI C (z_runS C (As := [Value.int sheet]) (rest := []) (c_X7_isSheet l D cy a L c g r sheet) (va_cwS 1 C.2.2.2.2.2.1 gX7_sheet_X7_isSheet rfl rfl rfl (by decide +kernel) ⟨Nat.le_of_ble_eq_true rfl, Nat.le_of_ble_eq_true rfl⟩) rfl rfl (Nat.le_of_ble_eq_true rfl) dX7_sheet_1 ⟨Nat.zero_le _, Nat.zero_le _⟩) (fun v1 e1 => ?_)
  rcases e1 with ⟨rfl, e1⟩ | ⟨rfl, e1⟩
  · obtain ⟨sh, hsh, rfl⟩ := arg_nI (b := 3) e1
    have tsh := nI_toInt (n := sh) (by omega)
    have ush := tn_nI (j := sh) (by omega)
    refine z_if_eq C dX7_sheet_4 (tgt := 20) (by decide) (fun h4 => absurd h4 (by decide)) (fun h4 => ?_)
    refine z_iload_n C dX7_sheet_7 rfl (q := 2) rfl ?_
    refine z_pI C (z_runS C (As := [Value.int form]) (rest := []) (c_X7_isForm l D cy a L c g r form) (va_cwS 1 C.2.2.2.2.2.1 gX7_sheet_X7_isForm rfl rfl rfl (by decide +kernel) ⟨Nat.le_of_ble_eq_true rfl, Nat.le_of_ble_eq_true rfl⟩) rfl rfl (Nat.le_of_ble_eq_true rfl) dX7_sheet_8 ⟨Nat.zero_le _, Nat.zero_le _⟩) (fun v8 e8 => ?_)
    rcases e8 with ⟨rfl, e8⟩ | ⟨rfl, e8⟩
    · obtain ⟨fo, hfo, rfl⟩ := arg_nI (b := 2) e8
      have tfo := nI_toInt (n := fo) (by omega)
      have ufo := tn_nI (j := fo) (by omega)
      refine z_if_eq C dX7_sheet_11 (tgt := 20) (by decide) (fun h11 => absurd h11 (by decide)) (fun h11 => ?_)
      refine z_iload_n C dX7_sheet_14 rfl (q := 3) rfl ?_
      refine z_bipush C dX7_sheet_15 (v := 60) (by decide) ?_
      refine z_icmp_le C dX7_sheet_17 (tgt := 23) (by decide) (fun h17 => ?_) (fun h17 => ?_)
      · have q17 := iv_le rfl (show (60 : Int32).toInt = 60 from by decide) h17
        refine z_iload_n C dX7_sheet_23 rfl (q := 3) rfl ?_
        refine z_if_ge C dX7_sheet_24 (tgt := 33) (by decide) (fun h24 => ?_) (fun h24 => ?_)
        · have q24 := iv_le (show (0 : Int32).toInt = 0 from by decide) rfl h24
          obtain ⟨n1, hn1, rfl⟩ := arg_nI (b := 60) ⟨q24, q17⟩
          refine z_aload_n C dX7_sheet_33 rfl (q := 0) rfl ?_
          refine zg_X7_sheetRow C (k := 0) (hL _ (by unfold live; omega)) (by rfl) i7 (by decide +kernel) (k' := 11) (RC_sheetRow hR) dX7_sheet_34 ?_
          refine z_iload_n C dX7_sheet_37 rfl (q := 1) rfl ?_
          refine z_aaload C (k := 11) (hL _ (by unfold live; omega)) (by rfl) (by decide) (j := sh) rfl (by rw [show ln 11 = 4 from rfl]; omega) (by rw [show ln 11 = 4 from rfl]; decide) (v := .ref (a (40 + sh))) (by rw [RC_sheet hR (by omega)]; rfl) dX7_sheet_38 ?_
          refine z_iload_n C dX7_sheet_39 rfl (q := 2) rfl ?_
          refine z_iload_n C dX7_sheet_40 rfl (q := 3) rfl ?_
          refine z_cV C (z_runV C (As := [Value.int (nI fo), Value.int (nI n1)]) (rest := []) (c_X4_renew l D cy a L c g r nl nk hL hR hI sh (by omega) fo n1) (cwV 2 C.2.2.2.2.2.1 gX7_sheet_X4_renew rfl rfl rfl (by decide +kernel) ⟨Nat.le_of_ble_eq_true rfl, Nat.le_of_ble_eq_true rfl⟩) (hL _ (by unfold live; omega)) (zF_k4 (kd_s (by omega))) rfl rfl rfl rfl (Nat.le_of_ble_eq_true rfl) dX7_sheet_41 ⟨Nat.zero_le _, Nat.zero_le _⟩) (fun c41 e41 => ?_)
          refine z_iload_n C dX7_sheet_44 rfl (q := 3) rfl ?_
          exact z_iret C rfl (Nat.le_refl _) (Nat.le_refl _) dX7_sheet_45 ⟨_, rfl, Or.inr (Or.inr ⟨by omega, by omega, rfl, by rw [ush]; exact e41⟩)⟩
        · have q24 := iv_nle (show (0 : Int32).toInt = 0 from by decide) rfl h24
          refine z_aload_n C dX7_sheet_27 rfl (q := 0) rfl ?_
          refine z_iconst C dX7_sheet_28 (v := 5) (by decide) ?_
          refine z_cI C (z_runV C (As := [Value.int 5]) (rest := []) (c_X7_finding l D cy a L c g r nl nk hL 5) (cwV 1 C.2.2.2.2.2.1 gX7_sheet_X7_finding rfl rfl rfl (by decide +kernel) ⟨Nat.le_of_ble_eq_true rfl, Nat.le_of_ble_eq_true rfl⟩) (hL _ (by unfold live; omega)) (zF_k7 (by rfl)) rfl rfl rfl rfl (Nat.le_of_ble_eq_true rfl) dX7_sheet_29 ⟨Nat.zero_le _, Nat.zero_le _⟩) (fun v29 c29 e29 => ?_)
          obtain ⟨rfl, rfl⟩ := e29
          exact z_iret C rfl (Nat.le_refl _) (Nat.le_refl _) dX7_sheet_32 ⟨_, rfl, Or.inr (Or.inl ⟨by omega, by omega, by decide, rfl⟩)⟩
      · have q17 := iv_nle rfl (show (60 : Int32).toInt = 60 from by decide) h17
        refine z_bipush C dX7_sheet_20 (v := -2) (by decide) ?_
        exact z_iret C rfl (Nat.le_refl _) (Nat.le_refl _) dX7_sheet_22 ⟨_, rfl, Or.inl ⟨by omega, rfl, rfl⟩⟩
    · refine z_if_eq C dX7_sheet_11 (tgt := 20) (by decide) (fun h11 => ?_) (fun h11 => absurd h11 (by decide))
      refine z_bipush C dX7_sheet_20 (v := -2) (by decide) ?_
      exact z_iret C rfl (Nat.le_refl _) (Nat.le_refl _) dX7_sheet_22 ⟨_, rfl, Or.inl ⟨by omega, rfl, rfl⟩⟩
  · refine z_if_eq C dX7_sheet_4 (tgt := 20) (by decide) (fun h4 => ?_) (fun h4 => absurd h4 (by decide))
    refine z_bipush C dX7_sheet_20 (v := -2) (by decide) ?_
    exact z_iret C rfl (Nat.le_refl _) (Nat.le_refl _) dX7_sheet_22 ⟨_, rfl, Or.inl ⟨by omega, rfl, rfl⟩⟩
