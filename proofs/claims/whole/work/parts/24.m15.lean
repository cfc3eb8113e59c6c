theorem arg_big {v : Int32} (h : 0 ≤ v.toInt) : ∃ j, j < 2147483648 ∧ v = nI j := by
  have h2 : v.toInt < 2147483648 := Int32.toInt_lt v
  exact ⟨v.toInt.toNat, by omega, tI_of h⟩

set_option maxHeartbeats 4000000 in
set_option maxRecDepth 100000 in
theorem c_X7_reading (l : Launch) (D : va_G) (cy : Nat → ClassId) (a : Nat → Nat) (L : List Nat) (c : Nat → Nat → Int32) (g : Nat → Nat → Int64) (r : Nat → Nat → Option Nat) (nl nk : Nat) (hL : zLv L nl nk) (hR : RC r nl nk) (hI : CI c nl nk) (x : Nat → Nat → Nat) (hX : XC c r nl x) (sheet i : Int32) : zCI l yX7_reading wsX7_reading { frames := 5, cells := 0, slots := 0, locals := 120 } D cy a L c g r [Value.ref (a 0), Value.int sheet, Value.int i] (fun v c' => (i.toInt < 0 ∧ v = -2 ∧ c' = c) ∨ (0 ≤ i.toInt ∧ ((¬ (0 ≤ sheet.toInt ∧ sheet.toInt ≤ 3) ∧ v = -2 ∧ c' = c) ∨ ((0 ≤ sheet.toInt ∧ sheet.toInt ≤ 3) ∧ nn c (40 + tn sheet) 1 = 1 ∧ v = -11 ∧ c' = up2 c 0 10 1))) ∨ (0 ≤ i.toInt ∧ ((0 ≤ sheet.toInt ∧ sheet.toInt ≤ 3) ∧ nn c (40 + tn sheet) 1 = 0) ∧ off4 c c' ∧ ((∃ w b t, w < 8 ∧ b < 4 ∧ t < nn c 3 1 ∧ fitC c x w ∧ agC c (tn sheet) (layC c x w) t b ∧ sumF (rdC c x (tn sheet)) w + outC c (tn sheet) (layC c x w) b + inC c (tn sheet) (layC c x w) b t = tn i ∧ v = nI (1000 * w + 100 * b + t)) ∨ (v = -1 ∧ sumF (rdC c x (tn sheet)) 8 ≤ tn i)))) := by
  refine z_enter cX7_reading 7 (some .int) (by decide) (Nat.le_of_ble_eq_true rfl) ?_
  intro p e s m below meth co C hin
  have C : zC p s m _ meth co D cy _ cX7_reading 7 (some .int) wsX7_reading RX7 := C
  have i7 : ∀ w ∈ wsX70, w ∈ wsX7_reading := by decide +kernel
  refine z_iload_n C dX7_reading_0 rfl (q := 2) rfl ?_
  refine z_if_ge C dX7_reading_1 (tgt := 7) (by decide) (fun h1 => ?_) (fun h1 => ?_)
  · have q1 := iv_le (show (0 : Int32).toInt = 0 from by decide) rfl h1
    obtain ⟨m1, hm, rfl⟩ := arg_big q1
    have tm := nI_toInt (n := m1) (by omega)
    have um := tn_nI (j := m1) (by omega)
    refine z_aload_n C dX7_reading_7 rfl (q := 0) rfl ?_
    refine z_iload_n C dX7_reading_8 rfl (q := 1) rfl ?_
    refine z_cI C (z_runV C (As := [Value.int sheet]) (rest := []) (c_X7_troubleOfSheet l D cy a L c g r nl nk hL hR hI sheet) (cwV 1 C.2.2.2.2.2.1 gX7_reading_X7_troubleOfSheet rfl rfl rfl (by decide +kernel) ⟨Nat.le_of_ble_eq_true rfl, Nat.le_of_ble_eq_true rfl⟩) (hL _ (by unfold live; omega)) (zF_k7 (by rfl)) rfl rfl rfl rfl (Nat.le_of_ble_eq_true rfl) dX7_reading_9 ⟨Nat.zero_le _, Nat.zero_le _⟩) (fun v9 c9 e9 => ?_)
    rcases e9 with ⟨hts, rfl, hc⟩ | ⟨hts, htl, rfl, rfl⟩ | ⟨hts, htl, rfl, hc⟩
    · have hc := hc.symm
      subst hc
      refine z_istore_n C dX7_reading_12 rfl (by decide) (lv' := [(3, Value.int (-2)), (0, Value.ref (a 0)), (1, Value.int sheet), (2, Value.int (nI m1))]) rfl ?_
      refine z_iload_n C dX7_reading_13 rfl (q := 0) rfl ?_
      refine z_if_eq C dX7_reading_14 (tgt := 19) (by decide) (fun h14 => absurd h14 (by decide)) (fun h14 => ?_)
      refine z_iload_n C dX7_reading_17 rfl (q := 0) rfl ?_
      exact z_iret C rfl (Nat.le_refl _) (Nat.le_refl _) dX7_reading_18 ⟨_, rfl, Or.inr (Or.inl ⟨by omega, Or.inl ⟨hts, rfl, rfl⟩⟩)⟩
    · refine z_istore_n C dX7_reading_12 rfl (by decide) (lv' := [(3, Value.int (-11)), (0, Value.ref (a 0)), (1, Value.int sheet), (2, Value.int (nI m1))]) rfl ?_
      refine z_iload_n C dX7_reading_13 rfl (q := 0) rfl ?_
      refine z_if_eq C dX7_reading_14 (tgt := 19) (by decide) (fun h14 => absurd h14 (by decide)) (fun h14 => ?_)
      refine z_iload_n C dX7_reading_17 rfl (q := 0) rfl ?_
      exact z_iret C rfl (Nat.le_refl _) (Nat.le_refl _) dX7_reading_18 ⟨_, rfl, Or.inr (Or.inl ⟨by omega, Or.inr ⟨hts, htl, rfl, rfl⟩⟩)⟩
    · have hc := hc.symm
      subst hc
      obtain ⟨sh, hsh, rfl⟩ := arg_nI (b := 3) hts
      have tsh := nI_toInt (n := sh) (by omega)
      have ush := tn_nI (j := sh) (by omega)
      rw [ush] at htl
      refine z_istore_n C dX7_reading_12 rfl (by decide) (lv' := [(3, Value.int 0), (0, Value.ref (a 0)), (1, Value.int (nI sh)), (2, Value.int (nI m1))]) rfl ?_
      refine z_iload_n C dX7_reading_13 rfl (q := 0) rfl ?_
      refine z_if_eq C dX7_reading_14 (tgt := 19) (by decide) (fun h14 => ?_) (fun h14 => absurd h14 (by decide))
      refine z_iload_n C dX7_reading_19 rfl (q := 3) rfl ?_
      refine z_steq (st' := [Value.int (nI (m1 - sumF (rdC c x sh) 0))]) rfl ?_
      refine z_istore C dX7_reading_20 (by decide) (lv' := [(4, Value.int (nI (m1 - sumF (rdC c x sh) 0))), (3, Value.int 0), (0, Value.ref (a 0)), (1, Value.int (nI sh)), (2, Value.int (nI m1))]) rfl ?_
      refine z_iconst C dX7_reading_22 (v := nI 0) (by decide) ?_
      refine z_istore C dX7_reading_23 (by decide) (lv' := [(5, Value.int (nI 0)), (4, Value.int (nI (m1 - sumF (rdC c x sh) 0))), (3, Value.int 0), (0, Value.ref (a 0)), (1, Value.int (nI sh)), (2, Value.int (nI m1))]) rfl ?_
      refine z_forI (fun w c1 => off4 c c1 ∧ sumF (rdC c x sh) w ≤ m1) 0 8 (Nat.zero_le _) (fun w => [(5, Value.int (nI w)), (4, Value.int (nI (m1 - sumF (rdC c x sh) w))), (3, Value.int 0), (0, Value.ref (a 0)), (1, Value.int (nI sh)), (2, Value.int (nI m1))]) ?_ ?_ (⟨off4_rf c, Nat.zero_le _⟩)
      · intro c1 hvw
        refine z_iload C dX7_reading_25 (q := 0) rfl ?_
        refine z_bipush C dX7_reading_27 (v := nI 8) (by decide) ?_
        refine z_icmp_ge C dX7_reading_29 (tgt := 89) (by decide) (fun h29 => ?_) (fun h29 => absurd (Int32.le_refl _) h29)
        refine z_iconst C dX7_reading_89 (v := -1) (by decide) ?_
        exact z_iret C rfl (Nat.le_refl _) (Nat.le_refl _) dX7_reading_90 ⟨_, rfl, Or.inr (Or.inr ⟨by omega, ⟨by omega, by rw [ush]; exact htl⟩, hvw.1, Or.inr ⟨rfl, by rw [ush, um]; exact hvw.2⟩⟩)⟩
      · intro w c1 hlw hw hvw ihw
        have hI1 := CI_off4 hvw.1 hI
        have hX1 := XC_off4 hvw.1 hX
        refine z_iload C dX7_reading_25 (q := 0) rfl ?_
        refine z_bipush C dX7_reading_27 (v := nI 8) (by decide) ?_
        refine z_icmp_ge C dX7_reading_29 (tgt := 89) (by decide) (fun h29 => absurd h29 (nI_ge hw (by omega))) (fun h29 => ?_)
        refine z_aload_n C dX7_reading_32 rfl (q := 3) rfl ?_
        refine z_iload C dX7_reading_33 (q := 0) rfl ?_
        refine z_aload_n C dX7_reading_35 rfl (q := 3) rfl ?_
        refine zg_X7_sheetRow C (k := 0) (hL _ (by unfold live; omega)) (by rfl) i7 (by decide +kernel) (k' := 11) (RC_sheetRow hR) dX7_reading_36 ?_
        refine z_iload_n C dX7_reading_39 rfl (q := 4) rfl ?_
        refine z_aaload C (k := 11) (hL _ (by unfold live; omega)) (by rfl) (by decide) (j := sh) rfl (by rw [show ln 11 = 4 from rfl]; omega) (by rw [show ln 11 = 4 from rfl]; decide) (v := .ref (a (40 + sh))) (by rw [RC_sheet hR (by omega)]; rfl) dX7_reading_40 ?_
        refine z_cI C (z_runV C (As := [Value.int (nI w), Value.ref (a (40 + sh))]) (rest := []) (c_X7_readingsOfWord l D cy a L c1 g r nl nk hL hR hI1 x hX1 w (by omega) sh (by omega)) (cwV 2 C.2.2.2.2.2.1 gX7_reading_X7_readingsOfWord rfl rfl rfl (by decide +kernel) ⟨Nat.le_of_ble_eq_true rfl, Nat.le_of_ble_eq_true rfl⟩) (hL _ (by unfold live; omega)) (zF_k7 (by rfl)) rfl rfl rfl rfl (Nat.le_of_ble_eq_true rfl) dX7_reading_41 ⟨Nat.zero_le _, Nat.zero_le _⟩) (fun v41 c41 e41 => ?_)
        obtain ⟨ho2, rfl, hfl⟩ := e41
        rw [rdC_off4 hvw.1 x sh w]
        have hrl := rdC_le hI x sh w
        have ho3 := off4_tr hvw.1 ho2
        refine z_istore C dX7_reading_44 (by decide) (lv' := [(6, Value.int (nI (rdC c x sh w))), (5, Value.int (nI w)), (4, Value.int (nI (m1 - sumF (rdC c x sh) w))), (3, Value.int 0), (0, Value.ref (a 0)), (1, Value.int (nI sh)), (2, Value.int (nI m1))]) rfl ?_
        refine z_iload C dX7_reading_46 (q := 2) rfl ?_
        refine z_iload C dX7_reading_48 (q := 0) rfl ?_
        refine z_icmp_ge C dX7_reading_50 (tgt := 76) (by decide) (fun h50 => ?_) (fun h50 => ?_)
        · have q50 := iv_le (nI_toInt (by omega)) (nI_toInt (by omega)) h50
          refine z_iload C dX7_reading_76 (q := 2) rfl ?_
          refine z_iload C dX7_reading_78 (q := 0) rfl ?_
          refine z_isub C dX7_reading_80 (v := nI (m1 - sumF (rdC c x sh) (w + 1))) (by rw [pk_sub (by omega), show sumF (rdC c x sh) (w + 1) = sumF (rdC c x sh) w + rdC c x sh w from rfl, Nat.sub_sub]) ?_
          refine z_istore C dX7_reading_81 (by decide) (lv' := [(4, Value.int (nI (m1 - sumF (rdC c x sh) (w + 1)))), (6, Value.int (nI (rdC c x sh w))), (5, Value.int (nI w)), (3, Value.int 0), (0, Value.ref (a 0)), (1, Value.int (nI sh)), (2, Value.int (nI m1))]) rfl ?_
          refine z_iinc C dX7_reading_83 (q := 2) rfl (v := nI (w + 1)) (nI_1 _) (by decide) (lv' := [(5, Value.int (nI (w + 1))), (4, Value.int (nI (m1 - sumF (rdC c x sh) (w + 1)))), (6, Value.int (nI (rdC c x sh w))), (3, Value.int 0), (0, Value.ref (a 0)), (1, Value.int (nI sh)), (2, Value.int (nI m1))]) rfl ?_
          refine z_goto C dX7_reading_86 (tgt := 25) (by decide) ?_
          refine z_sub [0, 1, 3, 4, 5, 6] (lv' := [(5, Value.int (nI (w + 1))), (4, Value.int (nI (m1 - sumF (rdC c x sh) (w + 1)))), (3, Value.int 0), (0, Value.ref (a 0)), (1, Value.int (nI sh)), (2, Value.int (nI m1))]) rfl ?_
          exact ihw c41 ⟨ho3, by have h9 := hvw.2; rw [show sumF (rdC c x sh) (w + 1) = sumF (rdC c x sh) w + rdC c x sh w from rfl]; omega⟩
        · have q50 := iv_nle (nI_toInt (by omega)) (nI_toInt (by omega)) h50
          have hft : fitC c x w := Classical.byContradiction (fun h => by rw [rdC, pick_neg h] at q50; omega)
          refine z_sipush C dX7_reading_53 (v := nI 1000) (by decide) ?_
          refine z_iload C dX7_reading_56 (q := 1) rfl ?_
          refine z_imul C dX7_reading_58 (v := nI (1000 * w)) (pk_mul 1000 w) ?_
          refine z_aload_n C dX7_reading_59 rfl (q := 4) rfl ?_
          refine zg_X7_ring C (k := 0) (hL _ (by unfold live; omega)) (by rfl) i7 (by decide +kernel) (k' := 3) (RC_ring hR) dX7_reading_60 ?_
          refine z_aload_n C dX7_reading_63 rfl (q := 4) rfl ?_
          refine zg_X7_sheetRow C (k := 0) (hL _ (by unfold live; omega)) (by rfl) i7 (by decide +kernel) (k' := 11) (RC_sheetRow hR) dX7_reading_64 ?_
          refine z_iload_n C dX7_reading_67 rfl (q := 5) rfl ?_
          refine z_aaload C (k := 11) (hL _ (by unfold live; omega)) (by rfl) (by decide) (j := sh) rfl (by rw [show ln 11 = 4 from rfl]; omega) (by rw [show ln 11 = 4 from rfl]; decide) (v := .ref (a (40 + sh))) (by rw [RC_sheet hR (by omega)]; rfl) dX7_reading_68 ?_
          refine z_iload C dX7_reading_69 (q := 2) rfl ?_
          refine z_pI C (z_runV C (As := [Value.ref (a (40 + sh)), Value.int (nI (m1 - sumF (rdC c x sh) w))]) (rest := [Value.int (nI (1000 * w))]) (c_X3_readingOf l D cy a L c41 g r nl nk hL hR (CI_off4 ho3 hI) (layC c1 x w) (hfl ((fitC_off4 hvw.1 x w).mpr hft)) sh (by omega) (m1 - sumF (rdC c x sh) w) (by omega)) (cwV 2 C.2.2.2.2.2.1 gX7_reading_X3_readingOf rfl rfl rfl (by decide +kernel) ⟨Nat.le_of_ble_eq_true rfl, Nat.le_of_ble_eq_true rfl⟩) (hL _ (by unfold live; omega)) (zF_k3 (by rfl)) rfl rfl rfl rfl (Nat.le_of_ble_eq_true rfl) dX7_reading_71 ⟨Nat.zero_le _, Nat.zero_le _⟩) (fun v71 e71 => ?_)
          refine z_iadd C dX7_reading_74 (v := (nI (1000 * w)) + v71) rfl ?_
          rcases e71 with ⟨b, t, hb, ht, hag, hsum, rfl⟩ | ⟨-, hle⟩
          · exact z_iret C rfl (Nat.le_refl _) (Nat.le_refl _) dX7_reading_75 ⟨_, rfl, Or.inr (Or.inr ⟨by omega, ⟨by omega, by rw [ush]; exact htl⟩, ho3, Or.inl ⟨w, b, t, hw, hb, by rw [off4_nn ho3 (by omega)] at ht; exact ht, hft, by rw [ush]; rw [layC_off4 hvw.1] at hag; exact (agC_off4 ho3 sh _ t b).mp hag, by rw [ush, um]; rw [layC_off4 hvw.1, outC_off4 ho3, inC_off4 ho3] at hsum; omega, by rw [nI_add, Nat.add_assoc]⟩⟩)⟩
          · rw [layC_off4 hvw.1, outC_off4 ho3] at hle
            rw [rdC, pick_pos hft] at q50
            omega
  · have q1 := iv_nle (show (0 : Int32).toInt = 0 from by decide) rfl h1
    refine z_bipush C dX7_reading_4 (v := -2) (by decide) ?_
    exact z_iret C rfl (Nat.le_refl _) (Nat.le_refl _) dX7_reading_6 ⟨_, rfl, Or.inl ⟨by omega, rfl, rfl⟩⟩

noncomputable def countC (c : Nat → Nat → Int32) (x : Nat → Nat → Nat) (what : Int32) : Int32 := if what.toInt = 0 then c 0 1 else if what.toInt = 1 then nI (fitsC c x 8) else if what.toInt = 2 then c 3 1 else if what.toInt = 3 then c 3 2 else if what.toInt = 4 then c 6 1 else if what.toInt = 5 then c 6 2 else if what.toInt = 6 then c 0 10 else if what.toInt = 7 then c 6 3 else if what.toInt = 8 then nI (dampsC c 52) else -2

set_option maxHeartbeats 4000000 in
set_option maxRecDepth 100000 in
theorem c_X7_count (l : Launch) (D : va_G) (cy : Nat → ClassId) (a : Nat → Nat) (L : List Nat) (c : Nat → Nat → Int32) (g : Nat → Nat → Int64) (r : Nat → Nat → Option Nat) (nl nk : Nat) (hL : zLv L nl nk) (hR : RC r nl nk) (hI : CI c nl nk) (x : Nat → Nat → Nat) (hX : XC c r nl x) (what : Int32) : zPI l yX7_count wsX7_count { frames := 3, cells := 0, slots := 0, locals := 66 } D cy a L c g r [Value.ref (a 0), Value.int what] (fun v => v = countC c x what) := by
  refine z_enter cX7_count 2 (some .int) (by decide) (Nat.le_of_ble_eq_true rfl) ?_
  intro p e s m below meth co C hin
  have C : zC p s m _ meth co D cy _ cX7_count 2 (some .int) wsX7_count RX7 := C
  have i2 : ∀ w ∈ wsX20, w ∈ wsX7_count := by decide +kernel
  have i3 : ∀ w ∈ wsX30, w ∈ wsX7_count := by decide +kernel
  have i7 : ∀ w ∈ wsX70, w ∈ wsX7_count := by decide +kernel
  refine z_iload_n C dX7_count_0 rfl (q := 1) rfl ?_
  by_cases hs0 : what.toInt = 0
  · refine z_tableIn C dX7_count_1 (off := 51) (tgt := 52) (by omega) (by omega) (by rw [hs0]; rfl) (by decide) ?_
    refine z_aload_n C dX7_count_52 rfl (q := 0) rfl ?_
    refine zg_X7_letterCount C (k := 0) (hL _ (by unfold live; omega)) (by rfl) i7 (by decide +kernel) (v := nI nl) (CI_nl hI) dX7_count_53 ?_
    exact z_iret C rfl (Nat.le_refl _) (Nat.le_refl _) dX7_count_56 ⟨rfl, by rw [countC, if_pos (by omega)]; exact (CI_nl hI).symm⟩
  · skip
    by_cases hs1 : what.toInt = 1
    · refine z_tableIn C dX7_count_1 (off := 56) (tgt := 57) (by omega) (by omega) (by rw [hs1]; rfl) (by decide) ?_
      refine z_aload_n C dX7_count_57 rfl (q := 0) rfl ?_
      refine z_pI C (z_runV C (As := []) (rest := []) (c_X7_countFitting l D cy a L c g r nl nk hL hR hI x hX) (cwV 0 C.2.2.2.2.2.1 gX7_count_X7_countFitting rfl rfl rfl (by decide +kernel) ⟨Nat.le_of_ble_eq_true rfl, Nat.le_of_ble_eq_true rfl⟩) (hL _ (by unfold live; omega)) (zF_k7 (by rfl)) rfl rfl rfl rfl (Nat.le_of_ble_eq_true rfl) dX7_count_58 ⟨Nat.zero_le _, Nat.zero_le _⟩) (fun v58 e58 => ?_)
      subst e58
      exact z_iret C rfl (Nat.le_refl _) (Nat.le_refl _) dX7_count_61 ⟨rfl, by rw [countC, if_neg (by omega), if_pos (by omega)]⟩
    · skip
      by_cases hs2 : what.toInt = 2
      · refine z_tableIn C dX7_count_1 (off := 61) (tgt := 62) (by omega) (by omega) (by rw [hs2]; rfl) (by decide) ?_
        refine z_aload_n C dX7_count_62 rfl (q := 0) rfl ?_
        refine zg_X7_ring C (k := 0) (hL _ (by unfold live; omega)) (by rfl) i7 (by decide +kernel) (k' := 3) (RC_ring hR) dX7_count_63 ?_
        refine zg_X3_slotCount C (k := 3) (hL _ (by unfold live; omega)) (by rfl) i3 (by decide +kernel) (v := nI (nn c 3 1)) (CI_S hI).1 dX7_count_66 ?_
        exact z_iret C rfl (Nat.le_refl _) (Nat.le_refl _) dX7_count_69 ⟨rfl, by rw [countC, if_neg (by omega), if_neg (by omega), if_pos (by omega)]; exact (CI_S hI).1.symm⟩
      · skip
        by_cases hs3 : what.toInt = 3
        · refine z_tableIn C dX7_count_1 (off := 69) (tgt := 70) (by omega) (by omega) (by rw [hs3]; rfl) (by decide) ?_
          refine z_aload_n C dX7_count_70 rfl (q := 0) rfl ?_
          refine zg_X7_ring C (k := 0) (hL _ (by unfold live; omega)) (by rfl) i7 (by decide +kernel) (k' := 3) (RC_ring hR) dX7_count_71 ?_
          refine zg_X3_gapWidth C (k := 3) (hL _ (by unfold live; omega)) (by rfl) i3 (by decide +kernel) (v := nI (nn c 3 2)) (CI_G hI).1 dX7_count_74 ?_
          exact z_iret C rfl (Nat.le_refl _) (Nat.le_refl _) dX7_count_77 ⟨rfl, by rw [countC, if_neg (by omega), if_neg (by omega), if_neg (by omega), if_pos (by omega)]; exact (CI_G hI).1.symm⟩
        · skip
          by_cases hs4 : what.toInt = 4
          · refine z_tableIn C dX7_count_1 (off := 77) (tgt := 78) (by omega) (by omega) (by rw [hs4]; rfl) (by decide) ?_
            refine z_aload_n C dX7_count_78 rfl (q := 0) rfl ?_
            refine zg_X7_lumpBook C (k := 0) (hL _ (by unfold live; omega)) (by rfl) i7 (by decide +kernel) (k' := 6) (RC_lumpBook hR) dX7_count_79 ?_
            refine zg_X2_size C (k := 6) (hL _ (by unfold live; omega)) (by rfl) i2 (by decide +kernel) (v := nI nk) (CI_nk hI) dX7_count_82 ?_
            exact z_iret C rfl (Nat.le_refl _) (Nat.le_refl _) dX7_count_85 ⟨rfl, by rw [countC, if_neg (by omega), if_neg (by omega), if_neg (by omega), if_neg (by omega), if_pos (by omega)]; exact (CI_nk hI).symm⟩
          · skip
            by_cases hs5 : what.toInt = 5
            · refine z_tableIn C dX7_count_1 (off := 85) (tgt := 86) (by omega) (by omega) (by rw [hs5]; rfl) (by decide) ?_
              refine z_aload_n C dX7_count_86 rfl (q := 0) rfl ?_
              refine zg_X7_lumpBook C (k := 0) (hL _ (by unfold live; omega)) (by rfl) i7 (by decide +kernel) (k' := 6) (RC_lumpBook hR) dX7_count_87 ?_
              refine zg_X2_stickCount C (k := 6) (hL _ (by unfold live; omega)) (by rfl) i2 (by decide +kernel) (v := nI (nn c 6 2)) (CI_tot hI).1.1 dX7_count_90 ?_
              exact z_iret C rfl (Nat.le_refl _) (Nat.le_refl _) dX7_count_93 ⟨rfl, by rw [countC, if_neg (by omega), if_neg (by omega), if_neg (by omega), if_neg (by omega), if_neg (by omega), if_pos (by omega)]; exact (CI_tot hI).1.1.symm⟩
            · skip
              by_cases hs6 : what.toInt = 6
              · refine z_tableIn C dX7_count_1 (off := 93) (tgt := 94) (by omega) (by omega) (by rw [hs6]; rfl) (by decide) ?_
                refine z_aload_n C dX7_count_94 rfl (q := 0) rfl ?_
                refine zg_X7_latestFinding C (k := 0) (hL _ (by unfold live; omega)) (by rfl) i7 (by decide +kernel) (v := c 0 10) rfl dX7_count_95 ?_
                exact z_iret C rfl (Nat.le_refl _) (Nat.le_refl _) dX7_count_98 ⟨rfl, by rw [countC, if_neg (by omega), if_neg (by omega), if_neg (by omega), if_neg (by omega), if_neg (by omega), if_neg (by omega), if_pos (by omega)]⟩
              · skip
                by_cases hs7 : what.toInt = 7
                · refine z_tableIn C dX7_count_1 (off := 98) (tgt := 99) (by omega) (by omega) (by rw [hs7]; rfl) (by decide) ?_
                  refine z_aload_n C dX7_count_99 rfl (q := 0) rfl ?_
                  refine zg_X7_lumpBook C (k := 0) (hL _ (by unfold live; omega)) (by rfl) i7 (by decide +kernel) (k' := 6) (RC_lumpBook hR) dX7_count_100 ?_
                  refine zg_X2_scrap C (k := 6) (hL _ (by unfold live; omega)) (by rfl) i2 (by decide +kernel) (v := nI (nn c 6 3)) (CI_tot hI).2.1 dX7_count_103 ?_
                  exact z_iret C rfl (Nat.le_refl _) (Nat.le_refl _) dX7_count_106 ⟨rfl, by rw [countC, if_neg (by omega), if_neg (by omega), if_neg (by omega), if_neg (by omega), if_neg (by omega), if_neg (by omega), if_neg (by omega), if_pos (by omega)]; exact (CI_tot hI).2.1.symm⟩
                · skip
                  by_cases hs8 : what.toInt = 8
                  · refine z_tableIn C dX7_count_1 (off := 106) (tgt := 107) (by omega) (by omega) (by rw [hs8]; rfl) (by decide) ?_
                    refine z_aload_n C dX7_count_107 rfl (q := 0) rfl ?_
                    refine z_pI C (z_runV C (As := []) (rest := []) (c_X7_countDamp l D cy a L c g r nl nk hL hR hI) (cwV 0 C.2.2.2.2.2.1 gX7_count_X7_countDamp rfl rfl rfl (by decide +kernel) ⟨Nat.le_of_ble_eq_true rfl, Nat.le_of_ble_eq_true rfl⟩) (hL _ (by unfold live; omega)) (zF_k7 (by rfl)) rfl rfl rfl rfl (Nat.le_of_ble_eq_true rfl) dX7_count_108 ⟨Nat.zero_le _, Nat.zero_le _⟩) (fun v108 e108 => ?_)
                    subst e108
                    exact z_iret C rfl (Nat.le_refl _) (Nat.le_refl _) dX7_count_111 ⟨rfl, by rw [countC, if_neg (by omega), if_neg (by omega), if_neg (by omega), if_neg (by omega), if_neg (by omega), if_neg (by omega), if_neg (by omega), if_neg (by omega), if_pos (by omega)]⟩
                  · skip
                    refine z_tableOut C dX7_count_1 (by omega) (tgt := 112) (by decide) ?_
                    refine z_bipush C dX7_count_112 (v := -2) (by decide) ?_
                    exact z_iret C rfl (Nat.le_refl _) (Nat.le_refl _) dX7_count_114 ⟨rfl, by rw [countC, if_neg (by omega), if_neg (by omega), if_neg (by omega), if_neg (by omega), if_neg (by omega), if_neg (by omega), if_neg (by omega), if_neg (by omega), if_neg (by omega)]⟩

def wbC (c : Nat → Nat → Int32) (mo : Int32) (f : Nat) : Nat → Int64
  | 0 => 0
  | j + 1 => wbC c mo f j + (foreC c (f + j) - mo).toInt64
def leC (c : Nat → Nat → Int32) (mo : Int32) (f : Nat) : Nat → Int64
  | 0 => 0
  | j + 1 => if wbC c mo f (j + 1) < leC c mo f j then leC c mo f j else wbC c mo f (j + 1)

set_option maxHeartbeats 4000000 in
set_option maxRecDepth 100000 in
theorem c_X7_ahead (l : Launch) (D : va_G) (cy : Nat → ClassId) (a : Nat → Nat) (L : List Nat) (c : Nat → Nat → Int32) (g : Nat → Nat → Int64) (r : Nat → Nat → Option Nat) (nl nk : Nat) (hL : zLv L nl nk) (hR : RC r nl nk) (hI : CI c nl nk) (fr to mo : Int32) : zPI l yX7_ahead wsX7_ahead { frames := 4, cells := 0, slots := 0, locals := 89 } D cy a L c g r [Value.ref (a 0), Value.int fr, Value.int to, Value.int mo] (fun v => v = if 0 ≤ fr.toInt ∧ fr.toInt ≤ to.toInt ∧ to.toInt ≤ 51 ∧ 0 ≤ mo.toInt ∧ mo.toInt ≤ 10000 then (if 2147483647 < leC c mo (tn fr) (tn to + 1 - tn fr) then 2147483647 else leC c mo (tn fr) (tn to + 1 - tn fr)).toInt32 else -2) := by
  refine z_enter cX7_ahead 9 (some .int) (by decide) (Nat.le_of_ble_eq_true rfl) ?_
  intro p e s m below meth co C hin
  have C : zC p s m _ meth co D cy _ cX7_ahead 9 (some .int) wsX7_ahead RX7 := C
  refine z_iload_n C dX7_ahead_0 rfl (q := 1) rfl ?_
  refine z_iload_n C dX7_ahead_1 rfl (q := 2) rfl ?_
  refine z_bipush C dX7_ahead_2 (v := 51) (by decide) ?_
  refine z_pI C (z_runS C (As := [Value.int fr, Value.int to, Value.int 51]) (rest := []) (c_X7_isSpan l D cy a L c g r fr to 51 (M := 51) (show (51 : Int32).toInt = 51 from by decide)) (va_cwS 3 C.2.2.2.2.2.1 gX7_ahead_X7_isSpan rfl rfl rfl (by decide +kernel) ⟨Nat.le_of_ble_eq_true rfl, Nat.le_of_ble_eq_true rfl⟩) rfl rfl (Nat.le_of_ble_eq_true rfl) dX7_ahead_4 ⟨Nat.zero_le _, Nat.zero_le _⟩) (fun v4 e4 => ?_)
  rcases e4 with ⟨rfl, e4⟩ | ⟨rfl, e4⟩
  · obtain ⟨f, hf, rfl⟩ := arg_nI (v := fr) (b := 51) ⟨e4.1, by omega⟩
    have tf := nI_toInt (n := f) (by omega)
    have uf := tn_nI (j := f) (by omega)
    obtain ⟨t, ht, rfl⟩ := arg_nI (v := to) (b := 51) ⟨by omega, by omega⟩
    have tt := nI_toInt (n := t) (by omega)
    have ut := tn_nI (j := t) (by omega)
    refine z_if_eq C dX7_ahead_7 (tgt := 21) (by decide) (fun h7 => absurd h7 (by decide)) (fun h7 => ?_)
    refine z_iload_n C dX7_ahead_10 rfl (q := 3) rfl ?_
    refine z_iconst C dX7_ahead_11 (v := 0) (by decide) ?_
    refine z_sipush C dX7_ahead_12 (v := 10000) (by decide) ?_
    refine z_pI C (z_runS C (As := [Value.int mo, Value.int 0, Value.int 10000]) (rest := []) (c_X7_within l D cy a L c g r mo 0 10000 (V := mo.toInt) (LO := 0) (HI := 10000) rfl (show (0 : Int32).toInt = 0 from by decide) (show (10000 : Int32).toInt = 10000 from by decide)) (va_cwS 3 C.2.2.2.2.2.1 gX7_ahead_X7_within rfl rfl rfl (by decide +kernel) ⟨Nat.le_of_ble_eq_true rfl, Nat.le_of_ble_eq_true rfl⟩) rfl rfl (Nat.le_of_ble_eq_true rfl) dX7_ahead_15 ⟨Nat.zero_le _, Nat.zero_le _⟩) (fun v15 e15 => ?_)
    rcases e15 with ⟨rfl, e15⟩ | ⟨rfl, e15⟩
    · refine z_if_ne C dX7_ahead_18 (tgt := 24) (by decide) (fun h18 => ?_) (fun h18 => absurd h18 (by decide))
      refine z_lconst C dX7_ahead_24 (v := 0) (by decide) ?_
      refine z_lstore C dX7_ahead_25 (by decide) (lv' := [(4, Value.long 0), (0, Value.ref (a 0)), (1, Value.int (nI f)), (2, Value.int (nI t)), (3, Value.int mo)]) rfl ?_
      refine z_lconst C dX7_ahead_27 (v := 0) (by decide) ?_
      refine z_lstore C dX7_ahead_28 (by decide) (lv' := [(6, Value.long 0), (4, Value.long 0), (0, Value.ref (a 0)), (1, Value.int (nI f)), (2, Value.int (nI t)), (3, Value.int mo)]) rfl ?_
      refine z_iload_n C dX7_ahead_30 rfl (q := 3) rfl ?_
      refine z_steq (st' := [Value.int (nI (f + 0))]) rfl ?_
      refine z_istore C dX7_ahead_31 (by decide) (lv' := [(8, Value.int (nI (f + 0))), (6, Value.long 0), (4, Value.long 0), (0, Value.ref (a 0)), (1, Value.int (nI f)), (2, Value.int (nI t)), (3, Value.int mo)]) rfl ?_
      refine z_lveq (lv' := [(8, Value.int (nI (f + 0))), (6, Value.long (leC c mo f 0)), (4, Value.long (wbC c mo f 0)), (0, Value.ref (a 0)), (1, Value.int (nI f)), (2, Value.int (nI t)), (3, Value.int mo)]) rfl ?_
      refine z_for 0 ((t + 1 - f)) (Nat.zero_le _) (fun j => [(8, Value.int (nI (f + j))), (6, Value.long (leC c mo f j)), (4, Value.long (wbC c mo f j)), (0, Value.ref (a 0)), (1, Value.int (nI f)), (2, Value.int (nI t)), (3, Value.int mo)]) (fun j => c) (fun j => g) ?_ ?_
      · refine z_iload C dX7_ahead_33 (q := 0) rfl ?_
        refine z_iload_n C dX7_ahead_35 rfl (q := 5) rfl ?_
        refine z_icmp_gt C dX7_ahead_36 (tgt := 68) (by decide) (fun h36 => ?_) (fun h36 => absurd (nI_lt (by omega) (by omega)) h36)
        refine z_lload C dX7_ahead_68 (q := 1) rfl ?_
        refine z_pI C (z_runS C (As := [Value.long (leC c mo f ((t + 1 - f)))]) (rest := []) (c_X7_atMostInt l D cy a L c g r (leC c mo f ((t + 1 - f)))) (va_cwS 1 C.2.2.2.2.2.1 gX7_ahead_X7_atMostInt rfl rfl rfl (by decide +kernel) ⟨Nat.le_of_ble_eq_true rfl, Nat.le_of_ble_eq_true rfl⟩) rfl rfl (Nat.le_of_ble_eq_true rfl) dX7_ahead_70 ⟨Nat.zero_le _, Nat.zero_le _⟩) (fun v70 e70 => ?_)
        exact z_iret C rfl (Nat.le_refl _) (Nat.le_refl _) dX7_ahead_73 ⟨rfl, by rw [if_pos (by omega), uf, ut]; exact e70⟩
      · intro j hlj hj ihj
        refine z_iload C dX7_ahead_33 (q := 0) rfl ?_
        refine z_iload_n C dX7_ahead_35 rfl (q := 5) rfl ?_
        refine z_icmp_gt C dX7_ahead_36 (tgt := 68) (by decide) (fun h36 => absurd h36 (nI_nlt (by omega) (by omega))) (fun h36 => ?_)
        refine z_lload C dX7_ahead_39 (q := 2) rfl ?_
        refine z_aload_n C dX7_ahead_41 rfl (q := 3) rfl ?_
        refine z_iload C dX7_ahead_42 (q := 0) rfl ?_
        refine z_pI C (z_runV C (As := [Value.int (nI (f + j))]) (rest := [Value.long (wbC c mo f j)]) (c_X7_foretold l D cy a L c g r nl nk hL hR hI (nI (f + j))) (cwV 1 C.2.2.2.2.2.1 gX7_ahead_X7_foretold rfl rfl rfl (by decide +kernel) ⟨Nat.le_of_ble_eq_true rfl, Nat.le_of_ble_eq_true rfl⟩) (hL _ (by unfold live; omega)) (zF_k7 (by rfl)) rfl rfl rfl rfl (Nat.le_of_ble_eq_true rfl) dX7_ahead_44 ⟨Nat.zero_le _, Nat.zero_le _⟩) (fun v44 e44 => ?_)
        have e44b : v44 = foreC c (f + j) := by rw [e44, if_pos (by have := nI_toInt (n := f + j) (by omega); omega), tn_nI (by omega)]
        subst e44b
        refine z_iload_n C dX7_ahead_47 rfl (q := 6) rfl ?_
        refine z_isub C dX7_ahead_48 (v := (foreC c (f + j)) - mo) rfl ?_
        refine z_i2l C dX7_ahead_49 (v := ((foreC c (f + j)) - mo).toInt64) rfl ?_
        refine z_ladd C dX7_ahead_50 (v := wbC c mo f (j + 1)) rfl ?_
        refine z_lstore C dX7_ahead_51 (by decide) (lv' := [(4, Value.long (wbC c mo f (j + 1))), (8, Value.int (nI (f + j))), (6, Value.long (leC c mo f j)), (0, Value.ref (a 0)), (1, Value.int (nI f)), (2, Value.int (nI t)), (3, Value.int mo)]) rfl ?_
        refine z_lload C dX7_ahead_53 (q := 2) rfl ?_
        refine z_lload C dX7_ahead_55 (q := 0) rfl ?_
        refine z_mmaxL C (by decide +kernel) (by decide +kernel) (by decide +kernel) (by decide +kernel) (Nat.le_of_ble_eq_true rfl) (Nat.le_of_ble_eq_true rfl) (Nat.zero_le _) (Nat.zero_le _) (v := leC c mo f (j + 1)) rfl dX7_ahead_57 ?_
        refine z_lstore C dX7_ahead_60 (by decide) (lv' := [(6, Value.long (leC c mo f (j + 1))), (4, Value.long (wbC c mo f (j + 1))), (8, Value.int (nI (f + j))), (0, Value.ref (a 0)), (1, Value.int (nI f)), (2, Value.int (nI t)), (3, Value.int mo)]) rfl ?_
        refine z_iinc C dX7_ahead_62 (q := 2) rfl (v := nI (f + (j + 1))) (nI_1 _) (by decide) (lv' := [(8, Value.int (nI (f + (j + 1)))), (6, Value.long (leC c mo f (j + 1))), (4, Value.long (wbC c mo f (j + 1))), (0, Value.ref (a 0)), (1, Value.int (nI f)), (2, Value.int (nI t)), (3, Value.int mo)]) rfl ?_
        refine z_goto C dX7_ahead_65 (tgt := 33) (by decide) ?_
        exact ihj
    · refine z_if_ne C dX7_ahead_18 (tgt := 24) (by decide) (fun h18 => absurd h18 (by decide)) (fun h18 => ?_)
      refine z_bipush C dX7_ahead_21 (v := -2) (by decide) ?_
      exact z_iret C rfl (Nat.le_refl _) (Nat.le_refl _) dX7_ahead_23 ⟨rfl, by rw [if_neg (by omega)]⟩
  · refine z_if_eq C dX7_ahead_7 (tgt := 21) (by decide) (fun h7 => ?_) (fun h7 => absurd h7 (by decide))
    refine z_bipush C dX7_ahead_21 (v := -2) (by decide) ?_
    exact z_iret C rfl (Nat.le_refl _) (Nat.le_refl _) dX7_ahead_23 ⟨rfl, by rw [if_neg (by omega)]⟩
