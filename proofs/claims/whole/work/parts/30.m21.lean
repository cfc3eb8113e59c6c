/-- the rows that CI speaks of -/
def cik (nl nk k : Nat) : Prop := k = 0 ∨ k = 3 ∨ k = 5 ∨ k = 6 ∨ k = 8 ∨ k = 9 ∨ (20 ≤ k ∧ k < 28) ∨ (40 ≤ k ∧ k < 44) ∨ (100 ≤ k ∧ k < 100 + nl) ∨ (120 ≤ k ∧ k < 120 + nl) ∨ (200 ≤ k ∧ k < 200 + nk)
theorem CI_congr {c c' : Nat → Nat → Int32} {nl nk : Nat} (e : ∀ k, cik nl nk k → c' k = c k) (h : CI c nl nk) : CI c' nl nk := by
  have er : ∀ k j lo hi, cik nl nk k → rng c k j lo hi → rng c' k j lo hi := by
    intro k j lo hi hk hr
    unfold rng nn at *; rw [e k hk]; exact hr
  obtain ⟨⟨a1, a2, a3, a4⟩, ⟨b1, b2⟩, c1, d1, ⟨e1, e2, e3, e4⟩, f1, ⟨g1, g2⟩, h1, i1⟩ := h
  refine ⟨⟨a1, a2, by rw [e 0 (by unfold cik; omega)]; exact a3, by rw [e 6 (by unfold cik; omega)]; exact a4⟩, ⟨er _ _ _ _ (by unfold cik; omega) b1, er _ _ _ _ (by unfold cik; omega) b2⟩, fun w hw => er _ _ _ _ (by unfold cik; omega) (c1 w hw), fun i hi => ?_, ⟨er _ _ _ _ (by unfold cik; omega) e1, er _ _ _ _ (by unfold cik; omega) e2, er _ _ _ _ (by unfold cik; omega) e3, er _ _ _ _ (by unfold cik; omega) e4⟩, fun k hk => ?_, ⟨er _ _ _ _ (by unfold cik; omega) g1, er _ _ _ _ (by unfold cik; omega) g2⟩, fun w hw => ?_, fun w hw => ?_⟩
  · obtain ⟨d2, d3, d4, d5⟩ := d1 i hi
    exact ⟨er _ _ _ _ (by unfold cik; omega) d2, er _ _ _ _ (by unfold cik; omega) d3, er _ _ _ _ (by unfold cik; omega) d4, fun j hj => er _ _ _ _ (by unfold cik; omega) (d5 j hj)⟩
  · obtain ⟨f2, f3, f4, f5, f6, f7⟩ := f1 k hk
    exact ⟨er _ _ _ _ (by unfold cik; omega) f2, er _ _ _ _ (by unfold cik; omega) f3, er _ _ _ _ (by unfold cik; omega) f4, er _ _ _ _ (by unfold cik; omega) f5, er _ _ _ _ (by unfold cik; omega) f6, er _ _ _ _ (by unfold cik; omega) f7⟩
  · obtain ⟨h2, h3, h4⟩ := h1 w hw
    exact ⟨er _ _ _ _ (by unfold cik; omega) h2, er _ _ _ _ (by unfold cik; omega) h3, er _ _ _ _ (by unfold cik; omega) h4⟩
  · obtain ⟨i2, i3⟩ := i1 w hw
    exact ⟨er _ _ _ _ (by unfold cik; omega) i2, er _ _ _ _ (by unfold cik; omega) i3⟩

set_option maxHeartbeats 4000000 in
set_option maxRecDepth 100000 in
theorem c_X0_init (l : Launch) (D : va_G) (cy : Nat → ClassId) (a : Nat → Nat) (L : List Nat) (c : Nat → Nat → Int32) (g : Nat → Nat → Int64) (r : Nat → Nat → Option Nat) (n : Nat) (hn : n < 16) (hkL : 100 + n ∈ L) (hfs : 120 + n ∉ L) (hZ : zR L r) (wi mi so : Int32) : zXV l yX0_init wsX0_init { frames := 1, cells := 1, slots := 5, locals := 20 } D cy a L c g r [Value.ref (a (100 + n)), Value.int wi, Value.int mi, Value.int so] (fun ω => ∃ a', (∀ j, j ≠ 120 + n → a' j = a j) ∧ ω = (a', L ++ [120 + n], up1 (up2 (up2 (up2 c (100 + n) 0 wi) (100 + n) 1 mi) (100 + n) 2 so) (120 + n) (fun _ => 0), up1 g (120 + n) (fun _ => 0), up2 (up1 r (120 + n) (fun _ => none)) (100 + n) 3 (some (120 + n)))) 1 5 := by
  refine z_enter cX0_init 4 none (by decide) (Nat.le_of_ble_eq_true rfl) ?_
  intro p e s m below meth co C hin
  have C : zC p s m _ meth co D cy _ cX0_init 4 none wsX0_init RX0 := C
  have i0 : ∀ w ∈ wsX00, w ∈ wsX0_init := by decide +kernel
  refine z_aload_n C dX0_init_0 rfl (q := 0) rfl ?_
  refine z_objInit C (by decide +kernel) (by decide +kernel) (by decide +kernel) (Nat.le_of_ble_eq_true rfl) (Nat.le_of_ble_eq_true rfl) dX0_init_1 ?_
  refine z_aload_n C dX0_init_4 rfl (q := 0) rfl ?_
  refine z_iload_n C dX0_init_5 rfl (q := 1) rfl ?_
  refine zp_X0_width C (k := 100 + n) hkL (kd_l (by omega)) i0 (by decide +kernel) hin rfl dX0_init_6 ?_
  refine z_aload_n C dX0_init_9 rfl (q := 0) rfl ?_
  refine z_iload_n C dX0_init_10 rfl (q := 2) rfl ?_
  refine zp_X0_minutes C (k := 100 + n) hkL (kd_l (by omega)) i0 (by decide +kernel) hin rfl dX0_init_11 ?_
  refine z_aload_n C dX0_init_14 rfl (q := 0) rfl ?_
  refine z_iload_n C dX0_init_15 rfl (q := 3) rfl ?_
  refine zp_X0_soft C (k := 100 + n) hkL (kd_l (by omega)) i0 (by decide +kernel) hin rfl dX0_init_16 ?_
  refine z_aload_n C dX0_init_19 rfl (q := 0) rfl ?_
  refine z_iconst C dX0_init_20 (v := nI 5) (by decide) ?_
  refine z_newi C (k := 120 + n) (N := 5) (kd_st (by omega)) (ln_st (by omega)) (by decide) (by decide +kernel) (Nat.le_of_ble_eq_true rfl) (Nat.le_of_ble_eq_true rfl) hfs (zR_ne hZ hfs) dX0_init_21 (fun a ha21_1 => ?_)
  refine z_lveq (lv' := [(0, Value.ref (a (100 + n))), (1, Value.int wi), (2, Value.int mi), (3, Value.int so)]) (by rw [ha21_1 (100 + n) (by omega)] <;> rfl) ?_
  refine z_steq (st' := [Value.ref (a (120 + n)), Value.ref (a (100 + n))]) (by rw [ha21_1 (100 + n) (by omega)] <;> rfl) ?_
  have hZ := zR_new hZ (120 + n)
  refine zp_X0_strips C (k := 100 + n) (List.mem_append_left _ hkL) (kd_l (by omega)) i0 (by decide +kernel) hin rfl dX0_init_23 ?_
  exact z_vret C rfl (Nat.le_of_ble_eq_true rfl) (Nat.le_of_ble_eq_true rfl) dX0_init_26 ⟨a, ha21_1, rfl⟩

set_option maxHeartbeats 4000000 in
set_option maxRecDepth 100000 in
theorem c_X7_letter (l : Launch) (D : va_G) (cy : Nat → ClassId) (a : Nat → Nat) (L : List Nat) (c : Nat → Nat → Int32) (g : Nat → Nat → Int64) (r : Nat → Nat → Option Nat) (nl nk : Nat) (hL : zLv L nl nk) (hR : RC r nl nk) (hI : CI c nl nk) (hf1 : 100 + nl ∉ L) (hf2 : 120 + nl ∉ L) (hZ : zR L r) (wi mi so : Int32) : zXI l yX7_letter wsX7_letter { frames := 2, cells := 2, slots := 9, locals := 43 } D cy a L c g r [Value.ref (a 0), Value.int wi, Value.int mi, Value.int so] (fun v ω => (¬ ((1 ≤ wi.toInt ∧ wi.toInt ≤ 5) ∧ (1 ≤ mi.toInt ∧ mi.toInt ≤ 9) ∧ (1 ≤ so.toInt ∧ so.toInt ≤ 99)) ∧ v = -2 ∧ ω = (a, L, c, g, r)) ∨ (((1 ≤ wi.toInt ∧ wi.toInt ≤ 5) ∧ (1 ≤ mi.toInt ∧ mi.toInt ≤ 9) ∧ (1 ≤ so.toInt ∧ so.toInt ≤ 99)) ∧ nl = 16 ∧ v = -4 ∧ ω = (a, L, c, g, r)) ∨ (((1 ≤ wi.toInt ∧ wi.toInt ≤ 5) ∧ (1 ≤ mi.toInt ∧ mi.toInt ≤ 9) ∧ (1 ≤ so.toInt ∧ so.toInt ≤ 99)) ∧ nl < 16 ∧ v = nI nl ∧ ∃ a', (∀ j, j ≠ 100 + nl → j ≠ 120 + nl → a' j = a j) ∧ ω = (a', L ++ [100 + nl] ++ [120 + nl], up2 (up1 (up2 (up2 (up2 (up1 c (100 + nl) (fun _ => 0)) (100 + nl) 0 wi) (100 + nl) 1 mi) (100 + nl) 2 so) (120 + nl) (fun _ => 0)) 0 1 (nI (nl + 1)), up1 (up1 g (100 + nl) (fun _ => 0)) (120 + nl) (fun _ => 0), up2 (up2 (up1 (up1 r (100 + nl) (fun _ => none)) (120 + nl) (fun _ => none)) (100 + nl) 3 (some (120 + nl))) 1 nl (some (100 + nl))))) 2 9 := by
  refine z_enter cX7_letter 4 (some .int) (by decide) (Nat.le_of_ble_eq_true rfl) ?_
  intro p e s m below meth co C hin
  have C : zC p s m _ meth co D cy _ cX7_letter 4 (some .int) wsX7_letter RX7 := C
  have i0 : ∀ w ∈ wsX00, w ∈ wsX7_letter := by decide +kernel
  have i7 : ∀ w ∈ wsX70, w ∈ wsX7_letter := by decide +kernel
  have h16 := CI_nl16 hI
  refine z_iload_n C dX7_letter_0 rfl (q := 1) rfl ?_
  refine z_iconst C dX7_letter_1 (v := 1) (by decide) ?_
  refine z_iconst C dX7_letter_2 (v := 5) (by decide) ?_
  refine z_pI C (z_runS C (As := [Value.int wi, Value.int 1, Value.int 5]) (rest := []) (c_X7_within l D cy a L c g r wi 1 5 (V := wi.toInt) (LO := 1) (HI := 5) rfl (show (1 : Int32).toInt = 1 from by decide) (show (5 : Int32).toInt = 5 from by decide)) (va_cwS 3 C.2.2.2.2.2.1 gX7_letter_X7_within rfl rfl rfl (by decide +kernel) ⟨Nat.le_of_ble_eq_true rfl, Nat.le_of_ble_eq_true rfl⟩) rfl rfl (Nat.le_of_ble_eq_true rfl) dX7_letter_3 ⟨Nat.zero_le _, Nat.zero_le _⟩) (fun v3 e3 => ?_)
  rcases e3 with ⟨rfl, e3⟩ | ⟨rfl, e3⟩
  · refine z_if_eq C dX7_letter_6 (tgt := 29) (by decide) (fun h6 => absurd h6 (by decide)) (fun h6 => ?_)
    refine z_iload_n C dX7_letter_9 rfl (q := 2) rfl ?_
    refine z_iconst C dX7_letter_10 (v := 1) (by decide) ?_
    refine z_bipush C dX7_letter_11 (v := 9) (by decide) ?_
    refine z_pI C (z_runS C (As := [Value.int mi, Value.int 1, Value.int 9]) (rest := []) (c_X7_within l D cy a L c g r mi 1 9 (V := mi.toInt) (LO := 1) (HI := 9) rfl (show (1 : Int32).toInt = 1 from by decide) (show (9 : Int32).toInt = 9 from by decide)) (va_cwS 3 C.2.2.2.2.2.1 gX7_letter_X7_within rfl rfl rfl (by decide +kernel) ⟨Nat.le_of_ble_eq_true rfl, Nat.le_of_ble_eq_true rfl⟩) rfl rfl (Nat.le_of_ble_eq_true rfl) dX7_letter_13 ⟨Nat.zero_le _, Nat.zero_le _⟩) (fun v13 e13 => ?_)
    rcases e13 with ⟨rfl, e13⟩ | ⟨rfl, e13⟩
    · refine z_if_eq C dX7_letter_16 (tgt := 29) (by decide) (fun h16 => absurd h16 (by decide)) (fun h16 => ?_)
      refine z_iload_n C dX7_letter_19 rfl (q := 3) rfl ?_
      refine z_iconst C dX7_letter_20 (v := 1) (by decide) ?_
      refine z_bipush C dX7_letter_21 (v := 99) (by decide) ?_
      refine z_pI C (z_runS C (As := [Value.int so, Value.int 1, Value.int 99]) (rest := []) (c_X7_within l D cy a L c g r so 1 99 (V := so.toInt) (LO := 1) (HI := 99) rfl (show (1 : Int32).toInt = 1 from by decide) (show (99 : Int32).toInt = 99 from by decide)) (va_cwS 3 C.2.2.2.2.2.1 gX7_letter_X7_within rfl rfl rfl (by decide +kernel) ⟨Nat.le_of_ble_eq_true rfl, Nat.le_of_ble_eq_true rfl⟩) rfl rfl (Nat.le_of_ble_eq_true rfl) dX7_letter_23 ⟨Nat.zero_le _, Nat.zero_le _⟩) (fun v23 e23 => ?_)
      rcases e23 with ⟨rfl, e23⟩ | ⟨rfl, e23⟩
      · refine z_if_ne C dX7_letter_26 (tgt := 32) (by decide) (fun h26 => ?_) (fun h26 => absurd h26 (by decide))
        refine z_aload_n C dX7_letter_32 rfl (q := 0) rfl ?_
        refine zg_X7_letterCount C (k := 0) (hL _ (by unfold live; omega)) (by rfl) i7 (by decide +kernel) (v := nI nl) (CI_nl hI) dX7_letter_33 ?_
        refine z_bipush C dX7_letter_36 (v := 16) (by decide) ?_
        refine z_icmp_lt C dX7_letter_38 (tgt := 44) (by decide) (fun h38 => ?_) (fun h38 => ?_)
        · have q38 := iv_lt (nI_toInt (by omega)) (show (16 : Int32).toInt = 16 from by decide) h38
          refine z_aload_n C dX7_letter_44 rfl (q := 0) rfl ?_
          refine zg_X7_alphabet C (k := 0) (hL _ (by unfold live; omega)) (by rfl) i7 (by decide +kernel) (k' := 1) (RC_alphabet hR) dX7_letter_45 ?_
          refine z_aload_n C dX7_letter_48 rfl (q := 0) rfl ?_
          refine zg_X7_letterCount C (k := 0) (hL _ (by unfold live; omega)) (by rfl) i7 (by decide +kernel) (v := nI nl) (CI_nl hI) dX7_letter_49 ?_
          refine z_new C (k := 100 + nl) (ci := 0) i0 tyX0 tyX0_ok (by decide +kernel) (by decide +kernel) (by decide +kernel) rfl (fs := [Value.int 0, Value.int 0, Value.int 0, Value.null]) (fun j hj => by rcases (show j = 0 ∨ j = 1 ∨ j = 2 ∨ j = 3 by omega) with rfl | rfl | rfl | rfl <;> rfl) (Nat.le_of_ble_eq_true rfl) (Nat.le_of_ble_eq_true rfl) hf1 (zR_ne hZ hf1) (fun a' => by rw [zF_k0 (kd_l (by omega))]; simp [zr, up1, va_rf]) dX7_letter_52 (fun a ha52_1 => ?_)
          refine z_lveq (lv' := [(0, Value.ref (a 0)), (1, Value.int wi), (2, Value.int mi), (3, Value.int so)]) (by rw [ha52_1 (0) (by omega)] <;> rfl) ?_
          refine z_steq (st' := [Value.ref (a (100 + nl)), Value.int (nI nl), Value.ref (a 1)]) (by rw [ha52_1 (1) (by omega)] <;> rfl) ?_
          have hZ := zR_new hZ (100 + nl)
          refine z_dup C dX7_letter_55 rfl ?_
          refine z_iload_n C dX7_letter_56 rfl (q := 1) rfl ?_
          refine z_iload_n C dX7_letter_57 rfl (q := 2) rfl ?_
          refine z_iload_n C dX7_letter_58 rfl (q := 3) rfl ?_
          refine z_xV C (z_runI C (rt := none) (As := [Value.int wi, Value.int mi, Value.int so]) (rest := [Value.ref (a (100 + nl)), Value.int (nI nl), Value.ref (a 1)]) (c_X0_init l D cy a _ _ _ _ nl (by omega) (List.mem_append_right _ (List.mem_singleton.mpr rfl)) (by simp only [List.mem_append, List.mem_singleton, not_or]; exact ⟨hf2, by omega⟩) hZ wi mi so) (cwI 3 C.2.2.2.2.2.1 gX7_letter_X0_init rfl rfl rfl (C.2.2.2.2.2.1 _ (by decide +kernel)) (C.2.2.2.2.2.1 _ (by decide +kernel)) (C.2.2.2.2.2.1 _ (by decide +kernel)) rfl (by decide +kernel) ⟨Nat.le_of_ble_eq_true rfl, Nat.le_of_ble_eq_true rfl⟩) rfl rfl (Nat.le_of_ble_eq_true rfl) dX7_letter_59 ⟨Nat.le_of_ble_eq_true rfl, Nat.le_of_ble_eq_true rfl⟩) (fun ω59 e59 => ?_)
          obtain ⟨a, ha59_2, rfl⟩ := e59
          dsimp only
          refine z_lveq (lv' := [(0, Value.ref (a 0)), (1, Value.int wi), (2, Value.int mi), (3, Value.int so)]) (by rw [ha59_2 (0) (by omega)] <;> rfl) ?_
          refine z_steq (st' := [Value.ref (a (100 + nl)), Value.int (nI nl), Value.ref (a 1)]) (by rw [ha59_2 (100 + nl) (by omega), ha59_2 (1) (by omega)] <;> rfl) ?_
          refine z_aastore C (k := 1) (n := 11) (List.mem_append_left _ (List.mem_append_left _ (hL _ (by unfold live; omega)))) (by rfl) (by decide) (y := 100 + nl) (List.mem_append_left _ (List.mem_append_right _ (List.mem_singleton.mpr rfl))) (zF_k0 (kd_l (by omega))) (j := nl) rfl (show _ < 16 by omega) (by decide) dX7_letter_62 ?_
          refine z_aload_n C dX7_letter_63 rfl (q := 0) rfl ?_
          refine z_dup C dX7_letter_64 rfl ?_
          refine zg_X7_letterCount C (k := 0) (List.mem_append_left _ (List.mem_append_left _ (hL _ (by unfold live; omega)))) (by rfl) i7 (by decide +kernel) (v := nI nl) (by rw [up1_k _ _ (by omega), up2_k _ _ _ _ (by omega), up2_k _ _ _ _ (by omega), up2_k _ _ _ _ (by omega), up1_k _ _ (by omega)]; exact CI_nl hI) dX7_letter_65 ?_
          refine z_iconst C dX7_letter_68 (v := 1) (by decide) ?_
          refine z_iadd C dX7_letter_69 (v := nI (nl + 1)) (nI_add nl 1) ?_
          refine zp_X7_letterCount C (k := 0) (List.mem_append_left _ (List.mem_append_left _ (hL _ (by unfold live; omega)))) (by rfl) i7 (by decide +kernel) dX7_letter_70 ?_
          refine z_aload_n C dX7_letter_73 rfl (q := 0) rfl ?_
          refine zg_X7_letterCount C (k := 0) (List.mem_append_left _ (List.mem_append_left _ (hL _ (by unfold live; omega)))) (by rfl) i7 (by decide +kernel) (v := nI (nl + 1)) (by simp [up2]) dX7_letter_74 ?_
          refine z_iconst C dX7_letter_77 (v := 1) (by decide) ?_
          refine z_isub C dX7_letter_78 (v := nI nl) (nI_pred nl) ?_
          exact z_iret C rfl (Nat.le_of_ble_eq_true rfl) (Nat.le_of_ble_eq_true rfl) dX7_letter_79 (Or.inr (Or.inr ⟨by omega, by omega, rfl, a, fun j h1 h2 => (ha59_2 j h2).trans (ha52_1 j h1), rfl⟩))
        · have q38 := iv_nlt (nI_toInt (by omega)) (show (16 : Int32).toInt = 16 from by decide) h38
          refine z_bipush C dX7_letter_41 (v := -4) (by decide) ?_
          exact z_iret C rfl (Nat.le_of_ble_eq_true rfl) (Nat.le_of_ble_eq_true rfl) dX7_letter_43 (Or.inr (Or.inl ⟨by omega, by omega, rfl, rfl⟩))
      · refine z_if_ne C dX7_letter_26 (tgt := 32) (by decide) (fun h26 => absurd h26 (by decide)) (fun h26 => ?_)
        refine z_bipush C dX7_letter_29 (v := -2) (by decide) ?_
        exact z_iret C rfl (Nat.le_of_ble_eq_true rfl) (Nat.le_of_ble_eq_true rfl) dX7_letter_31 (Or.inl ⟨by omega, rfl, rfl⟩)
    · refine z_if_eq C dX7_letter_16 (tgt := 29) (by decide) (fun h16 => ?_) (fun h16 => absurd h16 (by decide))
      refine z_bipush C dX7_letter_29 (v := -2) (by decide) ?_
      exact z_iret C rfl (Nat.le_of_ble_eq_true rfl) (Nat.le_of_ble_eq_true rfl) dX7_letter_31 (Or.inl ⟨by omega, rfl, rfl⟩)
  · refine z_if_eq C dX7_letter_6 (tgt := 29) (by decide) (fun h6 => ?_) (fun h6 => absurd h6 (by decide))
    refine z_bipush C dX7_letter_29 (v := -2) (by decide) ?_
    exact z_iret C rfl (Nat.le_of_ble_eq_true rfl) (Nat.le_of_ble_eq_true rfl) dX7_letter_31 (Or.inl ⟨by omega, rfl, rfl⟩)
