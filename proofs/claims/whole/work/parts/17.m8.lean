set_option maxHeartbeats 4000000 in
set_option maxRecDepth 100000 in
theorem c_X5_beginWith (l : Launch) (D : va_G) (cy : Nat → ClassId) (a : Nat → Nat) (L : List Nat) (c : Nat → Nat → Int32) (g : Nat → Nat → Int64) (r : Nat → Nat → Option Nat) (nl nk : Nat) (hL : zLv L nl nk) (b : Int32) : zGV l yX5_beginWith wsX5_beginWith { frames := 0, cells := 0, slots := 0, locals := 0 } D cy a L c g r [Value.ref (a 10), Value.int b] (fun c' g' => (∀ k, k ≠ 10 → c' k = c k) ∧ g' 10 0 = b.toInt64 ∧ g' 10 1 = 0 ∧ g' 10 2 = 0 ∧ c' 10 3 = -1) := by
  refine z_enter cX5_beginWith 2 none (by decide) (Nat.le_of_ble_eq_true rfl) ?_
  intro p e s m below meth co C hin
  have C : zC p s m _ meth co D cy _ cX5_beginWith 2 none wsX5_beginWith RX5 := C
  have i5 : ∀ w ∈ wsX50, w ∈ wsX5_beginWith := by decide +kernel
  refine z_aload_n C dX5_beginWith_0 rfl (q := 0) rfl ?_
  refine z_iload_n C dX5_beginWith_1 rfl (q := 1) rfl ?_
  refine z_i2l C dX5_beginWith_2 (v := b.toInt64) rfl ?_
  refine zp_X5_left C (k := 10) (hL _ (by unfold live; omega)) (by rfl) i5 (by decide +kernel) dX5_beginWith_3 ?_
  refine z_aload_n C dX5_beginWith_6 rfl (q := 0) rfl ?_
  refine z_lconst C dX5_beginWith_7 (v := 0) (by decide) ?_
  refine zp_X5_lacking C (k := 10) (hL _ (by unfold live; omega)) (by rfl) i5 (by decide +kernel) dX5_beginWith_8 ?_
  refine z_aload_n C dX5_beginWith_11 rfl (q := 0) rfl ?_
  refine z_lconst C dX5_beginWith_12 (v := 0) (by decide) ?_
  refine zp_X5_lost C (k := 10) (hL _ (by unfold live; omega)) (by rfl) i5 (by decide +kernel) dX5_beginWith_13 ?_
  refine z_aload_n C dX5_beginWith_16 rfl (q := 0) rfl ?_
  refine z_iconst C dX5_beginWith_17 (v := -1) (by decide) ?_
  refine zp_X5_firstShort C (k := 10) (hL _ (by unfold live; omega)) (by rfl) i5 (by decide +kernel) dX5_beginWith_18 ?_
  exact z_vret C rfl (Nat.le_refl _) (Nat.le_refl _) dX5_beginWith_21 ⟨_, _, rfl, fun k hk => up2_row c 3 _ hk, by simp [up2], by simp [up2], by simp [up2], by simp [up2]⟩

set_option maxHeartbeats 4000000 in
set_option maxRecDepth 100000 in
theorem c_X5_supply (l : Launch) (D : va_G) (cy : Nat → ClassId) (a : Nat → Nat) (L : List Nat) (c : Nat → Nat → Int32) (g : Nat → Nat → Int64) (r : Nat → Nat → Option Nat) (nl nk : Nat) (hL : zLv L nl nk) (wk ma wa : Int32) : zGV l yX5_supply wsX5_supply { frames := 0, cells := 0, slots := 0, locals := 0 } D cy a L c g r [Value.ref (a 10), Value.int wk, Value.int ma, Value.int wa] (fun c' g' => (∀ k, k ≠ 10 → c' k = c k) ∧ g' 10 0 = (if (g 10 0 + (ma - wa).toInt64) < 0 then 0 else (g 10 0 + (ma - wa).toInt64)) ∧ g' 10 1 = (if (g 10 0 + (ma - wa).toInt64) < 0 then g 10 1 - (g 10 0 + (ma - wa).toInt64) else g 10 1) ∧ g' 10 2 = g 10 2 ∧ c' 10 3 = (if (g 10 0 + (ma - wa).toInt64) < 0 ∧ c 10 3 = -1 then wk else c 10 3)) := by
  refine z_enter cX5_supply 4 none (by decide) (Nat.le_of_ble_eq_true rfl) ?_
  intro p e s m below meth co C hin
  have C : zC p s m _ meth co D cy _ cX5_supply 4 none wsX5_supply RX5 := C
  have i5 : ∀ w ∈ wsX50, w ∈ wsX5_supply := by decide +kernel
  refine z_aload_n C dX5_supply_0 rfl (q := 0) rfl ?_
  refine z_dup C dX5_supply_1 rfl ?_
  refine zg_X5_left C (k := 10) (hL _ (by unfold live; omega)) (by rfl) i5 (by decide +kernel) (v := g 10 0) rfl dX5_supply_2 ?_
  refine z_iload_n C dX5_supply_5 rfl (q := 2) rfl ?_
  refine z_iload_n C dX5_supply_6 rfl (q := 3) rfl ?_
  refine z_isub C dX5_supply_7 (v := ma - wa) rfl ?_
  refine z_i2l C dX5_supply_8 (v := (ma - wa).toInt64) rfl ?_
  refine z_ladd C dX5_supply_9 (v := (g 10 0) + ((ma - wa).toInt64)) rfl ?_
  refine zp_X5_left C (k := 10) (hL _ (by unfold live; omega)) (by rfl) i5 (by decide +kernel) dX5_supply_10 ?_
  refine z_aload_n C dX5_supply_13 rfl (q := 0) rfl ?_
  refine zg_X5_left C (k := 10) (hL _ (by unfold live; omega)) (by rfl) i5 (by decide +kernel) (v := (g 10 0 + (ma - wa).toInt64)) (by simp [up2]) dX5_supply_14 ?_
  refine z_lconst C dX5_supply_17 (v := 0) (by decide) ?_
  refine z_lcmp C dX5_supply_18 ?_
  refine z_if_lt C dX5_supply_19 (tgt := 23) (by decide) (fun h19 => ?_) (fun h19 => ?_)
  · have q19 := lgc_lt.mp h19
    refine z_aload_n C dX5_supply_23 rfl (q := 0) rfl ?_
    refine z_dup C dX5_supply_24 rfl ?_
    refine zg_X5_lacking C (k := 10) (hL _ (by unfold live; omega)) (by rfl) i5 (by decide +kernel) (v := g 10 1) (by simp [up2]) dX5_supply_25 ?_
    refine z_aload_n C dX5_supply_28 rfl (q := 0) rfl ?_
    refine zg_X5_left C (k := 10) (hL _ (by unfold live; omega)) (by rfl) i5 (by decide +kernel) (v := (g 10 0 + (ma - wa).toInt64)) (by simp [up2]) dX5_supply_29 ?_
    refine z_lsub C dX5_supply_32 (v := (g 10 1) - ((g 10 0 + (ma - wa).toInt64))) rfl ?_
    refine zp_X5_lacking C (k := 10) (hL _ (by unfold live; omega)) (by rfl) i5 (by decide +kernel) dX5_supply_33 ?_
    refine z_aload_n C dX5_supply_36 rfl (q := 0) rfl ?_
    refine z_lconst C dX5_supply_37 (v := 0) (by decide) ?_
    refine zp_X5_left C (k := 10) (hL _ (by unfold live; omega)) (by rfl) i5 (by decide +kernel) dX5_supply_38 ?_
    refine z_aload_n C dX5_supply_41 rfl (q := 0) rfl ?_
    refine zg_X5_firstShort C (k := 10) (hL _ (by unfold live; omega)) (by rfl) i5 (by decide +kernel) (v := c 10 3) rfl dX5_supply_42 ?_
    refine z_iconst C dX5_supply_45 (v := -1) (by decide) ?_
    refine z_icmp_ne C dX5_supply_46 (tgt := 54) (by decide) (fun h46 => ?_) (fun h46 => ?_)
    · exact z_vret C rfl (Nat.le_refl _) (Nat.le_refl _) dX5_supply_54 ⟨_, _, rfl, fun k hk => rfl, by rw [if_pos q19]; simp [up2], by rw [if_pos q19]; simp [up2], by simp [up2], by rw [if_neg (fun h => h46 h.2)]⟩
    · refine z_aload_n C dX5_supply_49 rfl (q := 0) rfl ?_
      refine z_iload_n C dX5_supply_50 rfl (q := 1) rfl ?_
      refine zp_X5_firstShort C (k := 10) (hL _ (by unfold live; omega)) (by rfl) i5 (by decide +kernel) dX5_supply_51 ?_
      exact z_vret C rfl (Nat.le_refl _) (Nat.le_refl _) dX5_supply_54 ⟨_, _, rfl, fun k hk => up2_row c 3 _ hk, by rw [if_pos q19]; simp [up2], by rw [if_pos q19]; simp [up2], by simp [up2], by rw [if_pos ⟨q19, h46⟩]; simp [up2]⟩
  · have q19 := fun z => h19 (lgc_lt.mpr z)
    exact z_vret C rfl (Nat.le_refl _) (Nat.le_refl _) dX5_supply_22 ⟨_, _, rfl, fun k hk => rfl, by rw [if_neg q19]; simp [up2], by rw [if_neg q19]; simp [up2], by simp [up2], by rw [if_neg (fun h => q19 h.1)]⟩

set_option maxHeartbeats 4000000 in
set_option maxRecDepth 100000 in
theorem c_X5_soften (l : Launch) (D : va_G) (cy : Nat → ClassId) (a : Nat → Nat) (L : List Nat) (c : Nat → Nat → Int32) (g : Nat → Nat → Int64) (r : Nat → Nat → Option Nat) (nl nk : Nat) (hL : zLv L nl nk) (h : Int32) : zGV l yX5_soften wsX5_soften { frames := 0, cells := 0, slots := 0, locals := 0 } D cy a L c g r [Value.ref (a 10), Value.int h] (fun c' g' => c' = c ∧ g' 10 0 = g 10 0 - (g 10 0 * h.toInt64 / 100) ∧ g' 10 1 = g 10 1 ∧ g' 10 2 = g 10 2 + (g 10 0 * h.toInt64 / 100)) := by
  refine z_enter cX5_soften 4 none (by decide) (Nat.le_of_ble_eq_true rfl) ?_
  intro p e s m below meth co C hin
  have C : zC p s m _ meth co D cy _ cX5_soften 4 none wsX5_soften RX5 := C
  have i5 : ∀ w ∈ wsX50, w ∈ wsX5_soften := by decide +kernel
  refine z_aload_n C dX5_soften_0 rfl (q := 0) rfl ?_
  refine zg_X5_left C (k := 10) (hL _ (by unfold live; omega)) (by rfl) i5 (by decide +kernel) (v := g 10 0) rfl dX5_soften_1 ?_
  refine z_iload_n C dX5_soften_4 rfl (q := 1) rfl ?_
  refine z_i2l C dX5_soften_5 (v := h.toInt64) rfl ?_
  refine z_lmul C dX5_soften_6 (v := (g 10 0) * h.toInt64) rfl ?_
  refine z_ldc2 C dX5_soften_7 (v := 100) (by decide +kernel) ?_
  refine z_ldiv C dX5_soften_10 (by decide) (v := ((g 10 0) * h.toInt64) / 100) rfl ?_
  refine z_lstore_n C dX5_soften_11 rfl (by decide) (lv' := [(2, Value.long (((g 10 0) * h.toInt64) / 100)), (0, Value.ref (a 10)), (1, Value.int h)]) rfl ?_
  refine z_aload_n C dX5_soften_12 rfl (q := 1) rfl ?_
  refine z_dup C dX5_soften_13 rfl ?_
  refine zg_X5_left C (k := 10) (hL _ (by unfold live; omega)) (by rfl) i5 (by decide +kernel) (v := g 10 0) rfl dX5_soften_14 ?_
  refine z_lload_n C dX5_soften_17 rfl (q := 0) rfl ?_
  refine z_lsub C dX5_soften_18 (v := (g 10 0) - (((g 10 0) * h.toInt64) / 100)) rfl ?_
  refine zp_X5_left C (k := 10) (hL _ (by unfold live; omega)) (by rfl) i5 (by decide +kernel) dX5_soften_19 ?_
  refine z_aload_n C dX5_soften_22 rfl (q := 1) rfl ?_
  refine z_dup C dX5_soften_23 rfl ?_
  refine zg_X5_lost C (k := 10) (hL _ (by unfold live; omega)) (by rfl) i5 (by decide +kernel) (v := g 10 2) (by simp [up2]) dX5_soften_24 ?_
  refine z_lload_n C dX5_soften_27 rfl (q := 0) rfl ?_
  refine z_ladd C dX5_soften_28 (v := (g 10 2) + (((g 10 0) * h.toInt64) / 100)) rfl ?_
  refine zp_X5_lost C (k := 10) (hL _ (by unfold live; omega)) (by rfl) i5 (by decide +kernel) dX5_soften_29 ?_
  exact z_vret C rfl (Nat.le_refl _) (Nat.le_refl _) dX5_soften_32 ⟨_, _, rfl, rfl, by simp [up2], by simp [up2], by simp [up2]⟩

set_option maxHeartbeats 4000000 in
set_option maxRecDepth 100000 in
theorem c_X2_enter (l : Launch) (D : va_G) (cy : Nat → ClassId) (a : Nat → Nat) (L : List Nat) (c : Nat → Nat → Int32) (g : Nat → Nat → Int64) (r : Nat → Nat → Option Nat) (nl nk : Nat) (hL : zLv L nl nk) (hR : RC r nl nk) (hI : CI c nl nk) (hk2 : nk < 40) (hkL : 200 + nk ∈ L) (ns nc : Nat) (hns : c (200 + nk) 4 = nI ns) (hnc : c (200 + nk) 5 = nI nc) : zXV l yX2_enter wsX2_enter { frames := 1, cells := 0, slots := 0, locals := 20 } D cy a L c g r [Value.ref (a 6), Value.ref (a (200 + nk))] (fun ω => ω = (a, L, up2 (up2 (up2 c 6 1 (nI (nk + 1))) 6 2 (nI (nn c 6 2 + ns))) 6 3 (nI (nn c 6 3 + nc)), g, up2 r 7 nk (some (200 + nk)))) 0 0 := by
  refine z_enter cX2_enter 2 none (by decide) (Nat.le_of_ble_eq_true rfl) ?_
  intro p e s m below meth co C hin
  have C : zC p s m _ meth co D cy _ cX2_enter 2 none wsX2_enter RX2 := C
  have i1 : ∀ w ∈ wsX10, w ∈ wsX2_enter := by decide +kernel
  have i2 : ∀ w ∈ wsX20, w ∈ wsX2_enter := by decide +kernel
  refine z_aload_n C dX2_enter_0 rfl (q := 0) rfl ?_
  refine z_pI C (z_runV C (As := []) (rest := []) (c_X2_isFull l D cy a L c g r nl nk hL hR hI ) (cwV 0 C.2.2.2.2.2.1 gX2_enter_X2_isFull rfl rfl rfl (by decide +kernel) ⟨Nat.le_of_ble_eq_true rfl, Nat.le_of_ble_eq_true rfl⟩) (hL _ (by unfold live; omega)) (zF_k2 (by rfl)) rfl rfl rfl rfl (Nat.le_of_ble_eq_true rfl) dX2_enter_1 ⟨Nat.zero_le _, Nat.zero_le _⟩) (fun v1 e1 => ?_)
  rcases e1 with ⟨rfl, e1⟩ | ⟨rfl, e1⟩
  · exact absurd e1 (by omega)
  · refine z_if_eq C dX2_enter_4 (tgt := 8) (by decide) (fun h4 => ?_) (fun h4 => absurd h4 (by decide))
    refine z_aload_n C dX2_enter_8 rfl (q := 0) rfl ?_
    refine zg_X2_lumps C (k := 6) (hL _ (by unfold live; omega)) (by rfl) i2 (by decide +kernel) (k' := 7) (RC_lumps hR) dX2_enter_9 ?_
    refine z_aload_n C dX2_enter_12 rfl (q := 0) rfl ?_
    refine zg_X2_size C (k := 6) (hL _ (by unfold live; omega)) (by rfl) i2 (by decide +kernel) (v := nI nk) (CI_nk hI) dX2_enter_13 ?_
    refine z_aload_n C dX2_enter_16 rfl (q := 1) rfl ?_
    refine z_aastore C (k := 7) (n := 12) (hL _ (by unfold live; omega)) (by rfl) (by decide) (y := 200 + nk) hkL (zF_k1 (kd_k (by omega))) (j := nk) rfl (show _ < 40 by omega) (by decide) dX2_enter_17 ?_
    refine z_aload_n C dX2_enter_18 rfl (q := 0) rfl ?_
    refine z_dup C dX2_enter_19 rfl ?_
    refine zg_X2_size C (k := 6) (hL _ (by unfold live; omega)) (by rfl) i2 (by decide +kernel) (v := nI nk) (CI_nk hI) dX2_enter_20 ?_
    refine z_iconst C dX2_enter_23 (v := 1) (by decide) ?_
    refine z_iadd C dX2_enter_24 (v := nI (nk + 1)) (nI_add nk 1) ?_
    refine zp_X2_size C (k := 6) (hL _ (by unfold live; omega)) (by rfl) i2 (by decide +kernel) dX2_enter_25 ?_
    refine z_aload_n C dX2_enter_28 rfl (q := 0) rfl ?_
    refine z_dup C dX2_enter_29 rfl ?_
    refine zg_X2_stickCount C (k := 6) (hL _ (by unfold live; omega)) (by rfl) i2 (by decide +kernel) (v := nI (nn c 6 2)) (by simp only [up2]; exact (CI_tot hI).1.1) dX2_enter_30 ?_
    refine z_aload_n C dX2_enter_33 rfl (q := 1) rfl ?_
    refine zg_X1_sticks C (k := 200 + nk) hkL (kd_k (by omega)) i1 (by decide +kernel) (v := nI ns) (by rw [up2_k _ _ _ _ (by omega)]; exact hns) dX2_enter_34 ?_
    refine z_iadd C dX2_enter_37 (v := nI ((nn c 6 2) + ns)) (nI_add (nn c 6 2) ns) ?_
    refine zp_X2_stickCount C (k := 6) (hL _ (by unfold live; omega)) (by rfl) i2 (by decide +kernel) dX2_enter_38 ?_
    refine z_aload_n C dX2_enter_41 rfl (q := 0) rfl ?_
    refine z_dup C dX2_enter_42 rfl ?_
    refine zg_X2_scrap C (k := 6) (hL _ (by unfold live; omega)) (by rfl) i2 (by decide +kernel) (v := nI (nn c 6 3)) (by simp only [up2]; exact (CI_tot hI).2.1) dX2_enter_43 ?_
    refine z_aload_n C dX2_enter_46 rfl (q := 1) rfl ?_
    refine zg_X1_scrap C (k := 200 + nk) hkL (kd_k (by omega)) i1 (by decide +kernel) (v := nI nc) (by rw [up2_k _ _ _ _ (by omega), up2_k _ _ _ _ (by omega)]; exact hnc) dX2_enter_47 ?_
    refine z_iadd C dX2_enter_50 (v := nI ((nn c 6 3) + nc)) (nI_add (nn c 6 3) nc) ?_
    refine zp_X2_scrap C (k := 6) (hL _ (by unfold live; omega)) (by rfl) i2 (by decide +kernel) dX2_enter_51 ?_
    exact z_vret C rfl (Nat.le_refl _) (Nat.le_refl _) dX2_enter_54 rfl
