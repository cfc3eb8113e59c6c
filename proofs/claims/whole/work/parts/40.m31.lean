section FORE
variable {x y z : Int32}
theorem i32_top (x : Int32) : x.toInt ≤ 2147483647 := by have := Int32.toInt_lt x; omega
theorem i32_M : (2147483647 : Int32).toInt = 2147483647 := by decide
theorem i32_eM (h : ¬ x < 2147483647) : x = 2147483647 := by
  apply Int32.toInt_inj.mp; rw [tI_lt, i32_M] at h; have := i32_top x; rw [i32_M]; omega
theorem mn_r (h : 0 ≤ x.toInt) : mn x (-1) = -1 := if_pos (i32_pos h)
theorem mn_l (h : 0 ≤ x.toInt) : mn (-1) x = -1 := if_neg (i32_neg h)
theorem mx_r (h : 0 ≤ x.toInt) : mx x (-1) = x := if_neg (i32_neg h)
theorem mx_l (h : 0 ≤ x.toInt) : mx (-1) x = x := if_pos (i32_pos h)
theorem mx_0 (h : 0 ≤ x.toInt) : mx 0 x = x := by
  by_cases e : (0 : Int32) < x
  · exact if_pos e
  · rw [show mx 0 x = 0 from if_neg e]; apply Int32.toInt_inj.mp; rw [tI_lt, show (0 : Int32).toInt = 0 from by decide] at e; rw [show (0 : Int32).toInt = 0 from by decide]; omega
theorem mn_nn (hx : 0 ≤ x.toInt) (hy : 0 ≤ y.toInt) : 0 ≤ (mn x y).toInt := by
  by_cases e : y < x
  · rw [show mn x y = y from if_pos e]; exact hy
  · rw [show mn x y = x from if_neg e]; exact hx
theorem mx_nn (hx : 0 ≤ x.toInt) (hy : 0 ≤ y.toInt) : 0 ≤ (mx x y).toInt := by
  by_cases e : x < y
  · rw [show mx x y = y from if_pos e]; exact hy
  · rw [show mx x y = x from if_neg e]; exact hx
theorem fsS_n (s : Int32 × Int32 × Int32 × Nat) : fsS s (-1) = s := if_pos neg1_lt
theorem fsS_1 (h : 0 ≤ x.toInt) : fsS (2147483647, 2147483647, 2147483647, 0) x = (x, 2147483647, 2147483647, 1) := by
  unfold fsS; rw [if_neg (i32_max h)]
  by_cases e : x < 2147483647
  · rw [if_pos e]
  · rw [if_neg e, if_neg e, ← i32_eM e]
theorem fsS_2 (hy : 0 ≤ y.toInt) : fsS (x, 2147483647, 2147483647, 1) y = (mn x y, mx x y, 2147483647, 2) := by
  unfold fsS; rw [if_neg (i32_max hy)]
  by_cases e : y < x
  · rw [if_pos e, show mn x y = y from if_pos e, show mx x y = x from if_neg (by rw [tI_lt] at *; omega)]
  · have e3 : mx x y = y := by
      by_cases e4 : x < y
      · exact if_pos e4
      · rw [show mx x y = x from if_neg e4]; apply Int32.toInt_inj.mp; rw [tI_lt] at *; omega
    rw [if_neg e, show mn x y = x from if_neg e, e3]
    by_cases e2 : y < 2147483647
    · rw [if_pos e2]
    · rw [if_neg e2, ← i32_eM e2]
theorem fsS_3 (hz : 0 ≤ z.toInt) (hxy : x.toInt ≤ y.toInt) (m : Int32) : (fsS (x, y, m, 2) z).2.2.2 = 3 ∧ (fsS (x, y, m, 2) z).2.1 = mx x (mn y z) := by
  unfold fsS; rw [if_neg (i32_max hz)]
  by_cases e : z < x
  · rw [if_pos e]
    refine ⟨rfl, ?_⟩
    rw [show mn y z = z from if_pos (by rw [tI_lt] at *; omega)]
    exact (if_neg (by rw [tI_lt] at *; omega)).symm
  · rw [if_neg e]
    by_cases e2 : z < y
    · rw [if_pos e2]
      refine ⟨rfl, ?_⟩
      rw [show mn y z = z from if_pos e2]
      by_cases e3 : x < z
      · exact (if_pos e3).symm
      · rw [show mx x z = x from if_neg e3]; apply Int32.toInt_inj.mp; show z.toInt = x.toInt; rw [tI_lt] at *; omega
    · rw [if_neg e2]
      refine ⟨rfl, ?_⟩
      rw [show mn y z = y from if_neg e2]
      by_cases e3 : x < y
      · exact (if_pos e3).symm
      · rw [show mx x y = x from if_neg e3]; apply Int32.toInt_inj.mp; show y.toInt = x.toInt; rw [tI_lt] at *; omega
theorem mn_le_mx (x y : Int32) : (mn x y).toInt ≤ (mx x y).toInt := by
  by_cases e : y < x
  · rw [show mn x y = y from if_pos e, show mx x y = x from if_neg (by rw [tI_lt] at *; omega)]; rw [tI_lt] at e; omega
  · rw [show mn x y = x from if_neg e]
    by_cases e4 : x < y
    · rw [show mx x y = y from if_pos e4]; rw [tI_lt] at e4; omega
    · rw [show mx x y = x from if_neg e4]; exact Int.le_refl _
theorem fore_lem (hx : x = -1 ∨ 0 ≤ x.toInt) (hy : y = -1 ∨ 0 ≤ y.toInt) (hz : z = -1 ∨ 0 ≤ z.toInt) (s : Int32 × Int32 × Int32 × Nat) (hs : s = fsS (fsS (fsS (2147483647, 2147483647, 2147483647, 0) x) y) z) : (if s.2.2.2 = 0 then 0 else if s.2.2.2 = 3 then s.2.1 else s.1) = fore3 x y z := by
  unfold fore3
  rcases hx with rfl | hx <;> rcases hy with rfl | hy <;> rcases hz with rfl | hz
  · rw [fsS_n, fsS_n, fsS_n] at hs; subst hs; decide
  · rw [fsS_n, fsS_n, fsS_1 hz] at hs; subst hs
    rw [show mn (-1) (-1) = -1 from by decide, show mx (-1) (-1) = -1 from by decide, mn_l hz, show mx (-1) (-1) = -1 from by decide, if_pos (rfl : (-1 : Int32) = -1), mx_l hz, mx_l hz, mx_0 hz]; rfl
  · rw [fsS_n, fsS_n, fsS_1 hy] at hs; subst hs
    rw [mn_l hy, mx_l hy, mn_r hy, show mx (-1) (-1) = -1 from by decide, if_pos (rfl : (-1 : Int32) = -1), mx_r hy, mx_l hy, mx_0 hy]; rfl
  · rw [fsS_n, fsS_1 hy, fsS_2 hz] at hs; subst hs
    rw [mn_l hy, mx_l hy, mx_l (mn_nn hy hz), if_neg (i32_ne (mn_nn hy hz))]; rfl
  · rw [fsS_n, fsS_n, fsS_1 hx] at hs; subst hs
    rw [mn_r hx, mx_r hx, mn_r hx, show mx (-1) (-1) = -1 from by decide, if_pos (rfl : (-1 : Int32) = -1), mx_r hx, mx_0 hx]; rfl
  · rw [fsS_1 hx, fsS_n, fsS_2 hz] at hs; subst hs
    rw [mn_r hx, mx_r hx, mx_l (mn_nn hx hz), if_neg (i32_ne (mn_nn hx hz))]; rfl
  · rw [fsS_n, fsS_1 hx, fsS_2 hy] at hs; subst hs
    rw [mn_r (mx_nn hx hy), mx_r (mn_nn hx hy), if_neg (i32_ne (mn_nn hx hy))]; rfl
  · rw [fsS_1 hx, fsS_2 hy] at hs
    obtain ⟨h1, h2⟩ := fsS_3 hz (mn_le_mx x y) 2147483647
    rw [← hs] at h1 h2
    rw [if_neg (by omega), if_pos h1, h2, if_neg (i32_ne (mx_nn (mn_nn hx hy) (mn_nn (mx_nn hx hy) hz)))]
end FORE
theorem fore_eq (d : Nat → Nat → Int32) (wk : Nat) : foreF d wk = foreC d wk := fore_lem (wantC_or d 0 wk) (wantC_or d 1 wk) (wantC_or d 2 wk) (fs3 d wk 3) rfl

set_option maxHeartbeats 4000000 in
set_option maxRecDepth 100000 in
theorem c_X8_foretold (l : Launch) (D : va_G) (cy : Nat → ClassId) (a : Nat → Nat) (L : List Nat) (c : Nat → Nat → Int32) (g : Nat → Nat → Int64) (r : Nat → Nat → Option Nat) (nl nk : Nat) (hL : zLv L nl nk) (hM : RM r) (d : Nat → Nat → Int32) (hI : CI d nl nk) (x : Nat → Nat → Nat) (hX : XL d nl x) (hK : LK d c nl nk x) (week : Int32) : zPI l yX8_foretold wsX8_foretold { frames := 2, cells := 0, slots := 0, locals := 45 } D cy a L c g r [Value.ref (a 300), Value.int week] (fun v => v = if 0 ≤ week.toInt ∧ week.toInt ≤ 51 then foreC d (tn week) else -2) := by
  refine z_enter cX8_foretold 2 (some .int) (by decide) (Nat.le_of_ble_eq_true rfl) ?_
  intro p e s m below meth co C hin
  have C : zC p s m _ meth co D cy _ cX8_foretold 2 (some .int) wsX8_foretold RX8 := C
  refine z_iload_n C dX8_foretold_0 rfl (q := 1) rfl ?_
  refine z_pI C (z_runS C (As := [Value.int week]) (rest := []) (c_X8_isWeek l D cy a L c g r week) (va_cwS 1 C.2.2.2.2.2.1 gX8_foretold_X8_isWeek rfl rfl rfl (by decide +kernel) ⟨Nat.le_of_ble_eq_true rfl, Nat.le_of_ble_eq_true rfl⟩) rfl rfl (Nat.le_of_ble_eq_true rfl) dX8_foretold_1 ⟨Nat.zero_le _, Nat.zero_le _⟩) (fun v1 e1 => ?_)
  rcases e1 with ⟨rfl, e1⟩ | ⟨rfl, e1⟩
  · obtain ⟨wk, hwk, rfl⟩ := arg_nI (b := 51) e1
    have twk := nI_toInt (n := wk) (by omega)
    have uwk := tn_nI (j := wk) (by omega)
    refine z_if_eq C dX8_foretold_4 (tgt := 15) (by decide) (fun h4 => absurd h4 (by decide)) (fun h4 => ?_)
    refine z_aload_n C dX8_foretold_7 rfl (q := 0) rfl ?_
    refine z_iload_n C dX8_foretold_8 rfl (q := 1) rfl ?_
    refine z_pI C (z_runV C (As := [Value.int (nI wk)]) (rest := []) (c_X8_foretoldOf l D cy a L c g r nl nk hL hM d hI x hX hK wk (by omega)) (cwV 1 C.2.2.2.2.2.1 gX8_foretold_X8_foretoldOf rfl rfl rfl (by decide +kernel) ⟨Nat.le_of_ble_eq_true rfl, Nat.le_of_ble_eq_true rfl⟩) (hL _ (by unfold live; omega)) (zF_k8 (by rfl)) rfl rfl rfl rfl (Nat.le_of_ble_eq_true rfl) dX8_foretold_9 ⟨Nat.zero_le _, Nat.zero_le _⟩) (fun v9 e9 => ?_)
    rw [fore_eq] at e9
    subst e9
    refine z_goto C dX8_foretold_12 (tgt := 17) (by decide) ?_
    exact z_iret C rfl (Nat.le_refl _) (Nat.le_refl _) dX8_foretold_17 ⟨rfl, by rw [if_pos (by omega), uwk]⟩
  · refine z_if_eq C dX8_foretold_4 (tgt := 15) (by decide) (fun h4 => ?_) (fun h4 => absurd h4 (by decide))
    refine z_bipush C dX8_foretold_15 (v := -2) (by decide) ?_
    exact z_iret C rfl (Nat.le_refl _) (Nat.le_refl _) dX8_foretold_17 ⟨rfl, by rw [if_neg (by omega)]⟩
