set_option maxHeartbeats 4000000 in
set_option maxRecDepth 100000 in
theorem c_X6_init (l : Launch) (D : va_G) (cy : Nat → ClassId) (a : Nat → Nat) (L : List Nat) (c : Nat → Nat → Int32) (g : Nat → Nat → Int64) (r : Nat → Nat → Option Nat) (k k2 : Nat) (h1 : kd k = 6) (h2 : kd k2 = 11) (h3 : ln k2 = 10) (hne : k ≠ k2) (hkL : k ∈ L) (hfs : k2 ∉ L) (hZ : zR L r) : zXV l yX6_init wsX6_init { frames := 1, cells := 1, slots := 10, locals := 20 } D cy a L c g r [Value.ref (a k)] (fun ω => ∃ a', (∀ j, j ≠ k2 → a' j = a j) ∧ ω = (a', L ++ [k2], up2 (up1 c k2 (fun _ => 0)) k 1 (nI 0), up1 g k2 (fun _ => 0), up2 (up1 r k2 (fun _ => none)) k 0 (some k2))) 1 10 := by
  refine z_enter cX6_init 1 none (by decide) (Nat.le_of_ble_eq_true rfl) ?_
  intro p e s m below meth co C hin
  have C : zC p s m _ meth co D cy _ cX6_init 1 none wsX6_init RX6 := C
  have i6 : ∀ w ∈ wsX60, w ∈ wsX6_init := by decide +kernel
  refine z_aload_n C dX6_init_0 rfl (q := 0) rfl ?_
  refine z_objInit C (by decide +kernel) (by decide +kernel) (by decide +kernel) (Nat.le_of_ble_eq_true rfl) (Nat.le_of_ble_eq_true rfl) dX6_init_1 ?_
  refine z_aload_n C dX6_init_4 rfl (q := 0) rfl ?_
  refine z_bipush C dX6_init_5 (v := nI 10) (by decide) ?_
  refine z_newr C (k := k2) (N := 10) (n := 11) (Cn := RX0) (by simp) h2 h3 (by decide) (by decide +kernel) (Nat.le_of_ble_eq_true rfl) (Nat.le_of_ble_eq_true rfl) hfs (zR_ne hZ hfs) dX6_init_7 (fun a ha7_1 => ?_)
  refine z_lveq (lv' := [(0, Value.ref (a k))]) (by rw [ha7_1 (k) hne] <;> rfl) ?_
  refine z_steq (st' := [Value.ref (a k2), Value.ref (a k)]) (by rw [ha7_1 (k) hne] <;> rfl) ?_
  have hZ := zR_new hZ (k2)
  refine zp_X6_letters C (k := k) (List.mem_append_left _ hkL) h1 i6 (by decide +kernel) hin rfl dX6_init_10 ?_
  refine z_aload_n C dX6_init_13 rfl (q := 0) rfl ?_
  refine z_iconst C dX6_init_14 (v := nI 0) (by decide) ?_
  refine zp_X6_size C (k := k) (List.mem_append_left _ hkL) h1 i6 (by decide +kernel) dX6_init_15 ?_
  exact z_vret C rfl (Nat.le_of_ble_eq_true rfl) (Nat.le_of_ble_eq_true rfl) dX6_init_18 ⟨a, ha7_1, rfl⟩

set_option maxHeartbeats 4000000 in
set_option maxRecDepth 100000 in
theorem c_X3_init (l : Launch) (D : va_G) (cy : Nat → ClassId) (a : Nat → Nat) (L : List Nat) (c : Nat → Nat → Int32) (g : Nat → Nat → Int64) (r : Nat → Nat → Option Nat) (k k2 : Nat) (h1 : kd k = 3) (h2 : kd k2 = 9) (h3 : ln k2 = 60) (hne : k ≠ k2) (hkL : k ∈ L) (hfs : k2 ∉ L) (hZ : zR L r) : zXV l yX3_init wsX3_init { frames := 1, cells := 1, slots := 60, locals := 20 } D cy a L c g r [Value.ref (a k)] (fun ω => ∃ a', (∀ j, j ≠ k2 → a' j = a j) ∧ ω = (a', L ++ [k2], up2 (up2 (up1 c k2 (fun _ => 0)) k 1 (nI 30)) k 2 (nI 1), up1 g k2 (fun _ => 0), up2 (up1 r k2 (fun _ => none)) k 0 (some k2))) 1 60 := by
  refine z_enter cX3_init 1 none (by decide) (Nat.le_of_ble_eq_true rfl) ?_
  intro p e s m below meth co C hin
  have C : zC p s m _ meth co D cy _ cX3_init 1 none wsX3_init RX3 := C
  have i3 : ∀ w ∈ wsX30, w ∈ wsX3_init := by decide +kernel
  refine z_aload_n C dX3_init_0 rfl (q := 0) rfl ?_
  refine z_objInit C (by decide +kernel) (by decide +kernel) (by decide +kernel) (Nat.le_of_ble_eq_true rfl) (Nat.le_of_ble_eq_true rfl) dX3_init_1 ?_
  refine z_aload_n C dX3_init_4 rfl (q := 0) rfl ?_
  refine z_bipush C dX3_init_5 (v := nI 60) (by decide) ?_
  refine z_newi C (k := k2) (N := 60) h2 h3 (by decide) (by decide +kernel) (Nat.le_of_ble_eq_true rfl) (Nat.le_of_ble_eq_true rfl) hfs (zR_ne hZ hfs) dX3_init_7 (fun a ha7_1 => ?_)
  refine z_lveq (lv' := [(0, Value.ref (a k))]) (by rw [ha7_1 (k) hne] <;> rfl) ?_
  refine z_steq (st' := [Value.ref (a k2), Value.ref (a k)]) (by rw [ha7_1 (k) hne] <;> rfl) ?_
  have hZ := zR_new hZ (k2)
  refine zp_X3_laid C (k := k) (List.mem_append_left _ hkL) h1 i3 (by decide +kernel) hin rfl dX3_init_9 ?_
  refine z_aload_n C dX3_init_12 rfl (q := 0) rfl ?_
  refine z_bipush C dX3_init_13 (v := nI 30) (by decide) ?_
  refine zp_X3_slotCount C (k := k) (List.mem_append_left _ hkL) h1 i3 (by decide +kernel) dX3_init_15 ?_
  refine z_aload_n C dX3_init_18 rfl (q := 0) rfl ?_
  refine z_iconst C dX3_init_19 (v := nI 1) (by decide) ?_
  refine zp_X3_gapWidth C (k := k) (List.mem_append_left _ hkL) h1 i3 (by decide +kernel) dX3_init_20 ?_
  exact z_vret C rfl (Nat.le_of_ble_eq_true rfl) (Nat.le_of_ble_eq_true rfl) dX3_init_23 ⟨a, ha7_1, rfl⟩

set_option maxHeartbeats 4000000 in
set_option maxRecDepth 100000 in
theorem c_X2_init (l : Launch) (D : va_G) (cy : Nat → ClassId) (a : Nat → Nat) (L : List Nat) (c : Nat → Nat → Int32) (g : Nat → Nat → Int64) (r : Nat → Nat → Option Nat) (k k2 : Nat) (h1 : kd k = 2) (h2 : kd k2 = 12) (h3 : ln k2 = 40) (hne : k ≠ k2) (hkL : k ∈ L) (hfs : k2 ∉ L) (hZ : zR L r) : zXV l yX2_init wsX2_init { frames := 1, cells := 1, slots := 40, locals := 20 } D cy a L c g r [Value.ref (a k)] (fun ω => ∃ a', (∀ j, j ≠ k2 → a' j = a j) ∧ ω = (a', L ++ [k2], up2 (up2 (up2 (up1 c k2 (fun _ => 0)) k 1 (nI 0)) k 2 (nI 0)) k 3 (nI 0), up1 g k2 (fun _ => 0), up2 (up1 r k2 (fun _ => none)) k 0 (some k2))) 1 40 := by
  refine z_enter cX2_init 1 none (by decide) (Nat.le_of_ble_eq_true rfl) ?_
  intro p e s m below meth co C hin
  have C : zC p s m _ meth co D cy _ cX2_init 1 none wsX2_init RX2 := C
  have i2 : ∀ w ∈ wsX20, w ∈ wsX2_init := by decide +kernel
  refine z_aload_n C dX2_init_0 rfl (q := 0) rfl ?_
  refine z_objInit C (by decide +kernel) (by decide +kernel) (by decide +kernel) (Nat.le_of_ble_eq_true rfl) (Nat.le_of_ble_eq_true rfl) dX2_init_1 ?_
  refine z_aload_n C dX2_init_4 rfl (q := 0) rfl ?_
  refine z_bipush C dX2_init_5 (v := nI 40) (by decide) ?_
  refine z_newr C (k := k2) (N := 40) (n := 12) (Cn := RX1) (by simp) h2 h3 (by decide) (by decide +kernel) (Nat.le_of_ble_eq_true rfl) (Nat.le_of_ble_eq_true rfl) hfs (zR_ne hZ hfs) dX2_init_7 (fun a ha7_1 => ?_)
  refine z_lveq (lv' := [(0, Value.ref (a k))]) (by rw [ha7_1 (k) hne] <;> rfl) ?_
  refine z_steq (st' := [Value.ref (a k2), Value.ref (a k)]) (by rw [ha7_1 (k) hne] <;> rfl) ?_
  have hZ := zR_new hZ (k2)
  refine zp_X2_lumps C (k := k) (List.mem_append_left _ hkL) h1 i2 (by decide +kernel) hin rfl dX2_init_10 ?_
  refine z_aload_n C dX2_init_13 rfl (q := 0) rfl ?_
  refine z_iconst C dX2_init_14 (v := nI 0) (by decide) ?_
  refine zp_X2_size C (k := k) (List.mem_append_left _ hkL) h1 i2 (by decide +kernel) dX2_init_15 ?_
  refine z_aload_n C dX2_init_18 rfl (q := 0) rfl ?_
  refine z_iconst C dX2_init_19 (v := nI 0) (by decide) ?_
  refine zp_X2_stickCount C (k := k) (List.mem_append_left _ hkL) h1 i2 (by decide +kernel) dX2_init_20 ?_
  refine z_aload_n C dX2_init_23 rfl (q := 0) rfl ?_
  refine z_iconst C dX2_init_24 (v := nI 0) (by decide) ?_
  refine zp_X2_scrap C (k := k) (List.mem_append_left _ hkL) h1 i2 (by decide +kernel) dX2_init_25 ?_
  exact z_vret C rfl (Nat.le_of_ble_eq_true rfl) (Nat.le_of_ble_eq_true rfl) dX2_init_28 ⟨a, ha7_1, rfl⟩

set_option maxHeartbeats 4000000 in
set_option maxRecDepth 100000 in
theorem c_X4_init (l : Launch) (D : va_G) (cy : Nat → ClassId) (a : Nat → Nat) (L : List Nat) (c : Nat → Nat → Int32) (g : Nat → Nat → Int64) (r : Nat → Nat → Option Nat) (k k2 : Nat) (h1 : kd k = 4) (h2 : kd k2 = 9) (h3 : ln k2 = 60) (hne : k ≠ k2) (hkL : k ∈ L) (hfs : k2 ∉ L) (hZ : zR L r) : zXV l yX4_init wsX4_init { frames := 1, cells := 1, slots := 60, locals := 20 } D cy a L c g r [Value.ref (a k)] (fun ω => ∃ a', (∀ j, j ≠ k2 → a' j = a j) ∧ ω = (a', L ++ [k2], up2 (up2 (up2 (up1 c k2 (fun _ => 0)) k 1 (nI 1)) k 2 (nI 0)) k 3 (nI 0), up1 g k2 (fun _ => 0), up2 (up1 r k2 (fun _ => none)) k 0 (some k2))) 1 60 := by
  refine z_enter cX4_init 1 none (by decide) (Nat.le_of_ble_eq_true rfl) ?_
  intro p e s m below meth co C hin
  have C : zC p s m _ meth co D cy _ cX4_init 1 none wsX4_init RX4 := C
  have i4 : ∀ w ∈ wsX40, w ∈ wsX4_init := by decide +kernel
  refine z_aload_n C dX4_init_0 rfl (q := 0) rfl ?_
  refine z_objInit C (by decide +kernel) (by decide +kernel) (by decide +kernel) (Nat.le_of_ble_eq_true rfl) (Nat.le_of_ble_eq_true rfl) dX4_init_1 ?_
  refine z_aload_n C dX4_init_4 rfl (q := 0) rfl ?_
  refine z_bipush C dX4_init_5 (v := nI 60) (by decide) ?_
  refine z_newi C (k := k2) (N := 60) h2 h3 (by decide) (by decide +kernel) (Nat.le_of_ble_eq_true rfl) (Nat.le_of_ble_eq_true rfl) hfs (zR_ne hZ hfs) dX4_init_7 (fun a ha7_1 => ?_)
  refine z_lveq (lv' := [(0, Value.ref (a k))]) (by rw [ha7_1 (k) hne] <;> rfl) ?_
  refine z_steq (st' := [Value.ref (a k2), Value.ref (a k)]) (by rw [ha7_1 (k) hne] <;> rfl) ?_
  have hZ := zR_new hZ (k2)
  refine zp_X4_items C (k := k) (List.mem_append_left _ hkL) h1 i4 (by decide +kernel) hin rfl dX4_init_9 ?_
  refine z_aload_n C dX4_init_12 rfl (q := 0) rfl ?_
  refine z_iconst C dX4_init_13 (v := nI 1) (by decide) ?_
  refine zp_X4_isLost C (k := k) (List.mem_append_left _ hkL) h1 i4 (by decide +kernel) rfl rfl dX4_init_14 ?_
  refine z_aload_n C dX4_init_17 rfl (q := 0) rfl ?_
  refine z_iconst C dX4_init_18 (v := nI 0) (by decide) ?_
  refine zp_X4_form C (k := k) (List.mem_append_left _ hkL) h1 i4 (by decide +kernel) dX4_init_19 ?_
  refine z_aload_n C dX4_init_22 rfl (q := 0) rfl ?_
  refine z_iconst C dX4_init_23 (v := nI 0) (by decide) ?_
  refine zp_X4_size C (k := k) (List.mem_append_left _ hkL) h1 i4 (by decide +kernel) dX4_init_24 ?_
  exact z_vret C rfl (Nat.le_of_ble_eq_true rfl) (Nat.le_of_ble_eq_true rfl) dX4_init_27 ⟨a, ha7_1, rfl⟩

set_option maxHeartbeats 4000000 in
set_option maxRecDepth 100000 in
theorem c_X5_init (l : Launch) (D : va_G) (cy : Nat → ClassId) (a : Nat → Nat) (L : List Nat) (c : Nat → Nat → Int32) (g : Nat → Nat → Int64) (r : Nat → Nat → Option Nat) (k : Nat) : zCV l yX5_init wsX5_init { frames := 1, cells := 0, slots := 0, locals := 20 } D cy a L c g r [Value.ref (a k)] (fun c' => c' = c) := by
  refine z_enter cX5_init 1 none (by decide) (Nat.le_of_ble_eq_true rfl) ?_
  intro p e s m below meth co C hin
  have C : zC p s m _ meth co D cy _ cX5_init 1 none wsX5_init RX5 := C
  refine z_aload_n C dX5_init_0 rfl (q := 0) rfl ?_
  refine z_objInit C (by decide +kernel) (by decide +kernel) (by decide +kernel) (Nat.le_of_ble_eq_true rfl) (Nat.le_of_ble_eq_true rfl) dX5_init_1 ?_
  exact z_vret C rfl (Nat.le_refl _) (Nat.le_refl _) dX5_init_4 ⟨_, rfl, rfl⟩

/-- the class's cells when it has been made -/
def IniC (c : Nat → Nat → Int32) (r : Nat → Nat → Option Nat) : Prop := RC r 0 0 ∧ (c 0 1 = nI 0 ∧ c 0 10 = nI 0 ∧ c 3 1 = nI 30 ∧ c 3 2 = nI 1 ∧ c 5 0 = nI 100 ∧ c 5 1 = nI 10 ∧ c 5 2 = nI 20 ∧ c 5 3 = nI 10 ∧ c 6 1 = nI 0 ∧ c 6 2 = nI 0 ∧ c 6 3 = nI 0)
  ∧ (∀ w, w < 8 → c (20 + w) 1 = nI 0) ∧ (∀ w, w < 4 → c (40 + w) 1 = nI 1 ∧ c (40 + w) 2 = nI 0 ∧ c (40 + w) 3 = nI 0 ∧ ∀ i, c (50 + w) i = nI 0) ∧ (∀ i, c 8 i = nI 0 ∧ c 9 i = nI 0)
def rockL : List Nat := [0, 1, 2, 20, 30, 21, 31, 22, 32, 23, 33, 24, 34, 25, 35, 26, 36, 27, 37, 3, 4, 5, 6, 7, 8, 9, 10, 11, 40, 50, 41, 51, 42, 52, 43, 53]

set_option maxHeartbeats 4000000 in
set_option maxRecDepth 100000 in
theorem c_X7_init (l : Launch) (D : va_G) (cy : Nat → ClassId) (a : Nat → Nat) (L : List Nat) (c : Nat → Nat → Int32) (g : Nat → Nat → Int64) (r : Nat → Nat → Option Nat) (hLe : L = [0]) (hZ : zR [0] r) : zXV l yX7_init wsX7_init { frames := 2, cells := 35, slots := 599, locals := 40 } D cy a L c g r [Value.ref (a 0)] (fun ω => ∃ a' c' g' r', a' 0 = a 0 ∧ ω = (a', rockL, c', g', r') ∧ zR rockL r' ∧ IniC c' r') 35 599 := by
  refine z_enter cX7_init 2 none (by decide) (Nat.le_of_ble_eq_true rfl) ?_
  intro p e s m below meth co C hin
  have C : zC p s m _ meth co D cy _ cX7_init 2 none wsX7_init RX7 := C
  have i2 : ∀ w ∈ wsX20, w ∈ wsX7_init := by decide +kernel
  have i3 : ∀ w ∈ wsX30, w ∈ wsX7_init := by decide +kernel
  have i4 : ∀ w ∈ wsX40, w ∈ wsX7_init := by decide +kernel
  have i5 : ∀ w ∈ wsX50, w ∈ wsX7_init := by decide +kernel
  have i6 : ∀ w ∈ wsX60, w ∈ wsX7_init := by decide +kernel
  have i7 : ∀ w ∈ wsX70, w ∈ wsX7_init := by decide +kernel
  subst hLe
  have ha0 : a 0 = a 0 := rfl
  refine z_aload_n C dX7_init_0 rfl (q := 0) rfl ?_
  refine z_objInit C (by decide +kernel) (by decide +kernel) (by decide +kernel) (Nat.le_of_ble_eq_true rfl) (Nat.le_of_ble_eq_true rfl) dX7_init_1 ?_
  refine z_aload_n C dX7_init_4 rfl (q := 0) rfl ?_
  refine z_bipush C dX7_init_5 (v := nI 16) (by decide) ?_
  refine z_newr C (k := 1) (N := 16) (n := 11) (Cn := RX0) (by simp) (by rfl) (show ln 1 = 16 from rfl) (by decide) (by decide +kernel) (Nat.le_of_ble_eq_true rfl) (Nat.le_of_ble_eq_true rfl) (by decide) (zR_ne hZ (by decide)) dX7_init_7 (fun a ha7_1 => ?_)
  have ha0 := (ha7_1 0 (by decide)).trans ha0
  refine z_lveq (lv' := [(0, Value.ref (a 0))]) (by rw [ha7_1 (0) (by decide)] <;> rfl) ?_
  refine z_steq (st' := [Value.ref (a 1), Value.ref (a 0)]) (by rw [ha7_1 (0) (by decide)] <;> rfl) ?_
  have hZ := zR_new hZ (1)
  refine zp_X7_alphabet C (k := 0) (by decide) (by rfl) i7 (by decide +kernel) hin rfl dX7_init_10 ?_
  have hZ := zR_put hZ (0) 0 (y := 1) (by decide)
  refine z_aload_n C dX7_init_13 rfl (q := 0) rfl ?_
  refine z_iconst C dX7_init_14 (v := nI 0) (by decide) ?_
  refine zp_X7_letterCount C (k := 0) (by decide) (by rfl) i7 (by decide +kernel) dX7_init_15 ?_
  refine z_aload_n C dX7_init_18 rfl (q := 0) rfl ?_
  refine z_bipush C dX7_init_19 (v := nI 8) (by decide) ?_
  refine z_newr C (k := 2) (N := 8) (n := 14) (Cn := RX6) (by simp) (by rfl) (show ln 2 = 8 from rfl) (by decide) (by decide +kernel) (Nat.le_of_ble_eq_true rfl) (Nat.le_of_ble_eq_true rfl) (by decide) (zR_ne hZ (by decide)) dX7_init_21 (fun a ha21_2 => ?_)
  have ha0 := (ha21_2 0 (by decide)).trans ha0
  refine z_lveq (lv' := [(0, Value.ref (a 0))]) (by rw [ha21_2 (0) (by decide)] <;> rfl) ?_
  refine z_steq (st' := [Value.ref (a 2), Value.ref (a 0)]) (by rw [ha21_2 (0) (by decide)] <;> rfl) ?_
  have hZ := zR_new hZ (2)
  refine zp_X7_wordRow C (k := 0) (by decide) (by rfl) i7 (by decide +kernel) hin rfl dX7_init_24 ?_
  have hZ := zR_put hZ (0) 2 (y := 2) (by decide)
  refine z_iconst C dX7_init_27 (v := nI 0) (by decide) ?_
  refine z_istore_n C dX7_init_28 rfl (by decide) (lv' := [(1, Value.int (nI 0)), (0, Value.ref (a 0))]) rfl ?_
  refine z_iload_n C dX7_init_29 rfl (q := 0) rfl ?_
  refine z_bipush C dX7_init_30 (v := nI 8) (by decide) ?_
  refine z_icmp_ge C dX7_init_32 (tgt := 54) (by decide) (fun h32 => absurd h32 (by decide)) (fun h32 => ?_)
  refine z_aload_n C dX7_init_35 rfl (q := 1) rfl ?_
  refine zg_X7_wordRow C (k := 0) (by decide) (by rfl) i7 (by decide +kernel) (k' := 2) rfl dX7_init_36 ?_
  refine z_iload_n C dX7_init_39 rfl (q := 0) rfl ?_
  refine z_new C (k := 20) (ci := 6) i6 tyX6 tyX6_ok (by decide +kernel) (by decide +kernel) (by decide +kernel) rfl (fs := [Value.null, Value.int 0]) (fun j hj => by rcases (show j = 0 ∨ j = 1 by omega) with rfl | rfl <;> rfl) (Nat.le_of_ble_eq_true rfl) (Nat.le_of_ble_eq_true rfl) (by decide) (zR_ne hZ (by decide)) (fun a' => by rw [zF_k6 (by rfl)]; simp [zr, up1, va_rf]) dX7_init_40 (fun a ha40_3 => ?_)
  have ha0 := (ha40_3 0 (by decide)).trans ha0
  refine z_lveq (lv' := [(1, Value.int (nI 0)), (0, Value.ref (a 0))]) (by rw [ha40_3 (0) (by decide)] <;> rfl) ?_
  refine z_steq (st' := [Value.ref (a 20), Value.int (nI 0), Value.ref (a 2)]) (by rw [ha40_3 (2) (by decide)] <;> rfl) ?_
  have hZ := zR_new hZ (20)
  refine z_dup C dX7_init_43 rfl ?_
  refine z_xV C (z_runIN C (rt := none) (As := []) (rest := [Value.ref (a 20), Value.int (nI 0), Value.ref (a 2)]) (c_X6_init l D cy a _ _ _ _ 20 30 (by rfl) (by rfl) (by rfl) (by decide) (by decide) (by decide) hZ) ⟨va_cnB 0 C.2.2.2.2.2.1 gX7_init_X6_init_n25 rfl rfl rfl C.2.2.2.2.2.2.1.2.1.1 (C.2.2.2.2.2.1 _ (by decide +kernel)) (by decide +kernel) ⟨Nat.le_of_ble_eq_true rfl, Nat.le_of_ble_eq_true rfl⟩, rfl, C.2.2.2.2.2.1 _ (by decide +kernel)⟩ rfl rfl (Nat.le_of_ble_eq_true rfl) dX7_init_44 ⟨Nat.le_of_ble_eq_true rfl, Nat.le_of_ble_eq_true rfl⟩) (fun ω44 e44 => ?_)
  obtain ⟨a, ha44_4, rfl⟩ := e44
  dsimp only
  have ha0 := (ha44_4 0 (by decide)).trans ha0
  refine z_lveq (lv' := [(1, Value.int (nI 0)), (0, Value.ref (a 0))]) (by rw [ha44_4 (0) (by decide)] <;> rfl) ?_
  refine z_steq (st' := [Value.ref (a 20), Value.int (nI 0), Value.ref (a 2)]) (by rw [ha44_4 (20) (by decide), ha44_4 (2) (by decide)] <;> rfl) ?_
  have hZ := zR_put (zR_new hZ 30) 20 0 (y := 30) (by decide)
  refine z_aastore C (k := 2) (n := 14) (by decide) (by rfl) (by decide) (y := 20) (by decide) (zF_k6 (by rfl)) (j := 0) rfl (by decide) (by decide) dX7_init_47 ?_
  have hZ := zR_put hZ 2 0 (y := 20) (by decide)
  refine z_iinc C dX7_init_48 (q := 0) rfl (v := nI 1) (by decide) (by decide) (lv' := [(1, Value.int (nI 1)), (0, Value.ref (a 0))]) rfl ?_
  refine z_goto C dX7_init_51 (tgt := 29) (by decide) ?_
  refine z_iload_n C dX7_init_29 rfl (q := 0) rfl ?_
  refine z_bipush C dX7_init_30 (v := nI 8) (by decide) ?_
  refine z_icmp_ge C dX7_init_32 (tgt := 54) (by decide) (fun h32 => absurd h32 (by decide)) (fun h32 => ?_)
  refine z_aload_n C dX7_init_35 rfl (q := 1) rfl ?_
  refine zg_X7_wordRow C (k := 0) (by decide) (by rfl) i7 (by decide +kernel) (k' := 2) rfl dX7_init_36 ?_
  refine z_iload_n C dX7_init_39 rfl (q := 0) rfl ?_
  refine z_new C (k := 21) (ci := 6) i6 tyX6 tyX6_ok (by decide +kernel) (by decide +kernel) (by decide +kernel) rfl (fs := [Value.null, Value.int 0]) (fun j hj => by rcases (show j = 0 ∨ j = 1 by omega) with rfl | rfl <;> rfl) (Nat.le_of_ble_eq_true rfl) (Nat.le_of_ble_eq_true rfl) (by decide) (zR_ne hZ (by decide)) (fun a' => by rw [zF_k6 (by rfl)]; simp [zr, up1, va_rf]) dX7_init_40 (fun a ha40_5 => ?_)
  have ha0 := (ha40_5 0 (by decide)).trans ha0
  refine z_lveq (lv' := [(1, Value.int (nI 1)), (0, Value.ref (a 0))]) (by rw [ha40_5 (0) (by decide)] <;> rfl) ?_
  refine z_steq (st' := [Value.ref (a 21), Value.int (nI 1), Value.ref (a 2)]) (by rw [ha40_5 (2) (by decide)] <;> rfl) ?_
  have hZ := zR_new hZ (21)
  refine z_dup C dX7_init_43 rfl ?_
  refine z_xV C (z_runIN C (rt := none) (As := []) (rest := [Value.ref (a 21), Value.int (nI 1), Value.ref (a 2)]) (c_X6_init l D cy a _ _ _ _ 21 31 (by rfl) (by rfl) (by rfl) (by decide) (by decide) (by decide) hZ) ⟨va_cnB 0 C.2.2.2.2.2.1 gX7_init_X6_init_n25 rfl rfl rfl C.2.2.2.2.2.2.1.2.1.1 (C.2.2.2.2.2.1 _ (by decide +kernel)) (by decide +kernel) ⟨Nat.le_of_ble_eq_true rfl, Nat.le_of_ble_eq_true rfl⟩, rfl, C.2.2.2.2.2.1 _ (by decide +kernel)⟩ rfl rfl (Nat.le_of_ble_eq_true rfl) dX7_init_44 ⟨Nat.le_of_ble_eq_true rfl, Nat.le_of_ble_eq_true rfl⟩) (fun ω44 e44 => ?_)
  obtain ⟨a, ha44_6, rfl⟩ := e44
  dsimp only
  have ha0 := (ha44_6 0 (by decide)).trans ha0
  refine z_lveq (lv' := [(1, Value.int (nI 1)), (0, Value.ref (a 0))]) (by rw [ha44_6 (0) (by decide)] <;> rfl) ?_
  refine z_steq (st' := [Value.ref (a 21), Value.int (nI 1), Value.ref (a 2)]) (by rw [ha44_6 (21) (by decide), ha44_6 (2) (by decide)] <;> rfl) ?_
  have hZ := zR_put (zR_new hZ 31) 21 0 (y := 31) (by decide)
  refine z_aastore C (k := 2) (n := 14) (by decide) (by rfl) (by decide) (y := 21) (by decide) (zF_k6 (by rfl)) (j := 1) rfl (by decide) (by decide) dX7_init_47 ?_
  have hZ := zR_put hZ 2 1 (y := 21) (by decide)
  refine z_iinc C dX7_init_48 (q := 0) rfl (v := nI 2) (by decide) (by decide) (lv' := [(1, Value.int (nI 2)), (0, Value.ref (a 0))]) rfl ?_
  refine z_goto C dX7_init_51 (tgt := 29) (by decide) ?_
  refine z_iload_n C dX7_init_29 rfl (q := 0) rfl ?_
  refine z_bipush C dX7_init_30 (v := nI 8) (by decide) ?_
  refine z_icmp_ge C dX7_init_32 (tgt := 54) (by decide) (fun h32 => absurd h32 (by decide)) (fun h32 => ?_)
  refine z_aload_n C dX7_init_35 rfl (q := 1) rfl ?_
  refine zg_X7_wordRow C (k := 0) (by decide) (by rfl) i7 (by decide +kernel) (k' := 2) rfl dX7_init_36 ?_
  refine z_iload_n C dX7_init_39 rfl (q := 0) rfl ?_
  refine z_new C (k := 22) (ci := 6) i6 tyX6 tyX6_ok (by decide +kernel) (by decide +kernel) (by decide +kernel) rfl (fs := [Value.null, Value.int 0]) (fun j hj => by rcases (show j = 0 ∨ j = 1 by omega) with rfl | rfl <;> rfl) (Nat.le_of_ble_eq_true rfl) (Nat.le_of_ble_eq_true rfl) (by decide) (zR_ne hZ (by decide)) (fun a' => by rw [zF_k6 (by rfl)]; simp [zr, up1, va_rf]) dX7_init_40 (fun a ha40_7 => ?_)
  have ha0 := (ha40_7 0 (by decide)).trans ha0
  refine z_lveq (lv' := [(1, Value.int (nI 2)), (0, Value.ref (a 0))]) (by rw [ha40_7 (0) (by decide)] <;> rfl) ?_
  refine z_steq (st' := [Value.ref (a 22), Value.int (nI 2), Value.ref (a 2)]) (by rw [ha40_7 (2) (by decide)] <;> rfl) ?_
  have hZ := zR_new hZ (22)
  refine z_dup C dX7_init_43 rfl ?_
  refine z_xV C (z_runIN C (rt := none) (As := []) (rest := [Value.ref (a 22), Value.int (nI 2), Value.ref (a 2)]) (c_X6_init l D cy a _ _ _ _ 22 32 (by rfl) (by rfl) (by rfl) (by decide) (by decide) (by decide) hZ) ⟨va_cnB 0 C.2.2.2.2.2.1 gX7_init_X6_init_n25 rfl rfl rfl C.2.2.2.2.2.2.1.2.1.1 (C.2.2.2.2.2.1 _ (by decide +kernel)) (by decide +kernel) ⟨Nat.le_of_ble_eq_true rfl, Nat.le_of_ble_eq_true rfl⟩, rfl, C.2.2.2.2.2.1 _ (by decide +kernel)⟩ rfl rfl (Nat.le_of_ble_eq_true rfl) dX7_init_44 ⟨Nat.le_of_ble_eq_true rfl, Nat.le_of_ble_eq_true rfl⟩) (fun ω44 e44 => ?_)
  obtain ⟨a, ha44_8, rfl⟩ := e44
  dsimp only
  have ha0 := (ha44_8 0 (by decide)).trans ha0
  refine z_lveq (lv' := [(1, Value.int (nI 2)), (0, Value.ref (a 0))]) (by rw [ha44_8 (0) (by decide)] <;> rfl) ?_
  refine z_steq (st' := [Value.ref (a 22), Value.int (nI 2), Value.ref (a 2)]) (by rw [ha44_8 (22) (by decide), ha44_8 (2) (by decide)] <;> rfl) ?_
  have hZ := zR_put (zR_new hZ 32) 22 0 (y := 32) (by decide)
  refine z_aastore C (k := 2) (n := 14) (by decide) (by rfl) (by decide) (y := 22) (by decide) (zF_k6 (by rfl)) (j := 2) rfl (by decide) (by decide) dX7_init_47 ?_
  have hZ := zR_put hZ 2 2 (y := 22) (by decide)
  refine z_iinc C dX7_init_48 (q := 0) rfl (v := nI 3) (by decide) (by decide) (lv' := [(1, Value.int (nI 3)), (0, Value.ref (a 0))]) rfl ?_
  refine z_goto C dX7_init_51 (tgt := 29) (by decide) ?_
  refine z_iload_n C dX7_init_29 rfl (q := 0) rfl ?_
  refine z_bipush C dX7_init_30 (v := nI 8) (by decide) ?_
  refine z_icmp_ge C dX7_init_32 (tgt := 54) (by decide) (fun h32 => absurd h32 (by decide)) (fun h32 => ?_)
  refine z_aload_n C dX7_init_35 rfl (q := 1) rfl ?_
  refine zg_X7_wordRow C (k := 0) (by decide) (by rfl) i7 (by decide +kernel) (k' := 2) rfl dX7_init_36 ?_
  refine z_iload_n C dX7_init_39 rfl (q := 0) rfl ?_
  refine z_new C (k := 23) (ci := 6) i6 tyX6 tyX6_ok (by decide +kernel) (by decide +kernel) (by decide +kernel) rfl (fs := [Value.null, Value.int 0]) (fun j hj => by rcases (show j = 0 ∨ j = 1 by omega) with rfl | rfl <;> rfl) (Nat.le_of_ble_eq_true rfl) (Nat.le_of_ble_eq_true rfl) (by decide) (zR_ne hZ (by decide)) (fun a' => by rw [zF_k6 (by rfl)]; simp [zr, up1, va_rf]) dX7_init_40 (fun a ha40_9 => ?_)
  have ha0 := (ha40_9 0 (by decide)).trans ha0
  refine z_lveq (lv' := [(1, Value.int (nI 3)), (0, Value.ref (a 0))]) (by rw [ha40_9 (0) (by decide)] <;> rfl) ?_
  refine z_steq (st' := [Value.ref (a 23), Value.int (nI 3), Value.ref (a 2)]) (by rw [ha40_9 (2) (by decide)] <;> rfl) ?_
  have hZ := zR_new hZ (23)
  refine z_dup C dX7_init_43 rfl ?_
  refine z_xV C (z_runIN C (rt := none) (As := []) (rest := [Value.ref (a 23), Value.int (nI 3), Value.ref (a 2)]) (c_X6_init l D cy a _ _ _ _ 23 33 (by rfl) (by rfl) (by rfl) (by decide) (by decide) (by decide) hZ) ⟨va_cnB 0 C.2.2.2.2.2.1 gX7_init_X6_init_n25 rfl rfl rfl C.2.2.2.2.2.2.1.2.1.1 (C.2.2.2.2.2.1 _ (by decide +kernel)) (by decide +kernel) ⟨Nat.le_of_ble_eq_true rfl, Nat.le_of_ble_eq_true rfl⟩, rfl, C.2.2.2.2.2.1 _ (by decide +kernel)⟩ rfl rfl (Nat.le_of_ble_eq_true rfl) dX7_init_44 ⟨Nat.le_of_ble_eq_true rfl, Nat.le_of_ble_eq_true rfl⟩) (fun ω44 e44 => ?_)
  obtain ⟨a, ha44_10, rfl⟩ := e44
  dsimp only
  have ha0 := (ha44_10 0 (by decide)).trans ha0
  refine z_lveq (lv' := [(1, Value.int (nI 3)), (0, Value.ref (a 0))]) (by rw [ha44_10 (0) (by decide)] <;> rfl) ?_
  refine z_steq (st' := [Value.ref (a 23), Value.int (nI 3), Value.ref (a 2)]) (by rw [ha44_10 (23) (by decide), ha44_10 (2) (by decide)] <;> rfl) ?_
  have hZ := zR_put (zR_new hZ 33) 23 0 (y := 33) (by decide)
  refine z_aastore C (k := 2) (n := 14) (by decide) (by rfl) (by decide) (y := 23) (by decide) (zF_k6 (by rfl)) (j := 3) rfl (by decide) (by decide) dX7_init_47 ?_
  have hZ := zR_put hZ 2 3 (y := 23) (by decide)
  refine z_iinc C dX7_init_48 (q := 0) rfl (v := nI 4) (by decide) (by decide) (lv' := [(1, Value.int (nI 4)), (0, Value.ref (a 0))]) rfl ?_
  refine z_goto C dX7_init_51 (tgt := 29) (by decide) ?_
  refine z_iload_n C dX7_init_29 rfl (q := 0) rfl ?_
  refine z_bipush C dX7_init_30 (v := nI 8) (by decide) ?_
  refine z_icmp_ge C dX7_init_32 (tgt := 54) (by decide) (fun h32 => absurd h32 (by decide)) (fun h32 => ?_)
  refine z_aload_n C dX7_init_35 rfl (q := 1) rfl ?_
  refine zg_X7_wordRow C (k := 0) (by decide) (by rfl) i7 (by decide +kernel) (k' := 2) rfl dX7_init_36 ?_
  refine z_iload_n C dX7_init_39 rfl (q := 0) rfl ?_
  refine z_new C (k := 24) (ci := 6) i6 tyX6 tyX6_ok (by decide +kernel) (by decide +kernel) (by decide +kernel) rfl (fs := [Value.null, Value.int 0]) (fun j hj => by rcases (show j = 0 ∨ j = 1 by omega) with rfl | rfl <;> rfl) (Nat.le_of_ble_eq_true rfl) (Nat.le_of_ble_eq_true rfl) (by decide) (zR_ne hZ (by decide)) (fun a' => by rw [zF_k6 (by rfl)]; simp [zr, up1, va_rf]) dX7_init_40 (fun a ha40_11 => ?_)
  have ha0 := (ha40_11 0 (by decide)).trans ha0
  refine z_lveq (lv' := [(1, Value.int (nI 4)), (0, Value.ref (a 0))]) (by rw [ha40_11 (0) (by decide)] <;> rfl) ?_
  refine z_steq (st' := [Value.ref (a 24), Value.int (nI 4), Value.ref (a 2)]) (by rw [ha40_11 (2) (by decide)] <;> rfl) ?_
  have hZ := zR_new hZ (24)
  refine z_dup C dX7_init_43 rfl ?_
  refine z_xV C (z_runIN C (rt := none) (As := []) (rest := [Value.ref (a 24), Value.int (nI 4), Value.ref (a 2)]) (c_X6_init l D cy a _ _ _ _ 24 34 (by rfl) (by rfl) (by rfl) (by decide) (by decide) (by decide) hZ) ⟨va_cnB 0 C.2.2.2.2.2.1 gX7_init_X6_init_n25 rfl rfl rfl C.2.2.2.2.2.2.1.2.1.1 (C.2.2.2.2.2.1 _ (by decide +kernel)) (by decide +kernel) ⟨Nat.le_of_ble_eq_true rfl, Nat.le_of_ble_eq_true rfl⟩, rfl, C.2.2.2.2.2.1 _ (by decide +kernel)⟩ rfl rfl (Nat.le_of_ble_eq_true rfl) dX7_init_44 ⟨Nat.le_of_ble_eq_true rfl, Nat.le_of_ble_eq_true rfl⟩) (fun ω44 e44 => ?_)
  obtain ⟨a, ha44_12, rfl⟩ := e44
  dsimp only
  have ha0 := (ha44_12 0 (by decide)).trans ha0
  refine z_lveq (lv' := [(1, Value.int (nI 4)), (0, Value.ref (a 0))]) (by rw [ha44_12 (0) (by decide)] <;> rfl) ?_
  refine z_steq (st' := [Value.ref (a 24), Value.int (nI 4), Value.ref (a 2)]) (by rw [ha44_12 (24) (by decide), ha44_12 (2) (by decide)] <;> rfl) ?_
  have hZ := zR_put (zR_new hZ 34) 24 0 (y := 34) (by decide)
  refine z_aastore C (k := 2) (n := 14) (by decide) (by rfl) (by decide) (y := 24) (by decide) (zF_k6 (by rfl)) (j := 4) rfl (by decide) (by decide) dX7_init_47 ?_
  have hZ := zR_put hZ 2 4 (y := 24) (by decide)
  refine z_iinc C dX7_init_48 (q := 0) rfl (v := nI 5) (by decide) (by decide) (lv' := [(1, Value.int (nI 5)), (0, Value.ref (a 0))]) rfl ?_
  refine z_goto C dX7_init_51 (tgt := 29) (by decide) ?_
  refine z_iload_n C dX7_init_29 rfl (q := 0) rfl ?_
  refine z_bipush C dX7_init_30 (v := nI 8) (by decide) ?_
  refine z_icmp_ge C dX7_init_32 (tgt := 54) (by decide) (fun h32 => absurd h32 (by decide)) (fun h32 => ?_)
  refine z_aload_n C dX7_init_35 rfl (q := 1) rfl ?_
  refine zg_X7_wordRow C (k := 0) (by decide) (by rfl) i7 (by decide +kernel) (k' := 2) rfl dX7_init_36 ?_
  refine z_iload_n C dX7_init_39 rfl (q := 0) rfl ?_
  refine z_new C (k := 25) (ci := 6) i6 tyX6 tyX6_ok (by decide +kernel) (by decide +kernel) (by decide +kernel) rfl (fs := [Value.null, Value.int 0]) (fun j hj => by rcases (show j = 0 ∨ j = 1 by omega) with rfl | rfl <;> rfl) (Nat.le_of_ble_eq_true rfl) (Nat.le_of_ble_eq_true rfl) (by decide) (zR_ne hZ (by decide)) (fun a' => by rw [zF_k6 (by rfl)]; simp [zr, up1, va_rf]) dX7_init_40 (fun a ha40_13 => ?_)
  have ha0 := (ha40_13 0 (by decide)).trans ha0
  refine z_lveq (lv' := [(1, Value.int (nI 5)), (0, Value.ref (a 0))]) (by rw [ha40_13 (0) (by decide)] <;> rfl) ?_
  refine z_steq (st' := [Value.ref (a 25), Value.int (nI 5), Value.ref (a 2)]) (by rw [ha40_13 (2) (by decide)] <;> rfl) ?_
  have hZ := zR_new hZ (25)
  refine z_dup C dX7_init_43 rfl ?_
  refine z_xV C (z_runIN C (rt := none) (As := []) (rest := [Value.ref (a 25), Value.int (nI 5), Value.ref (a 2)]) (c_X6_init l D cy a _ _ _ _ 25 35 (by rfl) (by rfl) (by rfl) (by decide) (by decide) (by decide) hZ) ⟨va_cnB 0 C.2.2.2.2.2.1 gX7_init_X6_init_n25 rfl rfl rfl C.2.2.2.2.2.2.1.2.1.1 (C.2.2.2.2.2.1 _ (by decide +kernel)) (by decide +kernel) ⟨Nat.le_of_ble_eq_true rfl, Nat.le_of_ble_eq_true rfl⟩, rfl, C.2.2.2.2.2.1 _ (by decide +kernel)⟩ rfl rfl (Nat.le_of_ble_eq_true rfl) dX7_init_44 ⟨Nat.le_of_ble_eq_true rfl, Nat.le_of_ble_eq_true rfl⟩) (fun ω44 e44 => ?_)
  obtain ⟨a, ha44_14, rfl⟩ := e44
  dsimp only
  have ha0 := (ha44_14 0 (by decide)).trans ha0
  refine z_lveq (lv' := [(1, Value.int (nI 5)), (0, Value.ref (a 0))]) (by rw [ha44_14 (0) (by decide)] <;> rfl) ?_
  refine z_steq (st' := [Value.ref (a 25), Value.int (nI 5), Value.ref (a 2)]) (by rw [ha44_14 (25) (by decide), ha44_14 (2) (by decide)] <;> rfl) ?_
  have hZ := zR_put (zR_new hZ 35) 25 0 (y := 35) (by decide)
  refine z_aastore C (k := 2) (n := 14) (by decide) (by rfl) (by decide) (y := 25) (by decide) (zF_k6 (by rfl)) (j := 5) rfl (by decide) (by decide) dX7_init_47 ?_
  have hZ := zR_put hZ 2 5 (y := 25) (by decide)
  refine z_iinc C dX7_init_48 (q := 0) rfl (v := nI 6) (by decide) (by decide) (lv' := [(1, Value.int (nI 6)), (0, Value.ref (a 0))]) rfl ?_
  refine z_goto C dX7_init_51 (tgt := 29) (by decide) ?_
  refine z_iload_n C dX7_init_29 rfl (q := 0) rfl ?_
  refine z_bipush C dX7_init_30 (v := nI 8) (by decide) ?_
  refine z_icmp_ge C dX7_init_32 (tgt := 54) (by decide) (fun h32 => absurd h32 (by decide)) (fun h32 => ?_)
  refine z_aload_n C dX7_init_35 rfl (q := 1) rfl ?_
  refine zg_X7_wordRow C (k := 0) (by decide) (by rfl) i7 (by decide +kernel) (k' := 2) rfl dX7_init_36 ?_
  refine z_iload_n C dX7_init_39 rfl (q := 0) rfl ?_
  refine z_new C (k := 26) (ci := 6) i6 tyX6 tyX6_ok (by decide +kernel) (by decide +kernel) (by decide +kernel) rfl (fs := [Value.null, Value.int 0]) (fun j hj => by rcases (show j = 0 ∨ j = 1 by omega) with rfl | rfl <;> rfl) (Nat.le_of_ble_eq_true rfl) (Nat.le_of_ble_eq_true rfl) (by decide) (zR_ne hZ (by decide)) (fun a' => by rw [zF_k6 (by rfl)]; simp [zr, up1, va_rf]) dX7_init_40 (fun a ha40_15 => ?_)
  have ha0 := (ha40_15 0 (by decide)).trans ha0
  refine z_lveq (lv' := [(1, Value.int (nI 6)), (0, Value.ref (a 0))]) (by rw [ha40_15 (0) (by decide)] <;> rfl) ?_
  refine z_steq (st' := [Value.ref (a 26), Value.int (nI 6), Value.ref (a 2)]) (by rw [ha40_15 (2) (by decide)] <;> rfl) ?_
  have hZ := zR_new hZ (26)
  refine z_dup C dX7_init_43 rfl ?_
  refine z_xV C (z_runIN C (rt := none) (As := []) (rest := [Value.ref (a 26), Value.int (nI 6), Value.ref (a 2)]) (c_X6_init l D cy a _ _ _ _ 26 36 (by rfl) (by rfl) (by rfl) (by decide) (by decide) (by decide) hZ) ⟨va_cnB 0 C.2.2.2.2.2.1 gX7_init_X6_init_n25 rfl rfl rfl C.2.2.2.2.2.2.1.2.1.1 (C.2.2.2.2.2.1 _ (by decide +kernel)) (by decide +kernel) ⟨Nat.le_of_ble_eq_true rfl, Nat.le_of_ble_eq_true rfl⟩, rfl, C.2.2.2.2.2.1 _ (by decide +kernel)⟩ rfl rfl (Nat.le_of_ble_eq_true rfl) dX7_init_44 ⟨Nat.le_of_ble_eq_true rfl, Nat.le_of_ble_eq_true rfl⟩) (fun ω44 e44 => ?_)
  obtain ⟨a, ha44_16, rfl⟩ := e44
  dsimp only
  have ha0 := (ha44_16 0 (by decide)).trans ha0
  refine z_lveq (lv' := [(1, Value.int (nI 6)), (0, Value.ref (a 0))]) (by rw [ha44_16 (0) (by decide)] <;> rfl) ?_
  refine z_steq (st' := [Value.ref (a 26), Value.int (nI 6), Value.ref (a 2)]) (by rw [ha44_16 (26) (by decide), ha44_16 (2) (by decide)] <;> rfl) ?_
  have hZ := zR_put (zR_new hZ 36) 26 0 (y := 36) (by decide)
  refine z_aastore C (k := 2) (n := 14) (by decide) (by rfl) (by decide) (y := 26) (by decide) (zF_k6 (by rfl)) (j := 6) rfl (by decide) (by decide) dX7_init_47 ?_
  have hZ := zR_put hZ 2 6 (y := 26) (by decide)
  refine z_iinc C dX7_init_48 (q := 0) rfl (v := nI 7) (by decide) (by decide) (lv' := [(1, Value.int (nI 7)), (0, Value.ref (a 0))]) rfl ?_
  refine z_goto C dX7_init_51 (tgt := 29) (by decide) ?_
  refine z_iload_n C dX7_init_29 rfl (q := 0) rfl ?_
  refine z_bipush C dX7_init_30 (v := nI 8) (by decide) ?_
  refine z_icmp_ge C dX7_init_32 (tgt := 54) (by decide) (fun h32 => absurd h32 (by decide)) (fun h32 => ?_)
  refine z_aload_n C dX7_init_35 rfl (q := 1) rfl ?_
  refine zg_X7_wordRow C (k := 0) (by decide) (by rfl) i7 (by decide +kernel) (k' := 2) rfl dX7_init_36 ?_
  refine z_iload_n C dX7_init_39 rfl (q := 0) rfl ?_
  refine z_new C (k := 27) (ci := 6) i6 tyX6 tyX6_ok (by decide +kernel) (by decide +kernel) (by decide +kernel) rfl (fs := [Value.null, Value.int 0]) (fun j hj => by rcases (show j = 0 ∨ j = 1 by omega) with rfl | rfl <;> rfl) (Nat.le_of_ble_eq_true rfl) (Nat.le_of_ble_eq_true rfl) (by decide) (zR_ne hZ (by decide)) (fun a' => by rw [zF_k6 (by rfl)]; simp [zr, up1, va_rf]) dX7_init_40 (fun a ha40_17 => ?_)
  have ha0 := (ha40_17 0 (by decide)).trans ha0
  refine z_lveq (lv' := [(1, Value.int (nI 7)), (0, Value.ref (a 0))]) (by rw [ha40_17 (0) (by decide)] <;> rfl) ?_
  refine z_steq (st' := [Value.ref (a 27), Value.int (nI 7), Value.ref (a 2)]) (by rw [ha40_17 (2) (by decide)] <;> rfl) ?_
  have hZ := zR_new hZ (27)
  refine z_dup C dX7_init_43 rfl ?_
  refine z_xV C (z_runIN C (rt := none) (As := []) (rest := [Value.ref (a 27), Value.int (nI 7), Value.ref (a 2)]) (c_X6_init l D cy a _ _ _ _ 27 37 (by rfl) (by rfl) (by rfl) (by decide) (by decide) (by decide) hZ) ⟨va_cnB 0 C.2.2.2.2.2.1 gX7_init_X6_init_n25 rfl rfl rfl C.2.2.2.2.2.2.1.2.1.1 (C.2.2.2.2.2.1 _ (by decide +kernel)) (by decide +kernel) ⟨Nat.le_of_ble_eq_true rfl, Nat.le_of_ble_eq_true rfl⟩, rfl, C.2.2.2.2.2.1 _ (by decide +kernel)⟩ rfl rfl (Nat.le_of_ble_eq_true rfl) dX7_init_44 ⟨Nat.le_of_ble_eq_true rfl, Nat.le_of_ble_eq_true rfl⟩) (fun ω44 e44 => ?_)
  obtain ⟨a, ha44_18, rfl⟩ := e44
  dsimp only
  have ha0 := (ha44_18 0 (by decide)).trans ha0
  refine z_lveq (lv' := [(1, Value.int (nI 7)), (0, Value.ref (a 0))]) (by rw [ha44_18 (0) (by decide)] <;> rfl) ?_
  refine z_steq (st' := [Value.ref (a 27), Value.int (nI 7), Value.ref (a 2)]) (by rw [ha44_18 (27) (by decide), ha44_18 (2) (by decide)] <;> rfl) ?_
  have hZ := zR_put (zR_new hZ 37) 27 0 (y := 37) (by decide)
  refine z_aastore C (k := 2) (n := 14) (by decide) (by rfl) (by decide) (y := 27) (by decide) (zF_k6 (by rfl)) (j := 7) rfl (by decide) (by decide) dX7_init_47 ?_
  have hZ := zR_put hZ 2 7 (y := 27) (by decide)
  refine z_iinc C dX7_init_48 (q := 0) rfl (v := nI 8) (by decide) (by decide) (lv' := [(1, Value.int (nI 8)), (0, Value.ref (a 0))]) rfl ?_
  refine z_goto C dX7_init_51 (tgt := 29) (by decide) ?_
  refine z_iload_n C dX7_init_29 rfl (q := 0) rfl ?_
  refine z_bipush C dX7_init_30 (v := nI 8) (by decide) ?_
  refine z_icmp_ge C dX7_init_32 (tgt := 54) (by decide) (fun h32 => ?_) (fun h32 => absurd h32 (by decide))
  refine z_aload_n C dX7_init_54 rfl (q := 1) rfl ?_
  refine z_new C (k := 3) (ci := 3) i3 tyX3 tyX3_ok (by decide +kernel) (by decide +kernel) (by decide +kernel) rfl (fs := [Value.null, Value.int 0, Value.int 0]) (fun j hj => by rcases (show j = 0 ∨ j = 1 ∨ j = 2 by omega) with rfl | rfl | rfl <;> rfl) (Nat.le_of_ble_eq_true rfl) (Nat.le_of_ble_eq_true rfl) (by decide) (zR_ne hZ (by decide)) (fun a' => by rw [zF_k3 (by rfl)]; simp [zr, up1, va_rf]) dX7_init_55 (fun a ha55_19 => ?_)
  have ha0 := (ha55_19 0 (by decide)).trans ha0
  refine z_lveq (lv' := [(1, Value.int (nI 8)), (0, Value.ref (a 0))]) (by rw [ha55_19 (0) (by decide)] <;> rfl) ?_
  refine z_steq (st' := [Value.ref (a 3), Value.ref (a 0)]) (by rw [ha55_19 (0) (by decide)] <;> rfl) ?_
  have hZ := zR_new hZ (3)
  refine z_dup C dX7_init_58 rfl ?_
  refine z_xV C (z_runIN C (rt := none) (As := []) (rest := [Value.ref (a 3), Value.ref (a 0)]) (c_X3_init l D cy a _ _ _ _ 3 4 (by rfl) (by rfl) (by rfl) (by decide) (by decide) (by decide) hZ) ⟨va_cnB 0 C.2.2.2.2.2.1 gX7_init_X3_init_n28 rfl rfl rfl C.2.2.2.2.2.2.1.2.1.2.1 (C.2.2.2.2.2.1 _ (by decide +kernel)) (by decide +kernel) ⟨Nat.le_of_ble_eq_true rfl, Nat.le_of_ble_eq_true rfl⟩, rfl, C.2.2.2.2.2.1 _ (by decide +kernel)⟩ rfl rfl (Nat.le_of_ble_eq_true rfl) dX7_init_59 ⟨Nat.le_of_ble_eq_true rfl, Nat.le_of_ble_eq_true rfl⟩) (fun ω59 e59 => ?_)
  obtain ⟨a, ha59_20, rfl⟩ := e59
  dsimp only
  have ha0 := (ha59_20 0 (by decide)).trans ha0
  refine z_lveq (lv' := [(1, Value.int (nI 8)), (0, Value.ref (a 0))]) (by rw [ha59_20 (0) (by decide)] <;> rfl) ?_
  refine z_steq (st' := [Value.ref (a 3), Value.ref (a 0)]) (by rw [ha59_20 (3) (by decide), ha59_20 (0) (by decide)] <;> rfl) ?_
  have hZ := zR_put (zR_new hZ 4) 3 0 (y := 4) (by decide)
  refine zp_X7_ring C (k := 0) (by decide) (by rfl) i7 (by decide +kernel) hin rfl dX7_init_62 ?_
  have hZ := zR_put hZ (0) 3 (y := 3) (by decide)
  refine z_aload_n C dX7_init_65 rfl (q := 1) rfl ?_
  refine z_iconst C dX7_init_66 (v := nI 4) (by decide) ?_
  refine z_newi C (k := 5) (N := 4) (by rfl) (show ln 5 = 4 from rfl) (by decide) (by decide +kernel) (Nat.le_of_ble_eq_true rfl) (Nat.le_of_ble_eq_true rfl) (by decide) (zR_ne hZ (by decide)) dX7_init_67 (fun a ha67_21 => ?_)
  have ha0 := (ha67_21 0 (by decide)).trans ha0
  refine z_lveq (lv' := [(1, Value.int (nI 8)), (0, Value.ref (a 0))]) (by rw [ha67_21 (0) (by decide)] <;> rfl) ?_
  refine z_steq (st' := [Value.ref (a 5), Value.ref (a 0)]) (by rw [ha67_21 (0) (by decide)] <;> rfl) ?_
  have hZ := zR_new hZ (5)
  refine z_dup C dX7_init_69 rfl ?_
  refine z_iconst C dX7_init_70 (v := 0) (by decide) ?_
  refine z_bipush C dX7_init_71 (v := nI 100) (by decide) ?_
  refine z_iastore C (k := 5) (by decide) (by rfl) (j := 0) (by decide) (by rw [show ln 5 = 4 from rfl]; omega) (by rw [show ln 5 = 4 from rfl]; decide) dX7_init_73 ?_
  refine z_dup C dX7_init_74 rfl ?_
  refine z_iconst C dX7_init_75 (v := 1) (by decide) ?_
  refine z_bipush C dX7_init_76 (v := nI 10) (by decide) ?_
  refine z_iastore C (k := 5) (by decide) (by rfl) (j := 1) (by decide) (by rw [show ln 5 = 4 from rfl]; omega) (by rw [show ln 5 = 4 from rfl]; decide) dX7_init_78 ?_
  refine z_dup C dX7_init_79 rfl ?_
  refine z_iconst C dX7_init_80 (v := 2) (by decide) ?_
  refine z_bipush C dX7_init_81 (v := nI 20) (by decide) ?_
  refine z_iastore C (k := 5) (by decide) (by rfl) (j := 2) (by decide) (by rw [show ln 5 = 4 from rfl]; omega) (by rw [show ln 5 = 4 from rfl]; decide) dX7_init_83 ?_
  refine z_dup C dX7_init_84 rfl ?_
  refine z_iconst C dX7_init_85 (v := 3) (by decide) ?_
  refine z_bipush C dX7_init_86 (v := nI 10) (by decide) ?_
  refine z_iastore C (k := 5) (by decide) (by rfl) (j := 3) (by decide) (by rw [show ln 5 = 4 from rfl]; omega) (by rw [show ln 5 = 4 from rfl]; decide) dX7_init_88 ?_
  refine zp_X7_settings C (k := 0) (by decide) (by rfl) i7 (by decide +kernel) hin rfl dX7_init_89 ?_
  have hZ := zR_put hZ (0) 4 (y := 5) (by decide)
  refine z_aload_n C dX7_init_92 rfl (q := 1) rfl ?_
  refine z_new C (k := 6) (ci := 2) i2 tyX2 tyX2_ok (by decide +kernel) (by decide +kernel) (by decide +kernel) rfl (fs := [Value.null, Value.int 0, Value.int 0, Value.int 0]) (fun j hj => by rcases (show j = 0 ∨ j = 1 ∨ j = 2 ∨ j = 3 by omega) with rfl | rfl | rfl | rfl <;> rfl) (Nat.le_of_ble_eq_true rfl) (Nat.le_of_ble_eq_true rfl) (by decide) (zR_ne hZ (by decide)) (fun a' => by rw [zF_k2 (by rfl)]; simp [zr, up1, va_rf]) dX7_init_93 (fun a ha93_22 => ?_)
  have ha0 := (ha93_22 0 (by decide)).trans ha0
  refine z_lveq (lv' := [(1, Value.int (nI 8)), (0, Value.ref (a 0))]) (by rw [ha93_22 (0) (by decide)] <;> rfl) ?_
  refine z_steq (st' := [Value.ref (a 6), Value.ref (a 0)]) (by rw [ha93_22 (0) (by decide)] <;> rfl) ?_
  have hZ := zR_new hZ (6)
  refine z_dup C dX7_init_96 rfl ?_
  refine z_xV C (z_runIN C (rt := none) (As := []) (rest := [Value.ref (a 6), Value.ref (a 0)]) (c_X2_init l D cy a _ _ _ _ 6 7 (by rfl) (by rfl) (by rfl) (by decide) (by decide) (by decide) hZ) ⟨va_cnB 0 C.2.2.2.2.2.1 gX7_init_X2_init_n39 rfl rfl rfl C.2.2.2.2.2.2.1.2.1.2.2.1 (C.2.2.2.2.2.1 _ (by decide +kernel)) (by decide +kernel) ⟨Nat.le_of_ble_eq_true rfl, Nat.le_of_ble_eq_true rfl⟩, rfl, C.2.2.2.2.2.1 _ (by decide +kernel)⟩ rfl rfl (Nat.le_of_ble_eq_true rfl) dX7_init_97 ⟨Nat.le_of_ble_eq_true rfl, Nat.le_of_ble_eq_true rfl⟩) (fun ω97 e97 => ?_)
  obtain ⟨a, ha97_23, rfl⟩ := e97
  dsimp only
  have ha0 := (ha97_23 0 (by decide)).trans ha0
  refine z_lveq (lv' := [(1, Value.int (nI 8)), (0, Value.ref (a 0))]) (by rw [ha97_23 (0) (by decide)] <;> rfl) ?_
  refine z_steq (st' := [Value.ref (a 6), Value.ref (a 0)]) (by rw [ha97_23 (6) (by decide), ha97_23 (0) (by decide)] <;> rfl) ?_
  have hZ := zR_put (zR_new hZ 7) 6 0 (y := 7) (by decide)
  refine zp_X7_lumpBook C (k := 0) (by decide) (by rfl) i7 (by decide +kernel) hin rfl dX7_init_100 ?_
  have hZ := zR_put hZ (0) 5 (y := 6) (by decide)
  refine z_aload_n C dX7_init_103 rfl (q := 1) rfl ?_
  refine z_bipush C dX7_init_104 (v := nI 52) (by decide) ?_
  refine z_newb C (k := 8) (N := 52) (by rfl) (show ln 8 = 52 from rfl) (by decide) (by decide +kernel) (Nat.le_of_ble_eq_true rfl) (Nat.le_of_ble_eq_true rfl) (by decide) (zR_ne hZ (by decide)) dX7_init_106 (fun a ha106_24 => ?_)
  have ha0 := (ha106_24 0 (by decide)).trans ha0
  refine z_lveq (lv' := [(1, Value.int (nI 8)), (0, Value.ref (a 0))]) (by rw [ha106_24 (0) (by decide)] <;> rfl) ?_
  refine z_steq (st' := [Value.ref (a 8), Value.ref (a 0)]) (by rw [ha106_24 (0) (by decide)] <;> rfl) ?_
  have hZ := zR_new hZ (8)
  refine zp_X7_dampWeeks C (k := 0) (by decide) (by rfl) i7 (by decide +kernel) hin rfl dX7_init_108 ?_
  have hZ := zR_put hZ (0) 6 (y := 8) (by decide)
  refine z_aload_n C dX7_init_111 rfl (q := 1) rfl ?_
  refine z_bipush C dX7_init_112 (v := nI 52) (by decide) ?_
  refine z_newi C (k := 9) (N := 52) (by rfl) (show ln 9 = 52 from rfl) (by decide) (by decide +kernel) (Nat.le_of_ble_eq_true rfl) (Nat.le_of_ble_eq_true rfl) (by decide) (zR_ne hZ (by decide)) dX7_init_114 (fun a ha114_25 => ?_)
  have ha0 := (ha114_25 0 (by decide)).trans ha0
  refine z_lveq (lv' := [(1, Value.int (nI 8)), (0, Value.ref (a 0))]) (by rw [ha114_25 (0) (by decide)] <;> rfl) ?_
  refine z_steq (st' := [Value.ref (a 9), Value.ref (a 0)]) (by rw [ha114_25 (0) (by decide)] <;> rfl) ?_
  have hZ := zR_new hZ (9)
  refine zp_X7_madeIn C (k := 0) (by decide) (by rfl) i7 (by decide +kernel) hin rfl dX7_init_116 ?_
  have hZ := zR_put hZ (0) 7 (y := 9) (by decide)
  refine z_aload_n C dX7_init_119 rfl (q := 1) rfl ?_
  refine z_new C (k := 10) (ci := 5) i5 tyX5 tyX5_ok (by decide +kernel) (by decide +kernel) (by decide +kernel) rfl (fs := [Value.long 0, Value.long 0, Value.long 0, Value.int 0]) (fun j hj => by rcases (show j = 0 ∨ j = 1 ∨ j = 2 ∨ j = 3 by omega) with rfl | rfl | rfl | rfl <;> rfl) (Nat.le_of_ble_eq_true rfl) (Nat.le_of_ble_eq_true rfl) (by decide) (zR_ne hZ (by decide)) (fun a' => by rw [zF_k5 (by rfl)]; simp [zr, up1, va_rf]) dX7_init_120 (fun a ha120_26 => ?_)
  have ha0 := (ha120_26 0 (by decide)).trans ha0
  refine z_lveq (lv' := [(1, Value.int (nI 8)), (0, Value.ref (a 0))]) (by rw [ha120_26 (0) (by decide)] <;> rfl) ?_
  refine z_steq (st' := [Value.ref (a 10), Value.ref (a 0)]) (by rw [ha120_26 (0) (by decide)] <;> rfl) ?_
  have hZ := zR_new hZ (10)
  refine z_dup C dX7_init_123 rfl ?_
  refine z_cV C (z_runIN C (rt := none) (As := []) (rest := [Value.ref (a 10), Value.ref (a 0)]) (c_X5_init l D cy a _ _ _ _ 10) ⟨va_cnB 0 C.2.2.2.2.2.1 gX7_init_X5_init_n53 rfl rfl rfl C.2.2.2.2.2.2.1.2.1.2.2.2.1 (C.2.2.2.2.2.1 _ (by decide +kernel)) (by decide +kernel) ⟨Nat.le_of_ble_eq_true rfl, Nat.le_of_ble_eq_true rfl⟩, rfl, C.2.2.2.2.2.1 _ (by decide +kernel)⟩ rfl rfl (Nat.le_of_ble_eq_true rfl) dX7_init_124 ⟨Nat.le_of_ble_eq_true rfl, Nat.le_of_ble_eq_true rfl⟩) (fun c124 e124 => ?_)
  subst e124
  refine zp_X7_stockRun C (k := 0) (by decide) (by rfl) i7 (by decide +kernel) hin rfl dX7_init_127 ?_
  have hZ := zR_put hZ (0) 8 (y := 10) (by decide)
  refine z_aload_n C dX7_init_130 rfl (q := 1) rfl ?_
  refine z_iconst C dX7_init_131 (v := nI 4) (by decide) ?_
  refine z_newr C (k := 11) (N := 4) (n := 13) (Cn := RX4) (by simp) (by rfl) (show ln 11 = 4 from rfl) (by decide) (by decide +kernel) (Nat.le_of_ble_eq_true rfl) (Nat.le_of_ble_eq_true rfl) (by decide) (zR_ne hZ (by decide)) dX7_init_132 (fun a ha132_28 => ?_)
  have ha0 := (ha132_28 0 (by decide)).trans ha0
  refine z_lveq (lv' := [(1, Value.int (nI 8)), (0, Value.ref (a 0))]) (by rw [ha132_28 (0) (by decide)] <;> rfl) ?_
  refine z_steq (st' := [Value.ref (a 11), Value.ref (a 0)]) (by rw [ha132_28 (0) (by decide)] <;> rfl) ?_
  have hZ := zR_new hZ (11)
  refine zp_X7_sheetRow C (k := 0) (by decide) (by rfl) i7 (by decide +kernel) hin rfl dX7_init_135 ?_
  have hZ := zR_put hZ (0) 9 (y := 11) (by decide)
  refine z_iconst C dX7_init_138 (v := nI 0) (by decide) ?_
  refine z_istore_n C dX7_init_139 rfl (by decide) (lv' := [(1, Value.int (nI 0)), (0, Value.ref (a 0))]) rfl ?_
  refine z_iload_n C dX7_init_140 rfl (q := 0) rfl ?_
  refine z_iconst C dX7_init_141 (v := nI 4) (by decide) ?_
  refine z_icmp_ge C dX7_init_142 (tgt := 164) (by decide) (fun h142 => absurd h142 (by decide)) (fun h142 => ?_)
  refine z_aload_n C dX7_init_145 rfl (q := 1) rfl ?_
  refine zg_X7_sheetRow C (k := 0) (by decide) (by rfl) i7 (by decide +kernel) (k' := 11) rfl dX7_init_146 ?_
  refine z_iload_n C dX7_init_149 rfl (q := 0) rfl ?_
  refine z_new C (k := 40) (ci := 4) i4 tyX4 tyX4_ok (by decide +kernel) (by decide +kernel) (by decide +kernel) rfl (fs := [Value.null, Value.int 0, Value.int 0, Value.int 0]) (fun j hj => by rcases (show j = 0 ∨ j = 1 ∨ j = 2 ∨ j = 3 by omega) with rfl | rfl | rfl | rfl <;> rfl) (Nat.le_of_ble_eq_true rfl) (Nat.le_of_ble_eq_true rfl) (by decide) (zR_ne hZ (by decide)) (fun a' => by rw [zF_k4 (by rfl)]; simp [zr, up1, va_rf]) dX7_init_150 (fun a ha150_29 => ?_)
  have ha0 := (ha150_29 0 (by decide)).trans ha0
  refine z_lveq (lv' := [(1, Value.int (nI 0)), (0, Value.ref (a 0))]) (by rw [ha150_29 (0) (by decide)] <;> rfl) ?_
  refine z_steq (st' := [Value.ref (a 40), Value.int (nI 0), Value.ref (a 11)]) (by rw [ha150_29 (11) (by decide)] <;> rfl) ?_
  have hZ := zR_new hZ (40)
  refine z_dup C dX7_init_153 rfl ?_
  refine z_xV C (z_runIN C (rt := none) (As := []) (rest := [Value.ref (a 40), Value.int (nI 0), Value.ref (a 11)]) (c_X4_init l D cy a _ _ _ _ 40 50 (by rfl) (by rfl) (by rfl) (by decide) (by decide) (by decide) hZ) ⟨va_cnB 0 C.2.2.2.2.2.1 gX7_init_X4_init_n64 rfl rfl rfl C.2.2.2.2.2.2.1.2.1.2.2.2.2.1 (C.2.2.2.2.2.1 _ (by decide +kernel)) (by decide +kernel) ⟨Nat.le_of_ble_eq_true rfl, Nat.le_of_ble_eq_true rfl⟩, rfl, C.2.2.2.2.2.1 _ (by decide +kernel)⟩ rfl rfl (Nat.le_of_ble_eq_true rfl) dX7_init_154 ⟨Nat.le_of_ble_eq_true rfl, Nat.le_of_ble_eq_true rfl⟩) (fun ω154 e154 => ?_)
  obtain ⟨a, ha154_30, rfl⟩ := e154
  dsimp only
  have ha0 := (ha154_30 0 (by decide)).trans ha0
  refine z_lveq (lv' := [(1, Value.int (nI 0)), (0, Value.ref (a 0))]) (by rw [ha154_30 (0) (by decide)] <;> rfl) ?_
  refine z_steq (st' := [Value.ref (a 40), Value.int (nI 0), Value.ref (a 11)]) (by rw [ha154_30 (40) (by decide), ha154_30 (11) (by decide)] <;> rfl) ?_
  have hZ := zR_put (zR_new hZ 50) 40 0 (y := 50) (by decide)
  refine z_aastore C (k := 11) (n := 13) (by decide) (by rfl) (by decide) (y := 40) (by decide) (zF_k4 (by rfl)) (j := 0) rfl (by decide) (by decide) dX7_init_157 ?_
  have hZ := zR_put hZ 11 0 (y := 40) (by decide)
  refine z_iinc C dX7_init_158 (q := 0) rfl (v := nI 1) (by decide) (by decide) (lv' := [(1, Value.int (nI 1)), (0, Value.ref (a 0))]) rfl ?_
  refine z_goto C dX7_init_161 (tgt := 140) (by decide) ?_
  refine z_iload_n C dX7_init_140 rfl (q := 0) rfl ?_
  refine z_iconst C dX7_init_141 (v := nI 4) (by decide) ?_
  refine z_icmp_ge C dX7_init_142 (tgt := 164) (by decide) (fun h142 => absurd h142 (by decide)) (fun h142 => ?_)
  refine z_aload_n C dX7_init_145 rfl (q := 1) rfl ?_
  refine zg_X7_sheetRow C (k := 0) (by decide) (by rfl) i7 (by decide +kernel) (k' := 11) rfl dX7_init_146 ?_
  refine z_iload_n C dX7_init_149 rfl (q := 0) rfl ?_
  refine z_new C (k := 41) (ci := 4) i4 tyX4 tyX4_ok (by decide +kernel) (by decide +kernel) (by decide +kernel) rfl (fs := [Value.null, Value.int 0, Value.int 0, Value.int 0]) (fun j hj => by rcases (show j = 0 ∨ j = 1 ∨ j = 2 ∨ j = 3 by omega) with rfl | rfl | rfl | rfl <;> rfl) (Nat.le_of_ble_eq_true rfl) (Nat.le_of_ble_eq_true rfl) (by decide) (zR_ne hZ (by decide)) (fun a' => by rw [zF_k4 (by rfl)]; simp [zr, up1, va_rf]) dX7_init_150 (fun a ha150_31 => ?_)
  have ha0 := (ha150_31 0 (by decide)).trans ha0
  refine z_lveq (lv' := [(1, Value.int (nI 1)), (0, Value.ref (a 0))]) (by rw [ha150_31 (0) (by decide)] <;> rfl) ?_
  refine z_steq (st' := [Value.ref (a 41), Value.int (nI 1), Value.ref (a 11)]) (by rw [ha150_31 (11) (by decide)] <;> rfl) ?_
  have hZ := zR_new hZ (41)
  refine z_dup C dX7_init_153 rfl ?_
  refine z_xV C (z_runIN C (rt := none) (As := []) (rest := [Value.ref (a 41), Value.int (nI 1), Value.ref (a 11)]) (c_X4_init l D cy a _ _ _ _ 41 51 (by rfl) (by rfl) (by rfl) (by decide) (by decide) (by decide) hZ) ⟨va_cnB 0 C.2.2.2.2.2.1 gX7_init_X4_init_n64 rfl rfl rfl C.2.2.2.2.2.2.1.2.1.2.2.2.2.1 (C.2.2.2.2.2.1 _ (by decide +kernel)) (by decide +kernel) ⟨Nat.le_of_ble_eq_true rfl, Nat.le_of_ble_eq_true rfl⟩, rfl, C.2.2.2.2.2.1 _ (by decide +kernel)⟩ rfl rfl (Nat.le_of_ble_eq_true rfl) dX7_init_154 ⟨Nat.le_of_ble_eq_true rfl, Nat.le_of_ble_eq_true rfl⟩) (fun ω154 e154 => ?_)
  obtain ⟨a, ha154_32, rfl⟩ := e154
  dsimp only
  have ha0 := (ha154_32 0 (by decide)).trans ha0
  refine z_lveq (lv' := [(1, Value.int (nI 1)), (0, Value.ref (a 0))]) (by rw [ha154_32 (0) (by decide)] <;> rfl) ?_
  refine z_steq (st' := [Value.ref (a 41), Value.int (nI 1), Value.ref (a 11)]) (by rw [ha154_32 (41) (by decide), ha154_32 (11) (by decide)] <;> rfl) ?_
  have hZ := zR_put (zR_new hZ 51) 41 0 (y := 51) (by decide)
  refine z_aastore C (k := 11) (n := 13) (by decide) (by rfl) (by decide) (y := 41) (by decide) (zF_k4 (by rfl)) (j := 1) rfl (by decide) (by decide) dX7_init_157 ?_
  have hZ := zR_put hZ 11 1 (y := 41) (by decide)
  refine z_iinc C dX7_init_158 (q := 0) rfl (v := nI 2) (by decide) (by decide) (lv' := [(1, Value.int (nI 2)), (0, Value.ref (a 0))]) rfl ?_
  refine z_goto C dX7_init_161 (tgt := 140) (by decide) ?_
  refine z_iload_n C dX7_init_140 rfl (q := 0) rfl ?_
  refine z_iconst C dX7_init_141 (v := nI 4) (by decide) ?_
  refine z_icmp_ge C dX7_init_142 (tgt := 164) (by decide) (fun h142 => absurd h142 (by decide)) (fun h142 => ?_)
  refine z_aload_n C dX7_init_145 rfl (q := 1) rfl ?_
  refine zg_X7_sheetRow C (k := 0) (by decide) (by rfl) i7 (by decide +kernel) (k' := 11) rfl dX7_init_146 ?_
  refine z_iload_n C dX7_init_149 rfl (q := 0) rfl ?_
  refine z_new C (k := 42) (ci := 4) i4 tyX4 tyX4_ok (by decide +kernel) (by decide +kernel) (by decide +kernel) rfl (fs := [Value.null, Value.int 0, Value.int 0, Value.int 0]) (fun j hj => by rcases (show j = 0 ∨ j = 1 ∨ j = 2 ∨ j = 3 by omega) with rfl | rfl | rfl | rfl <;> rfl) (Nat.le_of_ble_eq_true rfl) (Nat.le_of_ble_eq_true rfl) (by decide) (zR_ne hZ (by decide)) (fun a' => by rw [zF_k4 (by rfl)]; simp [zr, up1, va_rf]) dX7_init_150 (fun a ha150_33 => ?_)
  have ha0 := (ha150_33 0 (by decide)).trans ha0
  refine z_lveq (lv' := [(1, Value.int (nI 2)), (0, Value.ref (a 0))]) (by rw [ha150_33 (0) (by decide)] <;> rfl) ?_
  refine z_steq (st' := [Value.ref (a 42), Value.int (nI 2), Value.ref (a 11)]) (by rw [ha150_33 (11) (by decide)] <;> rfl) ?_
  have hZ := zR_new hZ (42)
  refine z_dup C dX7_init_153 rfl ?_
  refine z_xV C (z_runIN C (rt := none) (As := []) (rest := [Value.ref (a 42), Value.int (nI 2), Value.ref (a 11)]) (c_X4_init l D cy a _ _ _ _ 42 52 (by rfl) (by rfl) (by rfl) (by decide) (by decide) (by decide) hZ) ⟨va_cnB 0 C.2.2.2.2.2.1 gX7_init_X4_init_n64 rfl rfl rfl C.2.2.2.2.2.2.1.2.1.2.2.2.2.1 (C.2.2.2.2.2.1 _ (by decide +kernel)) (by decide +kernel) ⟨Nat.le_of_ble_eq_true rfl, Nat.le_of_ble_eq_true rfl⟩, rfl, C.2.2.2.2.2.1 _ (by decide +kernel)⟩ rfl rfl (Nat.le_of_ble_eq_true rfl) dX7_init_154 ⟨Nat.le_of_ble_eq_true rfl, Nat.le_of_ble_eq_true rfl⟩) (fun ω154 e154 => ?_)
  obtain ⟨a, ha154_34, rfl⟩ := e154
  dsimp only
  have ha0 := (ha154_34 0 (by decide)).trans ha0
  refine z_lveq (lv' := [(1, Value.int (nI 2)), (0, Value.ref (a 0))]) (by rw [ha154_34 (0) (by decide)] <;> rfl) ?_
  refine z_steq (st' := [Value.ref (a 42), Value.int (nI 2), Value.ref (a 11)]) (by rw [ha154_34 (42) (by decide), ha154_34 (11) (by decide)] <;> rfl) ?_
  have hZ := zR_put (zR_new hZ 52) 42 0 (y := 52) (by decide)
  refine z_aastore C (k := 11) (n := 13) (by decide) (by rfl) (by decide) (y := 42) (by decide) (zF_k4 (by rfl)) (j := 2) rfl (by decide) (by decide) dX7_init_157 ?_
  have hZ := zR_put hZ 11 2 (y := 42) (by decide)
  refine z_iinc C dX7_init_158 (q := 0) rfl (v := nI 3) (by decide) (by decide) (lv' := [(1, Value.int (nI 3)), (0, Value.ref (a 0))]) rfl ?_
  refine z_goto C dX7_init_161 (tgt := 140) (by decide) ?_
  refine z_iload_n C dX7_init_140 rfl (q := 0) rfl ?_
  refine z_iconst C dX7_init_141 (v := nI 4) (by decide) ?_
  refine z_icmp_ge C dX7_init_142 (tgt := 164) (by decide) (fun h142 => absurd h142 (by decide)) (fun h142 => ?_)
  refine z_aload_n C dX7_init_145 rfl (q := 1) rfl ?_
  refine zg_X7_sheetRow C (k := 0) (by decide) (by rfl) i7 (by decide +kernel) (k' := 11) rfl dX7_init_146 ?_
  refine z_iload_n C dX7_init_149 rfl (q := 0) rfl ?_
  refine z_new C (k := 43) (ci := 4) i4 tyX4 tyX4_ok (by decide +kernel) (by decide +kernel) (by decide +kernel) rfl (fs := [Value.null, Value.int 0, Value.int 0, Value.int 0]) (fun j hj => by rcases (show j = 0 ∨ j = 1 ∨ j = 2 ∨ j = 3 by omega) with rfl | rfl | rfl | rfl <;> rfl) (Nat.le_of_ble_eq_true rfl) (Nat.le_of_ble_eq_true rfl) (by decide) (zR_ne hZ (by decide)) (fun a' => by rw [zF_k4 (by rfl)]; simp [zr, up1, va_rf]) dX7_init_150 (fun a ha150_35 => ?_)
  have ha0 := (ha150_35 0 (by decide)).trans ha0
  refine z_lveq (lv' := [(1, Value.int (nI 3)), (0, Value.ref (a 0))]) (by rw [ha150_35 (0) (by decide)] <;> rfl) ?_
  refine z_steq (st' := [Value.ref (a 43), Value.int (nI 3), Value.ref (a 11)]) (by rw [ha150_35 (11) (by decide)] <;> rfl) ?_
  have hZ := zR_new hZ (43)
  refine z_dup C dX7_init_153 rfl ?_
  refine z_xV C (z_runIN C (rt := none) (As := []) (rest := [Value.ref (a 43), Value.int (nI 3), Value.ref (a 11)]) (c_X4_init l D cy a _ _ _ _ 43 53 (by rfl) (by rfl) (by rfl) (by decide) (by decide) (by decide) hZ) ⟨va_cnB 0 C.2.2.2.2.2.1 gX7_init_X4_init_n64 rfl rfl rfl C.2.2.2.2.2.2.1.2.1.2.2.2.2.1 (C.2.2.2.2.2.1 _ (by decide +kernel)) (by decide +kernel) ⟨Nat.le_of_ble_eq_true rfl, Nat.le_of_ble_eq_true rfl⟩, rfl, C.2.2.2.2.2.1 _ (by decide +kernel)⟩ rfl rfl (Nat.le_of_ble_eq_true rfl) dX7_init_154 ⟨Nat.le_of_ble_eq_true rfl, Nat.le_of_ble_eq_true rfl⟩) (fun ω154 e154 => ?_)
  obtain ⟨a, ha154_36, rfl⟩ := e154
  dsimp only
  have ha0 := (ha154_36 0 (by decide)).trans ha0
  refine z_lveq (lv' := [(1, Value.int (nI 3)), (0, Value.ref (a 0))]) (by rw [ha154_36 (0) (by decide)] <;> rfl) ?_
  refine z_steq (st' := [Value.ref (a 43), Value.int (nI 3), Value.ref (a 11)]) (by rw [ha154_36 (43) (by decide), ha154_36 (11) (by decide)] <;> rfl) ?_
  have hZ := zR_put (zR_new hZ 53) 43 0 (y := 53) (by decide)
  refine z_aastore C (k := 11) (n := 13) (by decide) (by rfl) (by decide) (y := 43) (by decide) (zF_k4 (by rfl)) (j := 3) rfl (by decide) (by decide) dX7_init_157 ?_
  have hZ := zR_put hZ 11 3 (y := 43) (by decide)
  refine z_iinc C dX7_init_158 (q := 0) rfl (v := nI 4) (by decide) (by decide) (lv' := [(1, Value.int (nI 4)), (0, Value.ref (a 0))]) rfl ?_
  refine z_goto C dX7_init_161 (tgt := 140) (by decide) ?_
  refine z_iload_n C dX7_init_140 rfl (q := 0) rfl ?_
  refine z_iconst C dX7_init_141 (v := nI 4) (by decide) ?_
  refine z_icmp_ge C dX7_init_142 (tgt := 164) (by decide) (fun h142 => ?_) (fun h142 => absurd h142 (by decide))
  refine z_aload_n C dX7_init_164 rfl (q := 1) rfl ?_
  refine z_iconst C dX7_init_165 (v := nI 0) (by decide) ?_
  refine zp_X7_latestFinding C (k := 0) (by decide) (by rfl) i7 (by decide +kernel) dX7_init_166 ?_
  refine z_vret C rfl (Nat.le_of_ble_eq_true rfl) (Nat.le_of_ble_eq_true rfl) dX7_init_169 ⟨_, _, _, _, ha0, rfl, hZ, ?_⟩
  refine ⟨⟨⟨rfl, rfl, rfl, rfl, rfl, rfl, rfl, rfl, rfl, rfl, rfl⟩, fun w hw => ?_, fun w hw => ?_, fun i hi => absurd hi (Nat.not_lt_zero i), fun k hk => absurd hk (Nat.not_lt_zero k)⟩, ⟨rfl, rfl, rfl, rfl, rfl, rfl, rfl, rfl, rfl, rfl, rfl⟩, fun w hw => ?_, fun w hw => ?_, fun i => ⟨rfl, rfl⟩⟩
  · rcases (show w = 0 ∨ w = 1 ∨ w = 2 ∨ w = 3 ∨ w = 4 ∨ w = 5 ∨ w = 6 ∨ w = 7 by omega) with rfl | rfl | rfl | rfl | rfl | rfl | rfl | rfl <;> exact ⟨rfl, rfl⟩
  · rcases (show w = 0 ∨ w = 1 ∨ w = 2 ∨ w = 3 by omega) with rfl | rfl | rfl | rfl <;> exact ⟨rfl, rfl⟩
  · rcases (show w = 0 ∨ w = 1 ∨ w = 2 ∨ w = 3 ∨ w = 4 ∨ w = 5 ∨ w = 6 ∨ w = 7 by omega) with rfl | rfl | rfl | rfl | rfl | rfl | rfl | rfl <;> rfl
  · rcases (show w = 0 ∨ w = 1 ∨ w = 2 ∨ w = 3 by omega) with rfl | rfl | rfl | rfl <;> exact ⟨rfl, rfl, rfl, fun i => rfl⟩
