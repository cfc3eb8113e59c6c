set_option maxHeartbeats 4000000 in
set_option maxRecDepth 100000 in
theorem c_X7_within (l : Launch) (D : va_G) (cy : Nat → ClassId) (a : Nat → Nat) (L : List Nat) (c : Nat → Nat → Int32) (g : Nat → Nat → Int64) (r : Nat → Nat → Option Nat) (v lo hi : Int32) {V LO HI : Int} (hv : v.toInt = V) (hlo : lo.toInt = LO) (hhi : hi.toInt = HI) : zPI l yX7_within wsX7_within { frames := 0, cells := 0, slots := 0, locals := 0 } D cy a L c g r [Value.int v, Value.int lo, Value.int hi] (fun x => (x = 1 ∧ LO ≤ V ∧ V ≤ HI) ∨ (x = 0 ∧ ¬ (LO ≤ V ∧ V ≤ HI))) := by
  refine z_enter cX7_within 3 (some .boolean) (by decide) (Nat.le_of_ble_eq_true rfl) ?_
  intro p e s m below meth co C hin
  have C : zC p s m _ meth co D cy _ cX7_within 3 (some .boolean) wsX7_within RX7 := C
  refine z_iload_n C dX7_within_0 rfl (q := 0) rfl ?_
  refine z_iload_n C dX7_within_1 rfl (q := 1) rfl ?_
  refine z_icmp_lt C dX7_within_2 (tgt := 14) (by decide) (fun h2 => ?_) (fun h2 => ?_)
  · have q2 := iv_lt rfl rfl h2
    refine z_iconst C dX7_within_14 (v := 0) (by decide) ?_
    exact z_zret C rfl (Nat.le_refl _) (Nat.le_refl _) dX7_within_15 rfl ⟨rfl, Or.inr ⟨rfl, by rw [tI_lt, hv, hlo] at h2; omega⟩⟩
  · have q2 := iv_nlt rfl rfl h2
    refine z_iload_n C dX7_within_5 rfl (q := 0) rfl ?_
    refine z_iload_n C dX7_within_6 rfl (q := 2) rfl ?_
    refine z_icmp_gt C dX7_within_7 (tgt := 14) (by decide) (fun h7 => ?_) (fun h7 => ?_)
    · have q7 := iv_lt rfl rfl h7
      refine z_iconst C dX7_within_14 (v := 0) (by decide) ?_
      exact z_zret C rfl (Nat.le_refl _) (Nat.le_refl _) dX7_within_15 rfl ⟨rfl, Or.inr ⟨rfl, by rw [tI_lt, hhi, hv] at h7; omega⟩⟩
    · have q7 := iv_nlt rfl rfl h7
      refine z_iconst C dX7_within_10 (v := 1) (by decide) ?_
      refine z_goto C dX7_within_11 (tgt := 15) (by decide) ?_
      exact z_zret C rfl (Nat.le_refl _) (Nat.le_refl _) dX7_within_15 rfl ⟨rfl, Or.inl ⟨rfl, by rw [tI_lt, hv, hlo] at h2; rw [tI_lt, hhi, hv] at h7; omega⟩⟩

/-- how wide a word is -/
def wideC (c : Nat → Nat → Int32) (x : Nat → Nat → Nat) (w : Nat) : Nat := sumF (fun i => nn c (100 + x w i) 0 + nn c 3 2) (nn c (20 + w) 1)

set_option maxHeartbeats 4000000 in
set_option maxRecDepth 100000 in
theorem c_X3_widthOf (l : Launch) (D : va_G) (cy : Nat → ClassId) (a : Nat → Nat) (L : List Nat) (c : Nat → Nat → Int32) (g : Nat → Nat → Int64) (r : Nat → Nat → Option Nat) (nl nk : Nat) (hL : zLv L nl nk) (hR : RC r nl nk) (hI : CI c nl nk) (x : Nat → Nat → Nat) (hX : XC c r nl x) (w : Nat) (hw : w < 8) : zPI l yX3_widthOf wsX3_widthOf { frames := 0, cells := 0, slots := 0, locals := 0 } D cy a L c g r [Value.ref (a 3), Value.ref (a (20 + w))] (fun v => v = nI (wideC c x w)) := by
  refine z_enter cX3_widthOf 4 (some .int) (by decide) (Nat.le_of_ble_eq_true rfl) ?_
  intro p e s m below meth co C hin
  have C : zC p s m _ meth co D cy _ cX3_widthOf 4 (some .int) wsX3_widthOf RX3 := C
  have i0 : ∀ w ∈ wsX00, w ∈ wsX3_widthOf := by decide +kernel
  have i3 : ∀ w ∈ wsX30, w ∈ wsX3_widthOf := by decide +kernel
  have i6 : ∀ w ∈ wsX60, w ∈ wsX3_widthOf := by decide +kernel
  refine z_iconst C dX3_widthOf_0 (v := nI 0) (by decide) ?_
  refine z_istore_n C dX3_widthOf_1 rfl (by decide) (lv' := [(2, Value.int (nI 0)), (0, Value.ref (a 3)), (1, Value.ref (a (20 + w)))]) rfl ?_
  refine z_iconst C dX3_widthOf_2 (v := nI 0) (by decide) ?_
  refine z_istore_n C dX3_widthOf_3 rfl (by decide) (lv' := [(3, Value.int (nI 0)), (2, Value.int (nI 0)), (0, Value.ref (a 3)), (1, Value.ref (a (20 + w)))]) rfl ?_
  refine z_for 0 (nn c (20 + w) 1) (Nat.zero_le _) (fun i => [(3, Value.int (nI i)), (2, Value.int (nI (sumF (fun i => nn c (100 + x w i) 0 + nn c 3 2) i))), (0, Value.ref (a 3)), (1, Value.ref (a (20 + w)))]) (fun _ => c) (fun _ => g) ?_ ?_
  · refine z_iload_n C dX3_widthOf_4 rfl (q := 0) rfl ?_
    refine z_aload_n C dX3_widthOf_5 rfl (q := 3) rfl ?_
    refine zg_X6_size C (k := 20 + w) (hL _ (by unfold live; omega)) (kd_w (by omega)) i6 (by decide +kernel) (v := nI (nn c (20 + w) 1)) (CI_sz hI hw).1 dX3_widthOf_6 ?_
    refine z_icmp_ge C dX3_widthOf_9 (tgt := 35) (by decide) (fun h9 => ?_) (fun h9 => absurd (Int32.le_refl _) h9)
    refine z_iload_n C dX3_widthOf_35 rfl (q := 1) rfl ?_
    exact z_iret C rfl (Nat.le_refl _) (Nat.le_refl _) dX3_widthOf_36 ⟨rfl, rfl⟩
  · intro i _ hi ih
    have hn := (CI_sz hI hw).2.2
    have h16 := CI_nl16 hI
    have hx := XC_l hX hw hi
    have hwi := CI_wi hI hx
    have hg := CI_G hI
    refine z_iload_n C dX3_widthOf_4 rfl (q := 0) rfl ?_
    refine z_aload_n C dX3_widthOf_5 rfl (q := 3) rfl ?_
    refine zg_X6_size C (k := 20 + w) (hL _ (by unfold live; omega)) (kd_w (by omega)) i6 (by decide +kernel) (v := nI (nn c (20 + w) 1)) (CI_sz hI hw).1 dX3_widthOf_6 ?_
    refine z_icmp_ge C dX3_widthOf_9 (tgt := 35) (by decide) (fun h9 => absurd h9 (nI_ge hi (by omega))) (fun h9 => ?_)
    refine z_iload_n C dX3_widthOf_12 rfl (q := 1) rfl ?_
    refine z_aload_n C dX3_widthOf_13 rfl (q := 3) rfl ?_
    refine zg_X6_letters C (k := 20 + w) (hL _ (by unfold live; omega)) (kd_w (by omega)) i6 (by decide +kernel) (k' := 30 + w) (RC_letters hR (by omega)) dX3_widthOf_14 ?_
    refine z_iload_n C dX3_widthOf_17 rfl (q := 0) rfl ?_
    refine z_aaload C (k := 30 + w) (hL _ (by unfold live; omega)) (kd_wl (by omega)) (by decide) (j := i) rfl (by rw [ln_wl (by omega)]; omega) (by rw [ln_wl (by omega)]; decide) (v := .ref (a (100 + x w i))) (by rw [XC_r hX hw hi]; rfl) dX3_widthOf_18 ?_
    refine zg_X0_width C (k := 100 + x w i) (hL _ (by unfold live; omega)) (kd_l (by omega)) i0 (by decide +kernel) (v := nI (nn c (100 + x w i) 0)) hwi.1 dX3_widthOf_19 ?_
    refine z_aload_n C dX3_widthOf_22 rfl (q := 2) rfl ?_
    refine zg_X3_gapWidth C (k := 3) (hL _ (by unfold live; omega)) (by rfl) i3 (by decide +kernel) (v := nI (nn c 3 2)) hg.1 dX3_widthOf_23 ?_
    refine z_iadd C dX3_widthOf_26 (v := nI (nn c (100 + x w i) 0 + nn c 3 2)) (nI_add _ _) ?_
    refine z_iadd C dX3_widthOf_27 (v := nI (sumF (fun i => nn c (100 + x w i) 0 + nn c 3 2) (i + 1))) (nI_add _ _) ?_
    refine z_istore_n C dX3_widthOf_28 rfl (by decide) (lv' := [(2, Value.int (nI (sumF (fun i => nn c (100 + x w i) 0 + nn c 3 2) (i + 1)))), (3, Value.int (nI i)), (0, Value.ref (a 3)), (1, Value.ref (a (20 + w)))]) rfl ?_
    refine z_iinc C dX3_widthOf_29 (q := 1) rfl (v := nI (i + 1)) (nI_1 _) (by decide) (lv' := [(3, Value.int (nI (i + 1))), (2, Value.int (nI (sumF (fun i => nn c (100 + x w i) 0 + nn c 3 2) (i + 1)))), (0, Value.ref (a 3)), (1, Value.ref (a (20 + w)))]) rfl ?_
    refine z_goto C dX3_widthOf_32 (tgt := 4) (by decide) ?_
    exact ih
