/-- place p is laid ahead of place q -/
def befC (c : Nat → Nat → Int32) (x : Nat → Nat → Nat) (w p q : Nat) : Prop := nn c (100 + x w p) 2 < nn c (100 + x w q) 2 ∨ (nn c (100 + x w p) 2 = nn c (100 + x w q) 2 ∧ p < q)
noncomputable def rankC (c : Nat → Nat → Int32) (x : Nat → Nat → Nat) (w p i : Nat) : Nat := sumF (fun q => one (befC c x w q p)) i
noncomputable def endC (c : Nat → Nat → Int32) (x : Nat → Nat → Nat) (w p i : Nat) : Nat := nn c (100 + x w p) 1 + sumF (fun q => one (befC c x w q p) * nn c (100 + x w q) 1) i
theorem rankC_le (c : Nat → Nat → Int32) (x : Nat → Nat → Nat) (w p i : Nat) : rankC c x w p i ≤ i := sumF_le1 (fun _ _ => one_le _)
theorem rankC_yes {c : Nat → Nat → Int32} {x : Nat → Nat → Nat} {w p i : Nat} (h : befC c x w i p) : rankC c x w p (i + 1) = rankC c x w p i + 1 := by unfold rankC; rw [sumF, one_pos h]
theorem rankC_no {c : Nat → Nat → Int32} {x : Nat → Nat → Nat} {w p i : Nat} (h : ¬ befC c x w i p) : rankC c x w p (i + 1) = rankC c x w p i := by unfold rankC; rw [sumF, one_neg h, Nat.add_zero]
theorem endC_yes {c : Nat → Nat → Int32} {x : Nat → Nat → Nat} {w p i : Nat} (h : befC c x w i p) : endC c x w p (i + 1) = endC c x w p i + nn c (100 + x w i) 1 := by unfold endC; rw [sumF, one_pos h, Nat.one_mul, Nat.add_assoc]
theorem endC_no {c : Nat → Nat → Int32} {x : Nat → Nat → Nat} {w p i : Nat} (h : ¬ befC c x w i p) : endC c x w p (i + 1) = endC c x w p i := by unfold endC; rw [sumF, one_neg h, Nat.zero_mul, Nat.add_zero]
theorem endC_le {c : Nat → Nat → Int32} {r : Nat → Nat → Option Nat} {nl nk : Nat} (hI : CI c nl nk) {x : Nat → Nat → Nat} (hX : XC c r nl x) {w : Nat} (hw : w < 8) {p : Nat} (hp : p < nn c (20 + w) 1) : endC c x w p (nn c (20 + w) 1) ≤ 99 := by
  have h1 := (CI_sz hI hw).2.2
  have h2 := (CI_mi hI (XC_l hX hw hp)).2.2
  have h3 : sumF (fun q => one (befC c x w q p) * nn c (100 + x w q) 1) (nn c (20 + w) 1) ≤ nn c (20 + w) 1 * 9 := sumF_le (fun i hi => by
    have h4 := (CI_mi hI (XC_l hX hw hi)).2.2
    rcases Classical.em (befC c x w i p) with h | h
    · rw [one_pos h]; omega
    · rw [one_neg h]; omega)
  unfold endC; omega
noncomputable def lateN (c : Nat → Nat → Int32) (x : Nat → Nat → Nat) (w p : Nat) : Nat := endC c x w p (nn c (20 + w) 1) - nn c (100 + x w p) 2

set_option maxHeartbeats 4000000 in
set_option maxRecDepth 100000 in
theorem c_X6_isLaidBefore (l : Launch) (D : va_G) (cy : Nat → ClassId) (a : Nat → Nat) (L : List Nat) (c : Nat → Nat → Int32) (g : Nat → Nat → Int64) (r : Nat → Nat → Option Nat) (nl nk : Nat) (hL : zLv L nl nk) (hR : RC r nl nk) (hI : CI c nl nk) (x : Nat → Nat → Nat) (hX : XC c r nl x) (w : Nat) (hw : w < 8) (p q : Nat) (hp : p < (nn c (20 + w) 1)) (hq : q < (nn c (20 + w) 1)) : zPI l yX6_isLaidBefore wsX6_isLaidBefore { frames := 0, cells := 0, slots := 0, locals := 0 } D cy a L c g r [Value.ref (a (20 + w)), Value.int (nI p), Value.int (nI q)] (fun v => (v = 1 ∧ (befC c x w p q)) ∨ (v = 0 ∧ ¬ (befC c x w p q))) := by
  refine z_enter cX6_isLaidBefore 5 (some .boolean) (by decide) (Nat.le_of_ble_eq_true rfl) ?_
  intro p_ e s m below meth co C hin
  have C : zC p_ s m _ meth co D cy _ cX6_isLaidBefore 5 (some .boolean) wsX6_isLaidBefore RX6 := C
  have i0 : ∀ w ∈ wsX00, w ∈ wsX6_isLaidBefore := by decide +kernel
  have i6 : ∀ w ∈ wsX60, w ∈ wsX6_isLaidBefore := by decide +kernel
  have h16 := CI_nl16 hI
  have hz := (CI_sz hI hw).2
  have hxp := XC_l hX hw hp
  have hxq := XC_l hX hw hq
  have hsp := (CI_so hI hxp).2
  have hsq := (CI_so hI hxq).2
  refine z_aload_n C dX6_isLaidBefore_0 rfl (q := 0) rfl ?_
  refine zg_X6_letters C (k := 20 + w) (hL _ (by unfold live; omega)) (kd_w (by omega)) i6 (by decide +kernel) (k' := 30 + w) (RC_letters hR (by omega)) dX6_isLaidBefore_1 ?_
  refine z_iload_n C dX6_isLaidBefore_4 rfl (q := 1) rfl ?_
  refine z_aaload C (k := 30 + w) (hL _ (by unfold live; omega)) (kd_wl (by omega)) (by decide) (j := p) rfl (by rw [ln_wl (by omega)]; omega) (by rw [ln_wl (by omega)]; decide) (v := .ref (a (100 + x w p))) (by rw [XC_r hX (by omega) (by omega)]; rfl) dX6_isLaidBefore_5 ?_
  refine zg_X0_soft C (k := 100 + x w p) (hL _ (by unfold live; omega)) (kd_l (by omega)) i0 (by decide +kernel) (v := nI (nn c (100 + x w p) 2)) (CI_so hI (by omega)).1 dX6_isLaidBefore_6 ?_
  refine z_istore_n C dX6_isLaidBefore_9 rfl (by decide) (lv' := [(3, Value.int (nI (nn c (100 + x w p) 2))), (0, Value.ref (a (20 + w))), (1, Value.int (nI p)), (2, Value.int (nI q))]) rfl ?_
  refine z_aload_n C dX6_isLaidBefore_10 rfl (q := 1) rfl ?_
  refine zg_X6_letters C (k := 20 + w) (hL _ (by unfold live; omega)) (kd_w (by omega)) i6 (by decide +kernel) (k' := 30 + w) (RC_letters hR (by omega)) dX6_isLaidBefore_11 ?_
  refine z_iload_n C dX6_isLaidBefore_14 rfl (q := 3) rfl ?_
  refine z_aaload C (k := 30 + w) (hL _ (by unfold live; omega)) (kd_wl (by omega)) (by decide) (j := q) rfl (by rw [ln_wl (by omega)]; omega) (by rw [ln_wl (by omega)]; decide) (v := .ref (a (100 + x w q))) (by rw [XC_r hX (by omega) (by omega)]; rfl) dX6_isLaidBefore_15 ?_
  refine zg_X0_soft C (k := 100 + x w q) (hL _ (by unfold live; omega)) (kd_l (by omega)) i0 (by decide +kernel) (v := nI (nn c (100 + x w q) 2)) (CI_so hI (by omega)).1 dX6_isLaidBefore_16 ?_
  refine z_istore C dX6_isLaidBefore_19 (by decide) (lv' := [(4, Value.int (nI (nn c (100 + x w q) 2))), (3, Value.int (nI (nn c (100 + x w p) 2))), (0, Value.ref (a (20 + w))), (1, Value.int (nI p)), (2, Value.int (nI q))]) rfl ?_
  refine z_iload_n C dX6_isLaidBefore_21 rfl (q := 1) rfl ?_
  refine z_iload C dX6_isLaidBefore_22 (q := 0) rfl ?_
  refine z_icmp_lt C dX6_isLaidBefore_24 (tgt := 38) (by decide) (fun h24 => ?_) (fun h24 => ?_)
  · have q24 := iv_lt (nI_toInt (by omega)) (nI_toInt (by omega)) h24
    refine z_iconst C dX6_isLaidBefore_38 (v := 1) (by decide) ?_
    refine z_goto C dX6_isLaidBefore_39 (tgt := 43) (by decide) ?_
    exact z_zret C rfl (Nat.le_refl _) (Nat.le_refl _) dX6_isLaidBefore_43 rfl ⟨rfl, Or.inl ⟨rfl, by unfold befC; omega⟩⟩
  · have q24 := iv_nlt (nI_toInt (by omega)) (nI_toInt (by omega)) h24
    refine z_iload_n C dX6_isLaidBefore_27 rfl (q := 1) rfl ?_
    refine z_iload C dX6_isLaidBefore_28 (q := 0) rfl ?_
    refine z_icmp_ne C dX6_isLaidBefore_30 (tgt := 42) (by decide) (fun h30 => ?_) (fun h30 => ?_)
    · have q30 := iv_ne (nI_toInt (by omega)) (nI_toInt (by omega)) h30
      refine z_iconst C dX6_isLaidBefore_42 (v := 0) (by decide) ?_
      exact z_zret C rfl (Nat.le_refl _) (Nat.le_refl _) dX6_isLaidBefore_43 rfl ⟨rfl, Or.inr ⟨rfl, by unfold befC; omega⟩⟩
    · have q30 := iv_eq (nI_toInt (by omega)) (nI_toInt (by omega)) h30
      refine z_iload_n C dX6_isLaidBefore_33 rfl (q := 3) rfl ?_
      refine z_iload_n C dX6_isLaidBefore_34 rfl (q := 4) rfl ?_
      refine z_icmp_ge C dX6_isLaidBefore_35 (tgt := 42) (by decide) (fun h35 => ?_) (fun h35 => ?_)
      · have q35 := iv_le (nI_toInt (by omega)) (nI_toInt (by omega)) h35
        refine z_iconst C dX6_isLaidBefore_42 (v := 0) (by decide) ?_
        exact z_zret C rfl (Nat.le_refl _) (Nat.le_refl _) dX6_isLaidBefore_43 rfl ⟨rfl, Or.inr ⟨rfl, by unfold befC; omega⟩⟩
      · have q35 := iv_nle (nI_toInt (by omega)) (nI_toInt (by omega)) h35
        refine z_iconst C dX6_isLaidBefore_38 (v := 1) (by decide) ?_
        refine z_goto C dX6_isLaidBefore_39 (tgt := 43) (by decide) ?_
        exact z_zret C rfl (Nat.le_refl _) (Nat.le_refl _) dX6_isLaidBefore_43 rfl ⟨rfl, Or.inl ⟨rfl, by unfold befC; omega⟩⟩

set_option maxHeartbeats 4000000 in
set_option maxRecDepth 100000 in
theorem c_X6_rankOf (l : Launch) (D : va_G) (cy : Nat → ClassId) (a : Nat → Nat) (L : List Nat) (c : Nat → Nat → Int32) (g : Nat → Nat → Int64) (r : Nat → Nat → Option Nat) (nl nk : Nat) (hL : zLv L nl nk) (hR : RC r nl nk) (hI : CI c nl nk) (x : Nat → Nat → Nat) (hX : XC c r nl x) (w : Nat) (hw : w < 8) (p : Nat) (hp : p < (nn c (20 + w) 1)) : zPI l yX6_rankOf wsX6_rankOf { frames := 1, cells := 0, slots := 0, locals := 24 } D cy a L c g r [Value.ref (a (20 + w)), Value.int (nI p)] (fun v => v = nI (rankC c x w p (nn c (20 + w) 1))) := by
  refine z_enter cX6_rankOf 4 (some .int) (by decide) (Nat.le_of_ble_eq_true rfl) ?_
  intro p_ e s m below meth co C hin
  have C : zC p_ s m _ meth co D cy _ cX6_rankOf 4 (some .int) wsX6_rankOf RX6 := C
  have i6 : ∀ w ∈ wsX60, w ∈ wsX6_rankOf := by decide +kernel
  have h16 := CI_nl16 hI
  have hz := (CI_sz hI hw).2
  refine z_iconst C dX6_rankOf_0 (v := nI 0) (by decide) ?_
  refine z_istore_n C dX6_rankOf_1 rfl (by decide) (lv' := [(2, Value.int (nI 0)), (0, Value.ref (a (20 + w))), (1, Value.int (nI p))]) rfl ?_
  refine z_iconst C dX6_rankOf_2 (v := nI 0) (by decide) ?_
  refine z_istore_n C dX6_rankOf_3 rfl (by decide) (lv' := [(3, Value.int (nI 0)), (2, Value.int (nI 0)), (0, Value.ref (a (20 + w))), (1, Value.int (nI p))]) rfl ?_
  refine z_for 0 ((nn c (20 + w) 1)) (Nat.zero_le _) (fun i => [(3, Value.int (nI i)), (2, Value.int (nI (rankC c x w p i))), (0, Value.ref (a (20 + w))), (1, Value.int (nI p))]) (fun i => c) (fun i => g) ?_ ?_
  · refine z_iload_n C dX6_rankOf_4 rfl (q := 0) rfl ?_
    refine z_aload_n C dX6_rankOf_5 rfl (q := 2) rfl ?_
    refine zg_X6_size C (k := 20 + w) (hL _ (by unfold live; omega)) (kd_w (by omega)) i6 (by decide +kernel) (v := nI (nn c (20 + w) 1)) (CI_sz hI (by omega)).1 dX6_rankOf_6 ?_
    refine z_icmp_ge C dX6_rankOf_9 (tgt := 30) (by decide) (fun h9 => ?_) (fun h9 => absurd (Int32.le_refl _) h9)
    refine z_iload_n C dX6_rankOf_30 rfl (q := 1) rfl ?_
    exact z_iret C rfl (Nat.le_refl _) (Nat.le_refl _) dX6_rankOf_31 ⟨rfl, rfl⟩
  · intro i hli hi ihi
    refine z_iload_n C dX6_rankOf_4 rfl (q := 0) rfl ?_
    refine z_aload_n C dX6_rankOf_5 rfl (q := 2) rfl ?_
    refine zg_X6_size C (k := 20 + w) (hL _ (by unfold live; omega)) (kd_w (by omega)) i6 (by decide +kernel) (v := nI (nn c (20 + w) 1)) (CI_sz hI (by omega)).1 dX6_rankOf_6 ?_
    refine z_icmp_ge C dX6_rankOf_9 (tgt := 30) (by decide) (fun h9 => absurd h9 (nI_ge hi (by omega))) (fun h9 => ?_)
    refine z_aload_n C dX6_rankOf_12 rfl (q := 2) rfl ?_
    refine z_iload_n C dX6_rankOf_13 rfl (q := 0) rfl ?_
    refine z_iload_n C dX6_rankOf_14 rfl (q := 3) rfl ?_
    refine z_pI C (z_runV C (As := [Value.int (nI i), Value.int (nI p)]) (rest := []) (c_X6_isLaidBefore l D cy a L c g r nl nk hL hR hI x hX w (by omega) i p (by omega) (by omega)) (cwV 2 C.2.2.2.2.2.1 gX6_rankOf_X6_isLaidBefore rfl rfl rfl (by decide +kernel) ⟨Nat.le_of_ble_eq_true rfl, Nat.le_of_ble_eq_true rfl⟩) (hL _ (by unfold live; omega)) (zF_k6 (kd_w (by omega))) rfl rfl rfl rfl (Nat.le_of_ble_eq_true rfl) dX6_rankOf_15 ⟨Nat.zero_le _, Nat.zero_le _⟩) (fun v15 e15 => ?_)
    rcases e15 with ⟨rfl, e15⟩ | ⟨rfl, e15⟩
    · refine z_if_eq C dX6_rankOf_18 (tgt := 24) (by decide) (fun h18 => absurd h18 (by decide)) (fun h18 => ?_)
      refine z_iinc C dX6_rankOf_21 (q := 1) rfl (v := nI (rankC c x w p i + 1)) (nI_1 _) (by decide) (lv' := [(2, Value.int (nI (rankC c x w p i + 1))), (3, Value.int (nI i)), (0, Value.ref (a (20 + w))), (1, Value.int (nI p))]) rfl ?_
      refine z_iinc C dX6_rankOf_24 (q := 1) rfl (v := nI (i + 1)) (nI_1 _) (by decide) (lv' := [(3, Value.int (nI (i + 1))), (2, Value.int (nI (rankC c x w p i + 1))), (0, Value.ref (a (20 + w))), (1, Value.int (nI p))]) rfl ?_
      refine z_goto C dX6_rankOf_27 (tgt := 4) (by decide) ?_
      rw [rankC_yes e15] at ihi
      exact ihi
    · refine z_if_eq C dX6_rankOf_18 (tgt := 24) (by decide) (fun h18 => ?_) (fun h18 => absurd h18 (by decide))
      refine z_iinc C dX6_rankOf_24 (q := 0) rfl (v := nI (i + 1)) (nI_1 _) (by decide) (lv' := [(3, Value.int (nI (i + 1))), (2, Value.int (nI (rankC c x w p i))), (0, Value.ref (a (20 + w))), (1, Value.int (nI p))]) rfl ?_
      refine z_goto C dX6_rankOf_27 (tgt := 4) (by decide) ?_
      rw [rankC_no e15] at ihi
      exact ihi

set_option maxHeartbeats 4000000 in
set_option maxRecDepth 100000 in
theorem c_X6_placeInOrder (l : Launch) (D : va_G) (cy : Nat → ClassId) (a : Nat → Nat) (L : List Nat) (c : Nat → Nat → Int32) (g : Nat → Nat → Int64) (r : Nat → Nat → Option Nat) (nl nk : Nat) (hL : zLv L nl nk) (hR : RC r nl nk) (hI : CI c nl nk) (x : Nat → Nat → Nat) (hX : XC c r nl x) (w : Nat) (hw : w < 8) (i : Nat) (hi : i < (nn c (20 + w) 1)) : zPI l yX6_placeInOrder wsX6_placeInOrder { frames := 2, cells := 0, slots := 0, locals := 47 } D cy a L c g r [Value.ref (a (20 + w)), Value.int (nI i)] (fun v => (∃ p, p < (nn c (20 + w) 1) ∧ v = nI p ∧ rankC c x w p (nn c (20 + w) 1) = i ∧ ∀ j, j < p → rankC c x w j (nn c (20 + w) 1) ≠ i) ∨ (v = -2 ∧ ∀ j, j < (nn c (20 + w) 1) → rankC c x w j (nn c (20 + w) 1) ≠ i)) := by
  refine z_enter cX6_placeInOrder 3 (some .int) (by decide) (Nat.le_of_ble_eq_true rfl) ?_
  intro p_ e s m below meth co C hin
  have C : zC p_ s m _ meth co D cy _ cX6_placeInOrder 3 (some .int) wsX6_placeInOrder RX6 := C
  have i6 : ∀ w ∈ wsX60, w ∈ wsX6_placeInOrder := by decide +kernel
  have h16 := CI_nl16 hI
  have hz := (CI_sz hI hw).2
  refine z_iconst C dX6_placeInOrder_0 (v := nI 0) (by decide) ?_
  refine z_istore_n C dX6_placeInOrder_1 rfl (by decide) (lv' := [(2, Value.int (nI 0)), (0, Value.ref (a (20 + w))), (1, Value.int (nI i))]) rfl ?_
  refine z_forP (fun p => ∀ j, j < p → rankC c x w j (nn c (20 + w) 1) ≠ i) 0 ((nn c (20 + w) 1)) (Nat.zero_le _) (fun p => [(2, Value.int (nI p)), (0, Value.ref (a (20 + w))), (1, Value.int (nI i))]) (fun p => c) (fun p => g) ?_ ?_ (fun j h => absurd h (Nat.not_lt_zero j))
  · intro hvp
    refine z_iload_n C dX6_placeInOrder_2 rfl (q := 0) rfl ?_
    refine z_aload_n C dX6_placeInOrder_3 rfl (q := 1) rfl ?_
    refine zg_X6_size C (k := 20 + w) (hL _ (by unfold live; omega)) (kd_w (by omega)) i6 (by decide +kernel) (v := nI (nn c (20 + w) 1)) (CI_sz hI (by omega)).1 dX6_placeInOrder_4 ?_
    refine z_icmp_ge C dX6_placeInOrder_7 (tgt := 27) (by decide) (fun h7 => ?_) (fun h7 => absurd (Int32.le_refl _) h7)
    refine z_bipush C dX6_placeInOrder_27 (v := -2) (by decide) ?_
    exact z_iret C rfl (Nat.le_refl _) (Nat.le_refl _) dX6_placeInOrder_29 ⟨rfl, Or.inr ⟨rfl, hvp⟩⟩
  · intro p hlp hp hvp ihp
    refine z_iload_n C dX6_placeInOrder_2 rfl (q := 0) rfl ?_
    refine z_aload_n C dX6_placeInOrder_3 rfl (q := 1) rfl ?_
    refine zg_X6_size C (k := 20 + w) (hL _ (by unfold live; omega)) (kd_w (by omega)) i6 (by decide +kernel) (v := nI (nn c (20 + w) 1)) (CI_sz hI (by omega)).1 dX6_placeInOrder_4 ?_
    refine z_icmp_ge C dX6_placeInOrder_7 (tgt := 27) (by decide) (fun h7 => absurd h7 (nI_ge hp (by omega))) (fun h7 => ?_)
    refine z_aload_n C dX6_placeInOrder_10 rfl (q := 1) rfl ?_
    refine z_iload_n C dX6_placeInOrder_11 rfl (q := 0) rfl ?_
    refine z_pI C (z_runV C (As := [Value.int (nI p)]) (rest := []) (c_X6_rankOf l D cy a L c g r nl nk hL hR hI x hX w (by omega) p (by omega)) (cwV 1 C.2.2.2.2.2.1 gX6_placeInOrder_X6_rankOf rfl rfl rfl (by decide +kernel) ⟨Nat.le_of_ble_eq_true rfl, Nat.le_of_ble_eq_true rfl⟩) (hL _ (by unfold live; omega)) (zF_k6 (kd_w (by omega))) rfl rfl rfl rfl (Nat.le_of_ble_eq_true rfl) dX6_placeInOrder_12 ⟨Nat.zero_le _, Nat.zero_le _⟩) (fun v12 e12 => ?_)
    subst e12
    have hrk := rankC_le c x w p (nn c (20 + w) 1)
    refine z_iload_n C dX6_placeInOrder_15 rfl (q := 2) rfl ?_
    refine z_icmp_ne C dX6_placeInOrder_16 (tgt := 21) (by decide) (fun h16 => ?_) (fun h16 => ?_)
    · have q16 := iv_ne (nI_toInt (by omega)) (nI_toInt (by omega)) h16
      refine z_iinc C dX6_placeInOrder_21 (q := 0) rfl (v := nI (p + 1)) (nI_1 _) (by decide) (lv' := [(2, Value.int (nI (p + 1))), (0, Value.ref (a (20 + w))), (1, Value.int (nI i))]) rfl ?_
      refine z_goto C dX6_placeInOrder_24 (tgt := 2) (by decide) ?_
      exact ihp (lt_s hvp (by omega))
    · have q16 := iv_eq (nI_toInt (by omega)) (nI_toInt (by omega)) h16
      refine z_iload_n C dX6_placeInOrder_19 rfl (q := 0) rfl ?_
      exact z_iret C rfl (Nat.le_refl _) (Nat.le_refl _) dX6_placeInOrder_20 ⟨rfl, Or.inl ⟨p, hp, rfl, by omega, hvp⟩⟩

set_option maxHeartbeats 4000000 in
set_option maxRecDepth 100000 in
theorem c_X6_lateAt (l : Launch) (D : va_G) (cy : Nat → ClassId) (a : Nat → Nat) (L : List Nat) (c : Nat → Nat → Int32) (g : Nat → Nat → Int64) (r : Nat → Nat → Option Nat) (nl nk : Nat) (hL : zLv L nl nk) (hR : RC r nl nk) (hI : CI c nl nk) (x : Nat → Nat → Nat) (hX : XC c r nl x) (w : Nat) (hw : w < 8) (p : Nat) (hp : p < (nn c (20 + w) 1)) : zPI l yX6_lateAt wsX6_lateAt { frames := 1, cells := 0, slots := 0, locals := 24 } D cy a L c g r [Value.ref (a (20 + w)), Value.int (nI p)] (fun v => v = nI (endC c x w p (nn c (20 + w) 1)) - nI (nn c (100 + x w p) 2)) := by
  refine z_enter cX6_lateAt 4 (some .int) (by decide) (Nat.le_of_ble_eq_true rfl) ?_
  intro p_ e s m below meth co C hin
  have C : zC p_ s m _ meth co D cy _ cX6_lateAt 4 (some .int) wsX6_lateAt RX6 := C
  have i0 : ∀ w ∈ wsX00, w ∈ wsX6_lateAt := by decide +kernel
  have i6 : ∀ w ∈ wsX60, w ∈ wsX6_lateAt := by decide +kernel
  have h16 := CI_nl16 hI
  have hz := (CI_sz hI hw).2
  have hxp := XC_l hX hw hp
  refine z_aload_n C dX6_lateAt_0 rfl (q := 0) rfl ?_
  refine zg_X6_letters C (k := 20 + w) (hL _ (by unfold live; omega)) (kd_w (by omega)) i6 (by decide +kernel) (k' := 30 + w) (RC_letters hR (by omega)) dX6_lateAt_1 ?_
  refine z_iload_n C dX6_lateAt_4 rfl (q := 1) rfl ?_
  refine z_aaload C (k := 30 + w) (hL _ (by unfold live; omega)) (kd_wl (by omega)) (by decide) (j := p) rfl (by rw [ln_wl (by omega)]; omega) (by rw [ln_wl (by omega)]; decide) (v := .ref (a (100 + x w p))) (by rw [XC_r hX (by omega) (by omega)]; rfl) dX6_lateAt_5 ?_
  refine zg_X0_minutes C (k := 100 + x w p) (hL _ (by unfold live; omega)) (kd_l (by omega)) i0 (by decide +kernel) (v := nI (endC c x w p 0)) (CI_mi hI hxp).1 dX6_lateAt_6 ?_
  refine z_istore_n C dX6_lateAt_9 rfl (by decide) (lv' := [(2, Value.int (nI (endC c x w p 0))), (0, Value.ref (a (20 + w))), (1, Value.int (nI p))]) rfl ?_
  refine z_iconst C dX6_lateAt_10 (v := nI 0) (by decide) ?_
  refine z_istore_n C dX6_lateAt_11 rfl (by decide) (lv' := [(3, Value.int (nI 0)), (2, Value.int (nI (endC c x w p 0))), (0, Value.ref (a (20 + w))), (1, Value.int (nI p))]) rfl ?_
  refine z_for 0 ((nn c (20 + w) 1)) (Nat.zero_le _) (fun i => [(3, Value.int (nI i)), (2, Value.int (nI (endC c x w p i))), (0, Value.ref (a (20 + w))), (1, Value.int (nI p))]) (fun i => c) (fun i => g) ?_ ?_
  · refine z_iload_n C dX6_lateAt_12 rfl (q := 0) rfl ?_
    refine z_aload_n C dX6_lateAt_13 rfl (q := 2) rfl ?_
    refine zg_X6_size C (k := 20 + w) (hL _ (by unfold live; omega)) (kd_w (by omega)) i6 (by decide +kernel) (v := nI (nn c (20 + w) 1)) (CI_sz hI (by omega)).1 dX6_lateAt_14 ?_
    refine z_icmp_ge C dX6_lateAt_17 (tgt := 47) (by decide) (fun h17 => ?_) (fun h17 => absurd (Int32.le_refl _) h17)
    refine z_iload_n C dX6_lateAt_47 rfl (q := 1) rfl ?_
    refine z_aload_n C dX6_lateAt_48 rfl (q := 2) rfl ?_
    refine zg_X6_letters C (k := 20 + w) (hL _ (by unfold live; omega)) (kd_w (by omega)) i6 (by decide +kernel) (k' := 30 + w) (RC_letters hR (by omega)) dX6_lateAt_49 ?_
    refine z_iload_n C dX6_lateAt_52 rfl (q := 3) rfl ?_
    refine z_aaload C (k := 30 + w) (hL _ (by unfold live; omega)) (kd_wl (by omega)) (by decide) (j := p) rfl (by rw [ln_wl (by omega)]; omega) (by rw [ln_wl (by omega)]; decide) (v := .ref (a (100 + x w p))) (by rw [XC_r hX (by omega) (by omega)]; rfl) dX6_lateAt_53 ?_
    refine zg_X0_soft C (k := 100 + x w p) (hL _ (by unfold live; omega)) (kd_l (by omega)) i0 (by decide +kernel) (v := nI (nn c (100 + x w p) 2)) (CI_so hI (by omega)).1 dX6_lateAt_54 ?_
    refine z_isub C dX6_lateAt_57 (v := (nI (endC c x w p ((nn c (20 + w) 1)))) - (nI (nn c (100 + x w p) 2))) rfl ?_
    exact z_iret C rfl (Nat.le_refl _) (Nat.le_refl _) dX6_lateAt_58 ⟨rfl, rfl⟩
  · intro i hli hi ihi
    have hxi := XC_l hX hw hi
    refine z_iload_n C dX6_lateAt_12 rfl (q := 0) rfl ?_
    refine z_aload_n C dX6_lateAt_13 rfl (q := 2) rfl ?_
    refine zg_X6_size C (k := 20 + w) (hL _ (by unfold live; omega)) (kd_w (by omega)) i6 (by decide +kernel) (v := nI (nn c (20 + w) 1)) (CI_sz hI (by omega)).1 dX6_lateAt_14 ?_
    refine z_icmp_ge C dX6_lateAt_17 (tgt := 47) (by decide) (fun h17 => absurd h17 (nI_ge hi (by omega))) (fun h17 => ?_)
    refine z_aload_n C dX6_lateAt_20 rfl (q := 2) rfl ?_
    refine z_iload_n C dX6_lateAt_21 rfl (q := 0) rfl ?_
    refine z_iload_n C dX6_lateAt_22 rfl (q := 3) rfl ?_
    refine z_pI C (z_runV C (As := [Value.int (nI i), Value.int (nI p)]) (rest := []) (c_X6_isLaidBefore l D cy a L c g r nl nk hL hR hI x hX w (by omega) i p (by omega) (by omega)) (cwV 2 C.2.2.2.2.2.1 gX6_lateAt_X6_isLaidBefore rfl rfl rfl (by decide +kernel) ⟨Nat.le_of_ble_eq_true rfl, Nat.le_of_ble_eq_true rfl⟩) (hL _ (by unfold live; omega)) (zF_k6 (kd_w (by omega))) rfl rfl rfl rfl (Nat.le_of_ble_eq_true rfl) dX6_lateAt_23 ⟨Nat.zero_le _, Nat.zero_le _⟩) (fun v23 e23 => ?_)
    rcases e23 with ⟨rfl, e23⟩ | ⟨rfl, e23⟩
    · refine z_if_eq C dX6_lateAt_26 (tgt := 41) (by decide) (fun h26 => absurd h26 (by decide)) (fun h26 => ?_)
      refine z_iload_n C dX6_lateAt_29 rfl (q := 1) rfl ?_
      refine z_aload_n C dX6_lateAt_30 rfl (q := 2) rfl ?_
      refine zg_X6_letters C (k := 20 + w) (hL _ (by unfold live; omega)) (kd_w (by omega)) i6 (by decide +kernel) (k' := 30 + w) (RC_letters hR (by omega)) dX6_lateAt_31 ?_
      refine z_iload_n C dX6_lateAt_34 rfl (q := 0) rfl ?_
      refine z_aaload C (k := 30 + w) (hL _ (by unfold live; omega)) (kd_wl (by omega)) (by decide) (j := i) rfl (by rw [ln_wl (by omega)]; omega) (by rw [ln_wl (by omega)]; decide) (v := .ref (a (100 + x w i))) (by rw [XC_r hX (by omega) (by omega)]; rfl) dX6_lateAt_35 ?_
      refine zg_X0_minutes C (k := 100 + x w i) (hL _ (by unfold live; omega)) (kd_l (by omega)) i0 (by decide +kernel) (v := nI (nn c (100 + x w i) 1)) (CI_mi hI (by omega)).1 dX6_lateAt_36 ?_
      refine z_iadd C dX6_lateAt_39 (v := nI ((endC c x w p i) + (nn c (100 + x w i) 1))) (nI_add (endC c x w p i) (nn c (100 + x w i) 1)) ?_
      refine z_istore_n C dX6_lateAt_40 rfl (by decide) (lv' := [(2, Value.int (nI ((endC c x w p i) + (nn c (100 + x w i) 1)))), (3, Value.int (nI i)), (0, Value.ref (a (20 + w))), (1, Value.int (nI p))]) rfl ?_
      refine z_iinc C dX6_lateAt_41 (q := 1) rfl (v := nI (i + 1)) (nI_1 _) (by decide) (lv' := [(3, Value.int (nI (i + 1))), (2, Value.int (nI ((endC c x w p i) + (nn c (100 + x w i) 1)))), (0, Value.ref (a (20 + w))), (1, Value.int (nI p))]) rfl ?_
      refine z_goto C dX6_lateAt_44 (tgt := 12) (by decide) ?_
      rw [endC_yes e23] at ihi
      exact ihi
    · refine z_if_eq C dX6_lateAt_26 (tgt := 41) (by decide) (fun h26 => ?_) (fun h26 => absurd h26 (by decide))
      refine z_iinc C dX6_lateAt_41 (q := 0) rfl (v := nI (i + 1)) (nI_1 _) (by decide) (lv' := [(3, Value.int (nI (i + 1))), (2, Value.int (nI (endC c x w p i))), (0, Value.ref (a (20 + w))), (1, Value.int (nI p))]) rfl ?_
      refine z_goto C dX6_lateAt_44 (tgt := 12) (by decide) ?_
      rw [endC_no e23] at ihi
      exact ihi

set_option maxHeartbeats 4000000 in
set_option maxRecDepth 100000 in
theorem c_X6_greatestLate (l : Launch) (D : va_G) (cy : Nat → ClassId) (a : Nat → Nat) (L : List Nat) (c : Nat → Nat → Int32) (g : Nat → Nat → Int64) (r : Nat → Nat → Option Nat) (nl nk : Nat) (hL : zLv L nl nk) (hR : RC r nl nk) (hI : CI c nl nk) (x : Nat → Nat → Nat) (hX : XC c r nl x) (w : Nat) (hw : w < 8) : zPI l yX6_greatestLate wsX6_greatestLate { frames := 2, cells := 0, slots := 0, locals := 47 } D cy a L c g r [Value.ref (a (20 + w))] (fun v => v = nI (maxF (lateN c x w) (nn c (20 + w) 1))) := by
  refine z_enter cX6_greatestLate 3 (some .int) (by decide) (Nat.le_of_ble_eq_true rfl) ?_
  intro p e s m below meth co C hin
  have C : zC p s m _ meth co D cy _ cX6_greatestLate 3 (some .int) wsX6_greatestLate RX6 := C
  have i6 : ∀ w ∈ wsX60, w ∈ wsX6_greatestLate := by decide +kernel
  have h16 := CI_nl16 hI
  have hz := (CI_sz hI hw).2
  refine z_iconst C dX6_greatestLate_0 (v := nI 0) (by decide) ?_
  refine z_istore_n C dX6_greatestLate_1 rfl (by decide) (lv' := [(1, Value.int (nI 0)), (0, Value.ref (a (20 + w)))]) rfl ?_
  refine z_iconst C dX6_greatestLate_2 (v := nI 0) (by decide) ?_
  refine z_istore_n C dX6_greatestLate_3 rfl (by decide) (lv' := [(2, Value.int (nI 0)), (1, Value.int (nI 0)), (0, Value.ref (a (20 + w)))]) rfl ?_
  refine z_for 0 ((nn c (20 + w) 1)) (Nat.zero_le _) (fun i => [(2, Value.int (nI i)), (1, Value.int (nI (maxF (lateN c x w) i))), (0, Value.ref (a (20 + w)))]) (fun i => c) (fun i => g) ?_ ?_
  · refine z_iload_n C dX6_greatestLate_4 rfl (q := 0) rfl ?_
    refine z_aload_n C dX6_greatestLate_5 rfl (q := 2) rfl ?_
    refine zg_X6_size C (k := 20 + w) (hL _ (by unfold live; omega)) (kd_w (by omega)) i6 (by decide +kernel) (v := nI (nn c (20 + w) 1)) (CI_sz hI (by omega)).1 dX6_greatestLate_6 ?_
    refine z_icmp_ge C dX6_greatestLate_9 (tgt := 28) (by decide) (fun h9 => ?_) (fun h9 => absurd (Int32.le_refl _) h9)
    refine z_iload_n C dX6_greatestLate_28 rfl (q := 1) rfl ?_
    exact z_iret C rfl (Nat.le_refl _) (Nat.le_refl _) dX6_greatestLate_29 ⟨rfl, rfl⟩
  · intro i hli hi ihi
    have hxi := XC_l hX hw hi
    have hsi := (CI_so hI hxi).2
    have hel := endC_le hI hX hw hi
    have hml : maxF (lateN c x w) i ≤ 99 := maxF_le (fun j hj => by have := endC_le hI hX hw (show j < nn c (20 + w) 1 by omega); unfold lateN; omega)
    refine z_iload_n C dX6_greatestLate_4 rfl (q := 0) rfl ?_
    refine z_aload_n C dX6_greatestLate_5 rfl (q := 2) rfl ?_
    refine zg_X6_size C (k := 20 + w) (hL _ (by unfold live; omega)) (kd_w (by omega)) i6 (by decide +kernel) (v := nI (nn c (20 + w) 1)) (CI_sz hI (by omega)).1 dX6_greatestLate_6 ?_
    refine z_icmp_ge C dX6_greatestLate_9 (tgt := 28) (by decide) (fun h9 => absurd h9 (nI_ge hi (by omega))) (fun h9 => ?_)
    refine z_iload_n C dX6_greatestLate_12 rfl (q := 1) rfl ?_
    refine z_aload_n C dX6_greatestLate_13 rfl (q := 2) rfl ?_
    refine z_iload_n C dX6_greatestLate_14 rfl (q := 0) rfl ?_
    refine z_pI C (z_runV C (As := [Value.int (nI i)]) (rest := [Value.int (nI (maxF (lateN c x w) i))]) (c_X6_lateAt l D cy a L c g r nl nk hL hR hI x hX w (by omega) i (by omega)) (cwV 1 C.2.2.2.2.2.1 gX6_greatestLate_X6_lateAt rfl rfl rfl (by decide +kernel) ⟨Nat.le_of_ble_eq_true rfl, Nat.le_of_ble_eq_true rfl⟩) (hL _ (by unfold live; omega)) (zF_k6 (kd_w (by omega))) rfl rfl rfl rfl (Nat.le_of_ble_eq_true rfl) dX6_greatestLate_15 ⟨Nat.zero_le _, Nat.zero_le _⟩) (fun v15 e15 => ?_)
    subst e15
    refine z_mmax C (by decide +kernel) (by decide +kernel) (by decide +kernel) (by decide +kernel) (Nat.le_of_ble_eq_true rfl) (Nat.le_of_ble_eq_true rfl) (Nat.zero_le _) (Nat.zero_le _) (v := nI (maxF (lateN c x w) (i + 1))) (nI_maxs (by omega) (by omega) (by omega)) dX6_greatestLate_18 ?_
    refine z_istore_n C dX6_greatestLate_21 rfl (by decide) (lv' := [(1, Value.int (nI (maxF (lateN c x w) (i + 1)))), (2, Value.int (nI i)), (0, Value.ref (a (20 + w)))]) rfl ?_
    refine z_iinc C dX6_greatestLate_22 (q := 1) rfl (v := nI (i + 1)) (nI_1 _) (by decide) (lv' := [(2, Value.int (nI (i + 1))), (1, Value.int (nI (maxF (lateN c x w) (i + 1)))), (0, Value.ref (a (20 + w)))]) rfl ?_
    refine z_goto C dX6_greatestLate_25 (tgt := 4) (by decide) ?_
    exact ihi

noncomputable def spoilC (c : Nat → Nat → Int32) (x : Nat → Nat → Nat) (w : Nat) : Nat := sumF (fun p => one (0 < lateN c x w p)) (nn c (20 + w) 1)

set_option maxHeartbeats 4000000 in
set_option maxRecDepth 100000 in
theorem c_X6_countLate (l : Launch) (D : va_G) (cy : Nat → ClassId) (a : Nat → Nat) (L : List Nat) (c : Nat → Nat → Int32) (g : Nat → Nat → Int64) (r : Nat → Nat → Option Nat) (nl nk : Nat) (hL : zLv L nl nk) (hR : RC r nl nk) (hI : CI c nl nk) (x : Nat → Nat → Nat) (hX : XC c r nl x) (w : Nat) (hw : w < 8) : zPI l yX6_countLate wsX6_countLate { frames := 2, cells := 0, slots := 0, locals := 47 } D cy a L c g r [Value.ref (a (20 + w))] (fun v => v = nI (spoilC c x w)) := by
  refine z_enter cX6_countLate 3 (some .int) (by decide) (Nat.le_of_ble_eq_true rfl) ?_
  intro p e s m below meth co C hin
  have C : zC p s m _ meth co D cy _ cX6_countLate 3 (some .int) wsX6_countLate RX6 := C
  have i6 : ∀ w ∈ wsX60, w ∈ wsX6_countLate := by decide +kernel
  have h16 := CI_nl16 hI
  have hz := (CI_sz hI hw).2
  refine z_iconst C dX6_countLate_0 (v := nI 0) (by decide) ?_
  refine z_istore_n C dX6_countLate_1 rfl (by decide) (lv' := [(1, Value.int (nI 0)), (0, Value.ref (a (20 + w)))]) rfl ?_
  refine z_iconst C dX6_countLate_2 (v := nI 0) (by decide) ?_
  refine z_istore_n C dX6_countLate_3 rfl (by decide) (lv' := [(2, Value.int (nI 0)), (1, Value.int (nI 0)), (0, Value.ref (a (20 + w)))]) rfl ?_
  refine z_for 0 ((nn c (20 + w) 1)) (Nat.zero_le _) (fun i => [(2, Value.int (nI i)), (1, Value.int (nI (sumF (fun p => one (0 < lateN c x w p)) i))), (0, Value.ref (a (20 + w)))]) (fun i => c) (fun i => g) ?_ ?_
  · refine z_iload_n C dX6_countLate_4 rfl (q := 0) rfl ?_
    refine z_aload_n C dX6_countLate_5 rfl (q := 2) rfl ?_
    refine zg_X6_size C (k := 20 + w) (hL _ (by unfold live; omega)) (kd_w (by omega)) i6 (by decide +kernel) (v := nI (nn c (20 + w) 1)) (CI_sz hI (by omega)).1 dX6_countLate_6 ?_
    refine z_icmp_ge C dX6_countLate_9 (tgt := 29) (by decide) (fun h9 => ?_) (fun h9 => absurd (Int32.le_refl _) h9)
    refine z_iload_n C dX6_countLate_29 rfl (q := 1) rfl ?_
    exact z_iret C rfl (Nat.le_refl _) (Nat.le_refl _) dX6_countLate_30 ⟨rfl, rfl⟩
  · intro i hli hi ihi
    have hxi := XC_l hX hw hi
    have hsi := (CI_so hI hxi).2
    have hel := endC_le hI hX hw hi
    refine z_iload_n C dX6_countLate_4 rfl (q := 0) rfl ?_
    refine z_aload_n C dX6_countLate_5 rfl (q := 2) rfl ?_
    refine zg_X6_size C (k := 20 + w) (hL _ (by unfold live; omega)) (kd_w (by omega)) i6 (by decide +kernel) (v := nI (nn c (20 + w) 1)) (CI_sz hI (by omega)).1 dX6_countLate_6 ?_
    refine z_icmp_ge C dX6_countLate_9 (tgt := 29) (by decide) (fun h9 => absurd h9 (nI_ge hi (by omega))) (fun h9 => ?_)
    refine z_aload_n C dX6_countLate_12 rfl (q := 2) rfl ?_
    refine z_iload_n C dX6_countLate_13 rfl (q := 0) rfl ?_
    refine z_pI C (z_runV C (As := [Value.int (nI i)]) (rest := []) (c_X6_lateAt l D cy a L c g r nl nk hL hR hI x hX w (by omega) i (by omega)) (cwV 1 C.2.2.2.2.2.1 gX6_countLate_X6_lateAt rfl rfl rfl (by decide +kernel) ⟨Nat.le_of_ble_eq_true rfl, Nat.le_of_ble_eq_true rfl⟩) (hL _ (by unfold live; omega)) (zF_k6 (kd_w (by omega))) rfl rfl rfl rfl (Nat.le_of_ble_eq_true rfl) dX6_countLate_14 ⟨Nat.zero_le _, Nat.zero_le _⟩) (fun v14 e14 => ?_)
    subst e14
    refine z_if_le C dX6_countLate_17 (tgt := 23) (by decide) (fun h17 => ?_) (fun h17 => ?_)
    · have q17 := iv_le (tI_sub (by omega) (by omega)) (show (0 : Int32).toInt = 0 from by decide) h17
      refine z_iinc C dX6_countLate_23 (q := 0) rfl (v := nI (i + 1)) (nI_1 _) (by decide) (lv' := [(2, Value.int (nI (i + 1))), (1, Value.int (nI (sumF (fun p => one (0 < lateN c x w p)) i))), (0, Value.ref (a (20 + w)))]) rfl ?_
      refine z_goto C dX6_countLate_26 (tgt := 4) (by decide) ?_
      rw [show sumF (fun p => one (0 < lateN c x w p)) (i + 1) = sumF (fun p => one (0 < lateN c x w p)) i from by rw [sumF, one_neg (by unfold lateN; omega), Nat.add_zero]] at ihi
      exact ihi
    · have q17 := iv_nle (tI_sub (by omega) (by omega)) (show (0 : Int32).toInt = 0 from by decide) h17
      refine z_iinc C dX6_countLate_20 (q := 1) rfl (v := nI (sumF (fun p => one (0 < lateN c x w p)) i + 1)) (nI_1 _) (by decide) (lv' := [(1, Value.int (nI (sumF (fun p => one (0 < lateN c x w p)) i + 1))), (2, Value.int (nI i)), (0, Value.ref (a (20 + w)))]) rfl ?_
      refine z_iinc C dX6_countLate_23 (q := 1) rfl (v := nI (i + 1)) (nI_1 _) (by decide) (lv' := [(2, Value.int (nI (i + 1))), (1, Value.int (nI (sumF (fun p => one (0 < lateN c x w p)) i + 1))), (0, Value.ref (a (20 + w)))]) rfl ?_
      refine z_goto C dX6_countLate_26 (tgt := 4) (by decide) ?_
      rw [show sumF (fun p => one (0 < lateN c x w p)) (i + 1) = sumF (fun p => one (0 < lateN c x w p)) i + 1 from by rw [sumF, one_pos (by unfold lateN; omega)]] at ihi
      exact ihi
