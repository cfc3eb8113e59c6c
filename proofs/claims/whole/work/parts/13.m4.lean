/-- what lies in the slots when a word is laid -/
def layC (c : Nat → Nat → Int32) (x : Nat → Nat → Nat) (w q : Nat) : Nat := layV (fun j => nn c (100 + x w j) 0) (nn c 3 2) (fun j k => nn c (120 + x w j) k) ((nn c (20 + w) 1)) q
theorem sumF_mono (f : Nat → Nat) : ∀ {m n : Nat}, m ≤ n → sumF f m ≤ sumF f n
  | m, 0, h => by have : m = 0 := by omega
                  subst this; exact Nat.le_refl _
  | m, n + 1, h => by
    by_cases e : m = n + 1
    · subst e; exact Nat.le_refl _
    · have := sumF_mono f (m := m) (n := n) (by omega)
      rw [sumF]; omega
theorem lay_step (c : Nat → Nat → Int32) (f sp : Nat → Nat) (st k : Nat) (h : st + k < 60) : up2 (up1 c 4 (fun q => if q < 60 then nI (if st ≤ q ∧ q < st + k then sp (q - st) else f q) else c 4 q)) 4 (st + k) (nI (sp k)) = up1 c 4 (fun q => if q < 60 then nI (if st ≤ q ∧ q < st + (k + 1) then sp (q - st) else f q) else c 4 q) := by
  funext k' q; unfold up2 up1
  by_cases hk : k' = 4
  · subst hk
    simp only [if_true]
    by_cases hq : q = st + k
    · subst hq
      rw [if_pos rfl, if_pos h, if_pos (by omega)]
      congr 2; omega
    · rw [if_neg hq]
      by_cases h60 : q < 60
      · rw [if_pos h60, if_pos h60]
        by_cases h2 : st ≤ q ∧ q < st + k
        · rw [if_pos h2, if_pos (by omega)]
        · rw [if_neg h2, if_neg (by omega)]
      · rw [if_neg h60, if_neg h60]
  · simp [hk]
theorem lay_start (c : Nat → Nat → Int32) (f sp : Nat → Nat) (st : Nat) : up1 c 4 (fun q => if q < 60 then nI (if st ≤ q ∧ q < st + 0 then sp (q - st) else f q) else c 4 q) = up1 c 4 (fun q => if q < 60 then nI (f q) else c 4 q) := by
  congr 1; funext q; rw [if_neg (show ¬ (st ≤ q ∧ q < st + 0) by omega)]
theorem CI_4 {c : Nat → Nat → Int32} {nl nk : Nat} (f : Nat → Int32) (h : CI c nl nk) : CI (up1 c 4 f) nl nk := by
  have e : ∀ k, k ≠ 4 → up1 c 4 f k = c k := fun k hk => up1_k c f hk
  have er : ∀ k j lo hi, k ≠ 4 → rng c k j lo hi → rng (up1 c 4 f) k j lo hi := by
    intro k j lo hi hk hr
    unfold rng nn at *; rw [e k hk]; exact hr
  obtain ⟨⟨a1, a2, a3, a4⟩, ⟨b1, b2⟩, c1, d1, ⟨e1, e2, e3, e4⟩, f1, ⟨g1, g2⟩, h1, i1⟩ := h
  refine ⟨⟨a1, a2, by rw [e 0 (by omega)]; exact a3, by rw [e 6 (by omega)]; exact a4⟩, ⟨er _ _ _ _ (by omega) b1, er _ _ _ _ (by omega) b2⟩, fun w hw => er _ _ _ _ (by omega) (c1 w hw), fun i hi => ?_, ⟨er _ _ _ _ (by omega) e1, er _ _ _ _ (by omega) e2, er _ _ _ _ (by omega) e3, er _ _ _ _ (by omega) e4⟩, fun k hk => ?_, ⟨er _ _ _ _ (by omega) g1, er _ _ _ _ (by omega) g2⟩, fun w hw => ?_, fun w hw => ?_⟩
  · obtain ⟨d2, d3, d4, d5⟩ := d1 i hi
    exact ⟨er _ _ _ _ (by omega) d2, er _ _ _ _ (by omega) d3, er _ _ _ _ (by omega) d4, fun j hj => er _ _ _ _ (by omega) (d5 j hj)⟩
  · obtain ⟨f2, f3, f4, f5, f6, f7⟩ := f1 k hk
    exact ⟨er _ _ _ _ (by omega) f2, er _ _ _ _ (by omega) f3, er _ _ _ _ (by omega) f4, er _ _ _ _ (by omega) f5, er _ _ _ _ (by omega) f6, er _ _ _ _ (by omega) f7⟩
  · obtain ⟨h2, h3, h4⟩ := h1 w hw
    exact ⟨er _ _ _ _ (by omega) h2, er _ _ _ _ (by omega) h3, er _ _ _ _ (by omega) h4⟩
  · obtain ⟨i2, i3⟩ := i1 w hw
    exact ⟨er _ _ _ _ (by omega) i2, er _ _ _ _ (by omega) i3⟩

set_option maxHeartbeats 4000000 in
set_option maxRecDepth 100000 in
theorem c_X3_lay (l : Launch) (D : va_G) (cy : Nat → ClassId) (a : Nat → Nat) (L : List Nat) (c : Nat → Nat → Int32) (g : Nat → Nat → Int64) (r : Nat → Nat → Option Nat) (nl nk : Nat) (hL : zLv L nl nk) (hR : RC r nl nk) (hI : CI c nl nk) (x : Nat → Nat → Nat) (hX : XC c r nl x) (w : Nat) (hw : w < 8) (hfit : wideC c x w ≤ 60) : zCV l yX3_lay wsX3_lay { frames := 1, cells := 0, slots := 0, locals := 23 } D cy a L c g r [Value.ref (a 3), Value.ref (a (20 + w))] (fun c' => c' = up1 c 4 (fun q => if q < 60 then nI (layC c x w q) else c 4 q)) := by
  refine z_enter cX3_lay 6 none (by decide) (Nat.le_of_ble_eq_true rfl) ?_
  intro p e s m below meth co C hin
  have C : zC p s m _ meth co D cy _ cX3_lay 6 none wsX3_lay RX3 := C
  have i0 : ∀ w ∈ wsX00, w ∈ wsX3_lay := by decide +kernel
  have i3 : ∀ w ∈ wsX30, w ∈ wsX3_lay := by decide +kernel
  have i6 : ∀ w ∈ wsX60, w ∈ wsX3_lay := by decide +kernel
  have h16 := CI_nl16 hI
  have hz := (CI_sz hI hw).2
  have hg := (CI_G hI).2
  refine z_aload_n C dX3_lay_0 rfl (q := 0) rfl ?_
  refine zg_X3_laid C (k := 3) (hL _ (by unfold live; omega)) (by rfl) i3 (by decide +kernel) (k' := 4) (RC_laid hR) dX3_lay_1 ?_
  refine z_iconst C dX3_lay_4 (v := nI 0) (by decide) ?_
  refine z_cV C (z_runS C (As := [Value.ref (a 4), Value.int (nI 0)]) (rest := []) (c_J7_fill_53178 l D cy a L c g r 4 (hL _ (by unfold live; omega)) (by rfl) (by rw [show ln 4 = 60 from rfl]; decide) (nI 0)) (va_cwS 2 C.2.2.2.2.2.1 gX3_lay_J7_fill_53178 rfl rfl rfl (by decide +kernel) ⟨Nat.le_of_ble_eq_true rfl, Nat.le_of_ble_eq_true rfl⟩) rfl rfl (Nat.le_of_ble_eq_true rfl) dX3_lay_5 ⟨Nat.zero_le _, Nat.zero_le _⟩) (fun c5 e5 => ?_)
  subst e5
  refine z_iconst C dX3_lay_8 (v := nI 0) (by decide) ?_
  refine z_istore_n C dX3_lay_9 rfl (by decide) (lv' := [(2, Value.int (nI 0)), (0, Value.ref (a 3)), (1, Value.ref (a (20 + w)))]) rfl ?_
  refine z_iconst C dX3_lay_10 (v := nI 0) (by decide) ?_
  refine z_istore_n C dX3_lay_11 rfl (by decide) (lv' := [(3, Value.int (nI 0)), (2, Value.int (nI 0)), (0, Value.ref (a 3)), (1, Value.ref (a (20 + w)))]) rfl ?_
  refine z_ceq (c' := up1 c 4 (fun q => if q < 60 then nI (layV (fun j => nn c (100 + x w j) 0) (nn c 3 2) (fun j k => nn c (120 + x w j) k) 0 q) else c 4 q)) rfl ?_
  refine z_for 0 ((nn c (20 + w) 1)) (Nat.zero_le _) (fun i => [(3, Value.int (nI i)), (2, Value.int (nI (sumF (fun j => nn c (100 + x w j) 0 + nn c 3 2) i))), (0, Value.ref (a 3)), (1, Value.ref (a (20 + w)))]) (fun i => up1 c 4 (fun q => if q < 60 then nI (layV (fun j => nn c (100 + x w j) 0) (nn c 3 2) (fun j k => nn c (120 + x w j) k) i q) else c 4 q)) (fun i => g) ?_ ?_
  · refine z_iload_n C dX3_lay_12 rfl (q := 0) rfl ?_
    refine z_aload_n C dX3_lay_13 rfl (q := 3) rfl ?_
    refine zg_X6_size C (k := 20 + w) (hL _ (by unfold live; omega)) (kd_w (by omega)) i6 (by decide +kernel) (v := nI (nn c (20 + w) 1)) (by rw [up1_k _ _ (by omega)]; exact (CI_sz hI (by omega)).1) dX3_lay_14 ?_
    refine z_icmp_ge C dX3_lay_17 (tgt := 92) (by decide) (fun h17 => ?_) (fun h17 => absurd (Int32.le_refl _) h17)
    exact z_vret C rfl (Nat.le_refl _) (Nat.le_refl _) dX3_lay_92 ⟨_, rfl, rfl⟩
  · intro i hli hi ihi
    have hx := XC_l hX hw hi
    have hwi := (CI_wi hI hx).2
    have hmo := sumF_mono (fun j => nn c (100 + x w j) 0 + nn c 3 2) (show i + 1 ≤ nn c (20 + w) 1 from hi)
    have hse : sumF (fun j => nn c (100 + x w j) 0 + nn c 3 2) (i + 1) = (sumF (fun j => nn c (100 + x w j) 0 + nn c 3 2) i) + (nn c (100 + x w i) 0 + nn c 3 2) := rfl
    have hfit : sumF (fun j => nn c (100 + x w j) 0 + nn c 3 2) (nn c (20 + w) 1) ≤ 60 := hfit
    refine z_iload_n C dX3_lay_12 rfl (q := 0) rfl ?_
    refine z_aload_n C dX3_lay_13 rfl (q := 3) rfl ?_
    refine zg_X6_size C (k := 20 + w) (hL _ (by unfold live; omega)) (kd_w (by omega)) i6 (by decide +kernel) (v := nI (nn c (20 + w) 1)) (by rw [up1_k _ _ (by omega)]; exact (CI_sz hI (by omega)).1) dX3_lay_14 ?_
    refine z_icmp_ge C dX3_lay_17 (tgt := 92) (by decide) (fun h17 => absurd h17 (nI_ge hi (by omega))) (fun h17 => ?_)
    refine z_aload_n C dX3_lay_20 rfl (q := 3) rfl ?_
    refine zg_X6_letters C (k := 20 + w) (hL _ (by unfold live; omega)) (kd_w (by omega)) i6 (by decide +kernel) (k' := 30 + w) (RC_letters hR (by omega)) dX3_lay_21 ?_
    refine z_iload_n C dX3_lay_24 rfl (q := 0) rfl ?_
    refine z_aaload C (k := 30 + w) (hL _ (by unfold live; omega)) (kd_wl (by omega)) (by decide) (j := i) rfl (by rw [ln_wl (by omega)]; omega) (by rw [ln_wl (by omega)]; decide) (v := .ref (a (100 + x w i))) (by rw [XC_r hX hw hi]; rfl) dX3_lay_25 ?_
    refine z_astore C dX3_lay_26 (by decide) (lv' := [(4, Value.ref (a (100 + x w i))), (3, Value.int (nI i)), (2, Value.int (nI (sumF (fun j => nn c (100 + x w j) 0 + nn c 3 2) i))), (0, Value.ref (a 3)), (1, Value.ref (a (20 + w)))]) rfl ?_
    refine z_iconst C dX3_lay_28 (v := nI 0) (by decide) ?_
    refine z_istore C dX3_lay_29 (by decide) (lv' := [(5, Value.int (nI 0)), (4, Value.ref (a (100 + x w i))), (3, Value.int (nI i)), (2, Value.int (nI (sumF (fun j => nn c (100 + x w j) 0 + nn c 3 2) i))), (0, Value.ref (a 3)), (1, Value.ref (a (20 + w)))]) rfl ?_
    refine z_ceq (c' := up1 c 4 (fun q => if q < 60 then nI (if (sumF (fun j => nn c (100 + x w j) 0 + nn c 3 2) i) ≤ q ∧ q < (sumF (fun j => nn c (100 + x w j) 0 + nn c 3 2) i) + 0 then nn c (120 + x w i) (q - (sumF (fun j => nn c (100 + x w j) 0 + nn c 3 2) i)) else layV (fun j => nn c (100 + x w j) 0) (nn c 3 2) (fun j k => nn c (120 + x w j) k) i q) else c 4 q)) (lay_start c _ (fun z => nn c (120 + x w i) z) _) ?_
    refine z_for 0 ((nn c (100 + x w i) 0)) (Nat.zero_le _) (fun k => [(5, Value.int (nI k)), (4, Value.ref (a (100 + x w i))), (3, Value.int (nI i)), (2, Value.int (nI (sumF (fun j => nn c (100 + x w j) 0 + nn c 3 2) i))), (0, Value.ref (a 3)), (1, Value.ref (a (20 + w)))]) (fun k => up1 c 4 (fun q => if q < 60 then nI (if (sumF (fun j => nn c (100 + x w j) 0 + nn c 3 2) i) ≤ q ∧ q < (sumF (fun j => nn c (100 + x w j) 0 + nn c 3 2) i) + k then nn c (120 + x w i) (q - (sumF (fun j => nn c (100 + x w j) 0 + nn c 3 2) i)) else layV (fun j => nn c (100 + x w j) 0) (nn c 3 2) (fun j k => nn c (120 + x w j) k) i q) else c 4 q)) (fun k => g) ?_ ?_
    · refine z_iload C dX3_lay_31 (q := 0) rfl ?_
      refine z_aload C dX3_lay_33 (q := 1) rfl ?_
      refine zg_X0_width C (k := 100 + x w i) (hL _ (by unfold live; omega)) (kd_l (by omega)) i0 (by decide +kernel) (v := nI (nn c (100 + x w i) 0)) (by rw [up1_k _ _ (by omega)]; exact (CI_wi hI (by omega)).1) dX3_lay_35 ?_
      refine z_icmp_ge C dX3_lay_38 (tgt := 73) (by decide) (fun h38 => ?_) (fun h38 => absurd (Int32.le_refl _) h38)
      refine z_iload_n C dX3_lay_73 rfl (q := 3) rfl ?_
      refine z_aload C dX3_lay_74 (q := 1) rfl ?_
      refine zg_X0_width C (k := 100 + x w i) (hL _ (by unfold live; omega)) (kd_l (by omega)) i0 (by decide +kernel) (v := nI (nn c (100 + x w i) 0)) (by rw [up1_k _ _ (by omega)]; exact (CI_wi hI (by omega)).1) dX3_lay_76 ?_
      refine z_aload_n C dX3_lay_79 rfl (q := 4) rfl ?_
      refine zg_X3_gapWidth C (k := 3) (hL _ (by unfold live; omega)) (by rfl) i3 (by decide +kernel) (v := nI (nn c 3 2)) (by rw [up1_k _ _ (by omega)]; exact (CI_G hI).1) dX3_lay_80 ?_
      refine z_iadd C dX3_lay_83 (v := nI (nn c (100 + x w i) 0 + nn c 3 2)) (nI_add _ _) ?_
      refine z_iadd C dX3_lay_84 (v := nI (sumF (fun j => nn c (100 + x w j) 0 + nn c 3 2) (i + 1))) (nI_add _ _) ?_
      refine z_istore_n C dX3_lay_85 rfl (by decide) (lv' := [(2, Value.int (nI (sumF (fun j => nn c (100 + x w j) 0 + nn c 3 2) (i + 1)))), (5, Value.int (nI (nn c (100 + x w i) 0))), (4, Value.ref (a (100 + x w i))), (3, Value.int (nI i)), (0, Value.ref (a 3)), (1, Value.ref (a (20 + w)))]) rfl ?_
      refine z_iinc C dX3_lay_86 (q := 3) rfl (v := nI (i + 1)) (nI_1 _) (by decide) (lv' := [(3, Value.int (nI (i + 1))), (2, Value.int (nI (sumF (fun j => nn c (100 + x w j) 0 + nn c 3 2) (i + 1)))), (5, Value.int (nI (nn c (100 + x w i) 0))), (4, Value.ref (a (100 + x w i))), (0, Value.ref (a 3)), (1, Value.ref (a (20 + w)))]) rfl ?_
      refine z_goto C dX3_lay_89 (tgt := 12) (by decide) ?_
      refine z_sub [0, 1, 4, 5] (lv' := [(3, Value.int (nI (i + 1))), (2, Value.int (nI (sumF (fun j => nn c (100 + x w j) 0 + nn c 3 2) (i + 1)))), (0, Value.ref (a 3)), (1, Value.ref (a (20 + w)))]) rfl ?_
      exact ihi
    · intro k hlk hk ihk
      refine z_iload C dX3_lay_31 (q := 0) rfl ?_
      refine z_aload C dX3_lay_33 (q := 1) rfl ?_
      refine zg_X0_width C (k := 100 + x w i) (hL _ (by unfold live; omega)) (kd_l (by omega)) i0 (by decide +kernel) (v := nI (nn c (100 + x w i) 0)) (by rw [up1_k _ _ (by omega)]; exact (CI_wi hI (by omega)).1) dX3_lay_35 ?_
      refine z_icmp_ge C dX3_lay_38 (tgt := 73) (by decide) (fun h38 => absurd h38 (nI_ge hk (by omega))) (fun h38 => ?_)
      refine z_iload_n C dX3_lay_41 rfl (q := 3) rfl ?_
      refine z_iload C dX3_lay_42 (q := 0) rfl ?_
      refine z_iadd C dX3_lay_44 (v := nI ((sumF (fun j => nn c (100 + x w j) 0 + nn c 3 2) i) + k)) (nI_add _ _) ?_
      refine z_bipush C dX3_lay_45 (v := nI 60) (by decide) ?_
      refine z_icmp_ge C dX3_lay_47 (tgt := 73) (by decide) (fun h47 => absurd h47 (nI_ge (by omega) (by decide))) (fun h47 => ?_)
      refine z_aload_n C dX3_lay_50 rfl (q := 4) rfl ?_
      refine zg_X3_laid C (k := 3) (hL _ (by unfold live; omega)) (by rfl) i3 (by decide +kernel) (k' := 4) (RC_laid hR) dX3_lay_51 ?_
      refine z_iload_n C dX3_lay_54 rfl (q := 3) rfl ?_
      refine z_iload C dX3_lay_55 (q := 0) rfl ?_
      refine z_iadd C dX3_lay_57 (v := nI ((sumF (fun j => nn c (100 + x w j) 0 + nn c 3 2) i) + k)) (nI_add _ _) ?_
      refine z_aload C dX3_lay_58 (q := 1) rfl ?_
      refine zg_X0_strips C (k := 100 + x w i) (hL _ (by unfold live; omega)) (kd_l (by omega)) i0 (by decide +kernel) (k' := 120 + x w i) (RC_strips hR (by omega)) dX3_lay_60 ?_
      refine z_iload C dX3_lay_63 (q := 0) rfl ?_
      refine z_iaload C (k := 120 + x w i) (hL _ (by unfold live; omega)) (kd_st (by omega)) (j := k) rfl (by rw [ln_st (by omega)]; omega) (by rw [ln_st (by omega)]; decide) (v := nI (nn c (120 + x w i) k)) (by rw [up1_k _ _ (by omega)]; exact (CI_st hI hx (by omega)).1) dX3_lay_65 ?_
      refine z_iastore C (k := 4) (hL _ (by unfold live; omega)) (by rfl) (j := (sumF (fun j => nn c (100 + x w j) 0 + nn c 3 2) i) + k) rfl (show _ < 60 by omega) (by rw [show ln 4 = 60 from rfl]; decide) dX3_lay_66 ?_
      refine z_iinc C dX3_lay_67 (q := 0) rfl (v := nI (k + 1)) (nI_1 _) (by decide) (lv' := [(5, Value.int (nI (k + 1))), (4, Value.ref (a (100 + x w i))), (3, Value.int (nI i)), (2, Value.int (nI (sumF (fun j => nn c (100 + x w j) 0 + nn c 3 2) i))), (0, Value.ref (a 3)), (1, Value.ref (a (20 + w)))]) rfl ?_
      refine z_goto C dX3_lay_70 (tgt := 31) (by decide) ?_
      refine z_ceq (lay_step c _ (fun z => nn c (120 + x w i) z) (sumF (fun j => nn c (100 + x w j) 0 + nn c 3 2) i) k (by omega)).symm ?_
      exact ihk
