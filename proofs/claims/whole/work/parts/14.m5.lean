/-- a sheet agrees with a cut -/
def agC (c : Nat → Nat → Int32) (sh : Nat) (lay : Nat → Nat) (t lk : Nat) : Prop := ∀ i, i < min (nn c 3 1) (nn c (40 + sh) 3) → okI (c (50 + sh) i) (seenV (nn c 3 1) lay t lk i)
noncomputable def inC (c : Nat → Nat → Int32) (sh : Nat) (lay : Nat → Nat) (lk t : Nat) : Nat := sumF (fun z => one (agC c sh lay z lk)) t
noncomputable def outC (c : Nat → Nat → Int32) (sh : Nat) (lay : Nat → Nat) (lk : Nat) : Nat := sumF (fun b => inC c sh lay b (nn c 3 1)) lk
theorem inC_yes {c : Nat → Nat → Int32} {sh : Nat} {lay : Nat → Nat} {lk t : Nat} (h : agC c sh lay t lk) : inC c sh lay lk (t + 1) = inC c sh lay lk t + 1 := by
  unfold inC; rw [sumF, one_pos h]
theorem inC_no {c : Nat → Nat → Int32} {sh : Nat} {lay : Nat → Nat} {lk t : Nat} (h : ¬ agC c sh lay t lk) : inC c sh lay lk (t + 1) = inC c sh lay lk t := by
  unfold inC; rw [sumF, one_neg h, Nat.add_zero]
theorem inC_le (c : Nat → Nat → Int32) (sh : Nat) (lay : Nat → Nat) (lk t : Nat) : inC c sh lay lk t ≤ t := sumF_le1 (fun _ _ => one_le _)
theorem outC_le (c : Nat → Nat → Int32) (sh : Nat) (lay : Nat → Nat) (lk : Nat) : outC c sh lay lk ≤ lk * nn c 3 1 := sumF_le (fun b _ => inC_le c sh lay b _)
theorem outC_succ (c : Nat → Nat → Int32) (sh : Nat) (lay : Nat → Nat) (lk : Nat) : outC c sh lay (lk + 1) = outC c sh lay lk + inC c sh lay lk (nn c 3 1) := rfl

set_option maxHeartbeats 4000000 in
set_option maxRecDepth 100000 in
theorem c_X3_agrees (l : Launch) (D : va_G) (cy : Nat → ClassId) (a : Nat → Nat) (L : List Nat) (c : Nat → Nat → Int32) (g : Nat → Nat → Int64) (r : Nat → Nat → Option Nat) (nl nk : Nat) (hL : zLv L nl nk) (hR : RC r nl nk) (hI : CI c nl nk) (lay : Nat → Nat) (hy : ∀ q, q < 60 → c 4 q = nI (lay q) ∧ lay q ≤ 31) (sh : Nat) (hsh : sh < 4) (lk t : Nat) (hk : lk < 4) (ht : t < nn c 3 1) : zPI l yX3_agrees wsX3_agrees { frames := 2, cells := 0, slots := 0, locals := 48 } D cy a L c g r [Value.ref (a 3), Value.ref (a (40 + sh)), Value.int (nI lk), Value.int (nI t)] (fun v => (v = 1 ∧ (agC c sh lay t lk)) ∨ (v = 0 ∧ ¬ (agC c sh lay t lk))) := by
  refine z_enter cX3_agrees 7 (some .boolean) (by decide) (Nat.le_of_ble_eq_true rfl) ?_
  intro p e s m below meth co C hin
  have C : zC p s m _ meth co D cy _ cX3_agrees 7 (some .boolean) wsX3_agrees RX3 := C
  have i3 : ∀ w ∈ wsX30, w ∈ wsX3_agrees := by decide +kernel
  have i4 : ∀ w ∈ wsX40, w ∈ wsX3_agrees := by decide +kernel
  have hs := (CI_S hI).2
  have hn := (CI_sh hI hsh).2.2.2
  refine z_aload_n C dX3_agrees_0 rfl (q := 0) rfl ?_
  refine zg_X3_slotCount C (k := 3) (hL _ (by unfold live; omega)) (by rfl) i3 (by decide +kernel) (v := nI (nn c 3 1)) (CI_S hI).1 dX3_agrees_1 ?_
  refine z_aload_n C dX3_agrees_4 rfl (q := 1) rfl ?_
  refine zg_X4_size C (k := 40 + sh) (hL _ (by unfold live; omega)) (kd_s (by omega)) i4 (by decide +kernel) (v := nI (nn c (40 + sh) 3)) (CI_sh hI (by omega)).2.2.1 dX3_agrees_5 ?_
  refine z_mmin C (by decide +kernel) (by decide +kernel) (by decide +kernel) (by decide +kernel) (Nat.le_of_ble_eq_true rfl) (Nat.le_of_ble_eq_true rfl) (Nat.zero_le _) (Nat.zero_le _) (v := nI (min (nn c 3 1) (nn c (40 + sh) 3))) (nI_min (by omega) (by omega)) dX3_agrees_8 ?_
  refine z_istore C dX3_agrees_11 (by decide) (lv' := [(4, Value.int (nI (min (nn c 3 1) (nn c (40 + sh) 3)))), (0, Value.ref (a 3)), (1, Value.ref (a (40 + sh))), (2, Value.int (nI lk)), (3, Value.int (nI t))]) rfl ?_
  refine z_iconst C dX3_agrees_13 (v := nI 0) (by decide) ?_
  refine z_istore C dX3_agrees_14 (by decide) (lv' := [(5, Value.int (nI 0)), (4, Value.int (nI (min (nn c 3 1) (nn c (40 + sh) 3)))), (0, Value.ref (a 3)), (1, Value.ref (a (40 + sh))), (2, Value.int (nI lk)), (3, Value.int (nI t))]) rfl ?_
  refine z_forP (fun i => ∀ j, j < i → okI (c (50 + sh) j) (seenV (nn c 3 1) lay t lk j)) 0 ((min (nn c 3 1) (nn c (40 + sh) 3))) (Nat.zero_le _) (fun i => [(5, Value.int (nI i)), (4, Value.int (nI (min (nn c 3 1) (nn c (40 + sh) 3)))), (0, Value.ref (a 3)), (1, Value.ref (a (40 + sh))), (2, Value.int (nI lk)), (3, Value.int (nI t))]) (fun i => c) (fun i => g) ?_ ?_ (fun j h => absurd h (Nat.not_lt_zero j))
  · intro hvi
    refine z_iload C dX3_agrees_16 (q := 0) rfl ?_
    refine z_iload C dX3_agrees_18 (q := 1) rfl ?_
    refine z_icmp_ge C dX3_agrees_20 (tgt := 64) (by decide) (fun h20 => ?_) (fun h20 => absurd (Int32.le_refl _) h20)
    refine z_iconst C dX3_agrees_64 (v := 1) (by decide) ?_
    exact z_zret C rfl (Nat.le_refl _) (Nat.le_refl _) dX3_agrees_65 rfl ⟨rfl, Or.inl ⟨rfl, hvi⟩⟩
  · intro i hli hi hvi ihi
    refine z_iload C dX3_agrees_16 (q := 0) rfl ?_
    refine z_iload C dX3_agrees_18 (q := 1) rfl ?_
    refine z_icmp_ge C dX3_agrees_20 (tgt := 64) (by decide) (fun h20 => absurd h20 (nI_ge hi (by omega))) (fun h20 => ?_)
    refine z_aload_n C dX3_agrees_23 rfl (q := 3) rfl ?_
    refine zg_X4_items C (k := 40 + sh) (hL _ (by unfold live; omega)) (kd_s (by omega)) i4 (by decide +kernel) (k' := 50 + sh) (RC_items hR (by omega)) dX3_agrees_24 ?_
    refine z_iload C dX3_agrees_27 (q := 0) rfl ?_
    refine z_iaload C (k := 50 + sh) (hL _ (by unfold live; omega)) (kd_it (by omega)) (j := i) rfl (by rw [ln_it (by omega)]; omega) (by rw [ln_it (by omega)]; decide) (v := c (50 + sh) i) rfl dX3_agrees_29 ?_
    refine z_istore C dX3_agrees_30 (by decide) (lv' := [(6, Value.int (c (50 + sh) i)), (5, Value.int (nI i)), (4, Value.int (nI (min (nn c 3 1) (nn c (40 + sh) 3)))), (0, Value.ref (a 3)), (1, Value.ref (a (40 + sh))), (2, Value.int (nI lk)), (3, Value.int (nI t))]) rfl ?_
    refine z_iload C dX3_agrees_32 (q := 0) rfl ?_
    refine z_iconst C dX3_agrees_34 (v := 0) (by decide) ?_
    refine z_bipush C dX3_agrees_35 (v := 31) (by decide) ?_
    refine z_pI C (z_runSN C (As := [Value.int (c (50 + sh) i), Value.int 0, Value.int 31]) (rest := []) (c_X7_within l D cy a L c g r (c (50 + sh) i) 0 31 (V := (c (50 + sh) i).toInt) (LO := 0) (HI := 31) rfl (show (0 : Int32).toInt = 0 from by decide) (show (31 : Int32).toInt = 31 from by decide)) ⟨va_cnB 3 C.2.2.2.2.2.1 gX3_agrees_X7_within_n69 rfl rfl rfl C.2.2.2.2.2.2.1.2.1.2.2.2.2.2.2.1 (C.2.2.2.2.2.1 _ (by decide +kernel)) (by decide +kernel) ⟨Nat.le_of_ble_eq_true rfl, Nat.le_of_ble_eq_true rfl⟩, C.2.2.2.2.2.1 _ (by decide +kernel), trivial⟩ rfl rfl (Nat.le_of_ble_eq_true rfl) dX3_agrees_37 ⟨Nat.zero_le _, Nat.zero_le _⟩) (fun v37 e37 => ?_)
    rcases e37 with ⟨rfl, e37⟩ | ⟨rfl, e37⟩
    · refine z_if_eq C dX3_agrees_40 (tgt := 58) (by decide) (fun h40 => absurd h40 (by decide)) (fun h40 => ?_)
      refine z_iload C dX3_agrees_43 (q := 0) rfl ?_
      refine z_aload_n C dX3_agrees_45 rfl (q := 3) rfl ?_
      refine z_iload_n C dX3_agrees_46 rfl (q := 6) rfl ?_
      refine z_iload_n C dX3_agrees_47 rfl (q := 5) rfl ?_
      refine z_iload C dX3_agrees_48 (q := 1) rfl ?_
      refine z_pI C (z_runV C (As := [Value.int (nI t), Value.int (nI lk), Value.int (nI i)]) (rest := [Value.int (c (50 + sh) i)]) (c_X3_seen l D cy a L c g r nl nk hL hR hI lay hy t lk i (by omega) (by omega) (by omega)) (cwV 3 C.2.2.2.2.2.1 gX3_agrees_X3_seen rfl rfl rfl (by decide +kernel) ⟨Nat.le_of_ble_eq_true rfl, Nat.le_of_ble_eq_true rfl⟩) (hL _ (by unfold live; omega)) (zF_k3 (by rfl)) rfl rfl rfl rfl (Nat.le_of_ble_eq_true rfl) dX3_agrees_50 ⟨Nat.zero_le _, Nat.zero_le _⟩) (fun v50 e50 => ?_)
      subst e50
      refine z_icmp_eq C dX3_agrees_53 (tgt := 58) (by decide) (fun h53 => ?_) (fun h53 => ?_)
      · refine z_iinc C dX3_agrees_58 (q := 1) rfl (v := nI (i + 1)) (nI_1 _) (by decide) (lv' := [(5, Value.int (nI (i + 1))), (6, Value.int (c (50 + sh) i)), (4, Value.int (nI (min (nn c 3 1) (nn c (40 + sh) 3)))), (0, Value.ref (a 3)), (1, Value.ref (a (40 + sh))), (2, Value.int (nI lk)), (3, Value.int (nI t))]) rfl ?_
        refine z_goto C dX3_agrees_61 (tgt := 16) (by decide) ?_
        refine z_sub [0, 2, 3, 4, 5, 6] (lv' := [(5, Value.int (nI (i + 1))), (4, Value.int (nI (min (nn c 3 1) (nn c (40 + sh) 3)))), (0, Value.ref (a 3)), (1, Value.ref (a (40 + sh))), (2, Value.int (nI lk)), (3, Value.int (nI t))]) rfl ?_
        exact ihi (lt_s hvi (fun _ => h53))
      · refine z_iconst C dX3_agrees_56 (v := 0) (by decide) ?_
        exact z_zret C rfl (Nat.le_refl _) (Nat.le_refl _) dX3_agrees_57 rfl ⟨rfl, Or.inr ⟨rfl, fun hall => h53 (hall i hi e37)⟩⟩
    · refine z_if_eq C dX3_agrees_40 (tgt := 58) (by decide) (fun h40 => ?_) (fun h40 => absurd h40 (by decide))
      refine z_iinc C dX3_agrees_58 (q := 1) rfl (v := nI (i + 1)) (nI_1 _) (by decide) (lv' := [(5, Value.int (nI (i + 1))), (6, Value.int (c (50 + sh) i)), (4, Value.int (nI (min (nn c 3 1) (nn c (40 + sh) 3)))), (0, Value.ref (a 3)), (1, Value.ref (a (40 + sh))), (2, Value.int (nI lk)), (3, Value.int (nI t))]) rfl ?_
      refine z_goto C dX3_agrees_61 (tgt := 16) (by decide) ?_
      refine z_sub [0, 2, 3, 4, 5, 6] (lv' := [(5, Value.int (nI (i + 1))), (4, Value.int (nI (min (nn c 3 1) (nn c (40 + sh) 3)))), (0, Value.ref (a 3)), (1, Value.ref (a (40 + sh))), (2, Value.int (nI lk)), (3, Value.int (nI t))]) rfl ?_
      exact ihi (lt_s hvi (fun h => absurd h e37))

set_option maxHeartbeats 4000000 in
set_option maxRecDepth 100000 in
theorem c_X3_countReadings (l : Launch) (D : va_G) (cy : Nat → ClassId) (a : Nat → Nat) (L : List Nat) (c : Nat → Nat → Int32) (g : Nat → Nat → Int64) (r : Nat → Nat → Option Nat) (nl nk : Nat) (hL : zLv L nl nk) (hR : RC r nl nk) (hI : CI c nl nk) (lay : Nat → Nat) (hy : ∀ q, q < 60 → c 4 q = nI (lay q) ∧ lay q ≤ 31) (sh : Nat) (hsh : sh < 4) : zPI l yX3_countReadings wsX3_countReadings { frames := 3, cells := 0, slots := 0, locals := 74 } D cy a L c g r [Value.ref (a 3), Value.ref (a (40 + sh))] (fun v => v = nI (outC c sh lay 4)) := by
  refine z_enter cX3_countReadings 5 (some .int) (by decide) (Nat.le_of_ble_eq_true rfl) ?_
  intro p e s m below meth co C hin
  have C : zC p s m _ meth co D cy _ cX3_countReadings 5 (some .int) wsX3_countReadings RX3 := C
  have i3 : ∀ w ∈ wsX30, w ∈ wsX3_countReadings := by decide +kernel
  have hs := (CI_S hI).2
  have hn := (CI_sh hI hsh).2.2.2
  refine z_iconst C dX3_countReadings_0 (v := nI 0) (by decide) ?_
  refine z_istore_n C dX3_countReadings_1 rfl (by decide) (lv' := [(2, Value.int (nI 0)), (0, Value.ref (a 3)), (1, Value.ref (a (40 + sh)))]) rfl ?_
  refine z_iconst C dX3_countReadings_2 (v := nI 0) (by decide) ?_
  refine z_istore_n C dX3_countReadings_3 rfl (by decide) (lv' := [(3, Value.int (nI 0)), (2, Value.int (nI 0)), (0, Value.ref (a 3)), (1, Value.ref (a (40 + sh)))]) rfl ?_
  refine z_for 0 4 (Nat.zero_le _) (fun b => [(3, Value.int (nI b)), (2, Value.int (nI (outC c sh lay b))), (0, Value.ref (a 3)), (1, Value.ref (a (40 + sh)))]) (fun b => c) (fun b => g) ?_ ?_
  · refine z_iload_n C dX3_countReadings_4 rfl (q := 0) rfl ?_
    refine z_iconst C dX3_countReadings_5 (v := nI 4) (by decide) ?_
    refine z_icmp_ge C dX3_countReadings_6 (tgt := 47) (by decide) (fun h6 => ?_) (fun h6 => absurd (Int32.le_refl _) h6)
    refine z_iload_n C dX3_countReadings_47 rfl (q := 1) rfl ?_
    exact z_iret C rfl (Nat.le_refl _) (Nat.le_refl _) dX3_countReadings_48 ⟨rfl, rfl⟩
  · intro b hlb hb ihb
    refine z_iload_n C dX3_countReadings_4 rfl (q := 0) rfl ?_
    refine z_iconst C dX3_countReadings_5 (v := nI 4) (by decide) ?_
    refine z_icmp_ge C dX3_countReadings_6 (tgt := 47) (by decide) (fun h6 => absurd h6 (nI_ge hb (by omega))) (fun h6 => ?_)
    refine z_iconst C dX3_countReadings_9 (v := nI 0) (by decide) ?_
    refine z_istore C dX3_countReadings_10 (by decide) (lv' := [(4, Value.int (nI 0)), (3, Value.int (nI b)), (2, Value.int (nI (outC c sh lay b))), (0, Value.ref (a 3)), (1, Value.ref (a (40 + sh)))]) rfl ?_
    refine z_sub [0, 2, 1, 3, 4] (lv' := [(4, Value.int (nI 0)), (2, Value.int (nI (outC c sh lay b))), (3, Value.int (nI b)), (0, Value.ref (a 3)), (1, Value.ref (a (40 + sh)))]) rfl ?_
    refine z_lveq (lv' := [(4, Value.int (nI 0)), (2, Value.int (nI (outC c sh lay b + inC c sh lay b 0))), (3, Value.int (nI b)), (0, Value.ref (a 3)), (1, Value.ref (a (40 + sh)))]) rfl ?_
    refine z_for 0 ((nn c 3 1)) (Nat.zero_le _) (fun t => [(4, Value.int (nI t)), (2, Value.int (nI (outC c sh lay b + inC c sh lay b t))), (3, Value.int (nI b)), (0, Value.ref (a 3)), (1, Value.ref (a (40 + sh)))]) (fun t => c) (fun t => g) ?_ ?_
    · refine z_iload C dX3_countReadings_12 (q := 0) rfl ?_
      refine z_aload_n C dX3_countReadings_14 rfl (q := 3) rfl ?_
      refine zg_X3_slotCount C (k := 3) (hL _ (by unfold live; omega)) (by rfl) i3 (by decide +kernel) (v := nI (nn c 3 1)) (CI_S hI).1 dX3_countReadings_15 ?_
      refine z_icmp_ge C dX3_countReadings_18 (tgt := 41) (by decide) (fun h18 => ?_) (fun h18 => absurd (Int32.le_refl _) h18)
      refine z_iinc C dX3_countReadings_41 (q := 2) rfl (v := nI (b + 1)) (nI_1 _) (by decide) (lv' := [(3, Value.int (nI (b + 1))), (4, Value.int (nI (nn c 3 1))), (2, Value.int (nI (outC c sh lay b + inC c sh lay b ((nn c 3 1))))), (0, Value.ref (a 3)), (1, Value.ref (a (40 + sh)))]) rfl ?_
      refine z_goto C dX3_countReadings_44 (tgt := 4) (by decide) ?_
      refine z_sub [0, 2, 3, 4] (lv' := [(3, Value.int (nI (b + 1))), (2, Value.int (nI (outC c sh lay b + inC c sh lay b ((nn c 3 1))))), (0, Value.ref (a 3)), (1, Value.ref (a (40 + sh)))]) rfl ?_
      exact ihb
    · intro t hlt ht iht
      refine z_iload C dX3_countReadings_12 (q := 0) rfl ?_
      refine z_aload_n C dX3_countReadings_14 rfl (q := 3) rfl ?_
      refine zg_X3_slotCount C (k := 3) (hL _ (by unfold live; omega)) (by rfl) i3 (by decide +kernel) (v := nI (nn c 3 1)) (CI_S hI).1 dX3_countReadings_15 ?_
      refine z_icmp_ge C dX3_countReadings_18 (tgt := 41) (by decide) (fun h18 => absurd h18 (nI_ge ht (by omega))) (fun h18 => ?_)
      refine z_aload_n C dX3_countReadings_21 rfl (q := 3) rfl ?_
      refine z_aload_n C dX3_countReadings_22 rfl (q := 4) rfl ?_
      refine z_iload_n C dX3_countReadings_23 rfl (q := 2) rfl ?_
      refine z_iload C dX3_countReadings_24 (q := 0) rfl ?_
      refine z_pI C (z_runV C (As := [Value.ref (a (40 + sh)), Value.int (nI b), Value.int (nI t)]) (rest := []) (c_X3_agrees l D cy a L c g r nl nk hL hR hI lay hy sh (by omega) b t (by omega) (by omega)) (cwV 3 C.2.2.2.2.2.1 gX3_countReadings_X3_agrees rfl rfl rfl (by decide +kernel) ⟨Nat.le_of_ble_eq_true rfl, Nat.le_of_ble_eq_true rfl⟩) (hL _ (by unfold live; omega)) (zF_k3 (by rfl)) rfl rfl rfl rfl (Nat.le_of_ble_eq_true rfl) dX3_countReadings_26 ⟨Nat.zero_le _, Nat.zero_le _⟩) (fun v26 e26 => ?_)
      rcases e26 with ⟨rfl, e26⟩ | ⟨rfl, e26⟩
      · refine z_if_eq C dX3_countReadings_29 (tgt := 35) (by decide) (fun h29 => absurd h29 (by decide)) (fun h29 => ?_)
        refine z_iinc C dX3_countReadings_32 (q := 1) rfl (v := nI (outC c sh lay b + inC c sh lay b t + 1)) (nI_1 _) (by decide) (lv' := [(2, Value.int (nI (outC c sh lay b + inC c sh lay b t + 1))), (4, Value.int (nI t)), (3, Value.int (nI b)), (0, Value.ref (a 3)), (1, Value.ref (a (40 + sh)))]) rfl ?_
        refine z_iinc C dX3_countReadings_35 (q := 1) rfl (v := nI (t + 1)) (nI_1 _) (by decide) (lv' := [(4, Value.int (nI (t + 1))), (2, Value.int (nI (outC c sh lay b + inC c sh lay b t + 1))), (3, Value.int (nI b)), (0, Value.ref (a 3)), (1, Value.ref (a (40 + sh)))]) rfl ?_
        refine z_goto C dX3_countReadings_38 (tgt := 12) (by decide) ?_
        rw [inC_yes e26] at iht
        exact iht
      · refine z_if_eq C dX3_countReadings_29 (tgt := 35) (by decide) (fun h29 => ?_) (fun h29 => absurd h29 (by decide))
        refine z_iinc C dX3_countReadings_35 (q := 0) rfl (v := nI (t + 1)) (nI_1 _) (by decide) (lv' := [(4, Value.int (nI (t + 1))), (2, Value.int (nI (outC c sh lay b + inC c sh lay b t))), (3, Value.int (nI b)), (0, Value.ref (a 3)), (1, Value.ref (a (40 + sh)))]) rfl ?_
        refine z_goto C dX3_countReadings_38 (tgt := 12) (by decide) ?_
        rw [inC_no e26] at iht
        exact iht

set_option maxHeartbeats 4000000 in
set_option maxRecDepth 100000 in
theorem c_X3_readingOf (l : Launch) (D : va_G) (cy : Nat → ClassId) (a : Nat → Nat) (L : List Nat) (c : Nat → Nat → Int32) (g : Nat → Nat → Int64) (r : Nat → Nat → Option Nat) (nl nk : Nat) (hL : zLv L nl nk) (hR : RC r nl nk) (hI : CI c nl nk) (lay : Nat → Nat) (hy : ∀ q, q < 60 → c 4 q = nI (lay q) ∧ lay q ≤ 31) (sh : Nat) (hsh : sh < 4) (n : Nat) (hn2 : n < 2 ^ 31) : zPI l yX3_readingOf wsX3_readingOf { frames := 3, cells := 0, slots := 0, locals := 74 } D cy a L c g r [Value.ref (a 3), Value.ref (a (40 + sh)), Value.int (nI n)] (fun v => (∃ b t, b < 4 ∧ t < nn c 3 1 ∧ agC c sh lay t b ∧ outC c sh lay b + inC c sh lay b t = n ∧ v = nI (100 * b + t)) ∨ (v = -1 ∧ outC c sh lay 4 ≤ n)) := by
  refine z_enter cX3_readingOf 6 (some .int) (by decide) (Nat.le_of_ble_eq_true rfl) ?_
  intro p e s m below meth co C hin
  have C : zC p s m _ meth co D cy _ cX3_readingOf 6 (some .int) wsX3_readingOf RX3 := C
  have i3 : ∀ w ∈ wsX30, w ∈ wsX3_readingOf := by decide +kernel
  have hs := (CI_S hI).2
  have hn := (CI_sh hI hsh).2.2.2
  refine z_iconst C dX3_readingOf_0 (v := nI 0) (by decide) ?_
  refine z_istore_n C dX3_readingOf_1 rfl (by decide) (lv' := [(3, Value.int (nI 0)), (0, Value.ref (a 3)), (1, Value.ref (a (40 + sh))), (2, Value.int (nI n))]) rfl ?_
  refine z_iconst C dX3_readingOf_2 (v := nI 0) (by decide) ?_
  refine z_istore C dX3_readingOf_3 (by decide) (lv' := [(4, Value.int (nI 0)), (3, Value.int (nI 0)), (0, Value.ref (a 3)), (1, Value.ref (a (40 + sh))), (2, Value.int (nI n))]) rfl ?_
  refine z_forP (fun b => outC c sh lay b ≤ n) 0 4 (Nat.zero_le _) (fun b => [(4, Value.int (nI b)), (3, Value.int (nI (outC c sh lay b))), (0, Value.ref (a 3)), (1, Value.ref (a (40 + sh))), (2, Value.int (nI n))]) (fun b => c) (fun b => g) ?_ ?_ (Nat.zero_le _)
  · intro hvb
    refine z_iload C dX3_readingOf_5 (q := 0) rfl ?_
    refine z_iconst C dX3_readingOf_7 (v := nI 4) (by decide) ?_
    refine z_icmp_ge C dX3_readingOf_8 (tgt := 64) (by decide) (fun h8 => ?_) (fun h8 => absurd (Int32.le_refl _) h8)
    refine z_iconst C dX3_readingOf_64 (v := -1) (by decide) ?_
    exact z_iret C rfl (Nat.le_refl _) (Nat.le_refl _) dX3_readingOf_65 ⟨rfl, Or.inr ⟨rfl, hvb⟩⟩
  · intro b hlb hb hvb ihb
    have hob := outC_le c sh lay b
    have hm : b * nn c 3 1 ≤ 4 * 60 := Nat.mul_le_mul (by omega) hs.2
    refine z_iload C dX3_readingOf_5 (q := 0) rfl ?_
    refine z_iconst C dX3_readingOf_7 (v := nI 4) (by decide) ?_
    refine z_icmp_ge C dX3_readingOf_8 (tgt := 64) (by decide) (fun h8 => absurd h8 (nI_ge hb (by omega))) (fun h8 => ?_)
    refine z_iconst C dX3_readingOf_11 (v := nI 0) (by decide) ?_
    refine z_istore C dX3_readingOf_12 (by decide) (lv' := [(5, Value.int (nI 0)), (4, Value.int (nI b)), (3, Value.int (nI (outC c sh lay b))), (0, Value.ref (a 3)), (1, Value.ref (a (40 + sh))), (2, Value.int (nI n))]) rfl ?_
    refine z_sub [0, 2, 1, 3, 4, 5] (lv' := [(5, Value.int (nI 0)), (3, Value.int (nI (outC c sh lay b))), (4, Value.int (nI b)), (0, Value.ref (a 3)), (1, Value.ref (a (40 + sh))), (2, Value.int (nI n))]) rfl ?_
    refine z_lveq (lv' := [(5, Value.int (nI 0)), (3, Value.int (nI (outC c sh lay b + inC c sh lay b 0))), (4, Value.int (nI b)), (0, Value.ref (a 3)), (1, Value.ref (a (40 + sh))), (2, Value.int (nI n))]) rfl ?_
    refine z_forP (fun t => outC c sh lay b + inC c sh lay b t ≤ n) 0 ((nn c 3 1)) (Nat.zero_le _) (fun t => [(5, Value.int (nI t)), (3, Value.int (nI (outC c sh lay b + inC c sh lay b t))), (4, Value.int (nI b)), (0, Value.ref (a 3)), (1, Value.ref (a (40 + sh))), (2, Value.int (nI n))]) (fun t => c) (fun t => g) ?_ ?_ (by show outC c sh lay b + 0 ≤ n; omega)
    · intro hvt
      refine z_iload C dX3_readingOf_14 (q := 0) rfl ?_
      refine z_aload_n C dX3_readingOf_16 rfl (q := 3) rfl ?_
      refine zg_X3_slotCount C (k := 3) (hL _ (by unfold live; omega)) (by rfl) i3 (by decide +kernel) (v := nI (nn c 3 1)) (CI_S hI).1 dX3_readingOf_17 ?_
      refine z_icmp_ge C dX3_readingOf_20 (tgt := 58) (by decide) (fun h20 => ?_) (fun h20 => absurd (Int32.le_refl _) h20)
      refine z_iinc C dX3_readingOf_58 (q := 2) rfl (v := nI (b + 1)) (nI_1 _) (by decide) (lv' := [(4, Value.int (nI (b + 1))), (5, Value.int (nI (nn c 3 1))), (3, Value.int (nI (outC c sh lay b + inC c sh lay b ((nn c 3 1))))), (0, Value.ref (a 3)), (1, Value.ref (a (40 + sh))), (2, Value.int (nI n))]) rfl ?_
      refine z_goto C dX3_readingOf_61 (tgt := 5) (by decide) ?_
      refine z_sub [0, 2, 3, 4, 5] (lv' := [(4, Value.int (nI (b + 1))), (3, Value.int (nI (outC c sh lay b + inC c sh lay b ((nn c 3 1))))), (0, Value.ref (a 3)), (1, Value.ref (a (40 + sh))), (2, Value.int (nI n))]) rfl ?_
      exact ihb hvt
    · intro t hlt ht hvt iht
      have hin := inC_le c sh lay b t
      refine z_iload C dX3_readingOf_14 (q := 0) rfl ?_
      refine z_aload_n C dX3_readingOf_16 rfl (q := 3) rfl ?_
      refine zg_X3_slotCount C (k := 3) (hL _ (by unfold live; omega)) (by rfl) i3 (by decide +kernel) (v := nI (nn c 3 1)) (CI_S hI).1 dX3_readingOf_17 ?_
      refine z_icmp_ge C dX3_readingOf_20 (tgt := 58) (by decide) (fun h20 => absurd h20 (nI_ge ht (by omega))) (fun h20 => ?_)
      refine z_aload_n C dX3_readingOf_23 rfl (q := 3) rfl ?_
      refine z_aload_n C dX3_readingOf_24 rfl (q := 4) rfl ?_
      refine z_iload C dX3_readingOf_25 (q := 2) rfl ?_
      refine z_iload C dX3_readingOf_27 (q := 0) rfl ?_
      refine z_pI C (z_runV C (As := [Value.ref (a (40 + sh)), Value.int (nI b), Value.int (nI t)]) (rest := []) (c_X3_agrees l D cy a L c g r nl nk hL hR hI lay hy sh (by omega) b t (by omega) (by omega)) (cwV 3 C.2.2.2.2.2.1 gX3_readingOf_X3_agrees rfl rfl rfl (by decide +kernel) ⟨Nat.le_of_ble_eq_true rfl, Nat.le_of_ble_eq_true rfl⟩) (hL _ (by unfold live; omega)) (zF_k3 (by rfl)) rfl rfl rfl rfl (Nat.le_of_ble_eq_true rfl) dX3_readingOf_29 ⟨Nat.zero_le _, Nat.zero_le _⟩) (fun v29 e29 => ?_)
      rcases e29 with ⟨rfl, e29⟩ | ⟨rfl, e29⟩
      · refine z_if_eq C dX3_readingOf_32 (tgt := 52) (by decide) (fun h32 => absurd h32 (by decide)) (fun h32 => ?_)
        refine z_iload_n C dX3_readingOf_35 rfl (q := 1) rfl ?_
        refine z_iload_n C dX3_readingOf_36 rfl (q := 5) rfl ?_
        refine z_icmp_ne C dX3_readingOf_37 (tgt := 49) (by decide) (fun h37 => ?_) (fun h37 => ?_)
        · have q37 := iv_ne (nI_toInt (by omega)) (nI_toInt (by omega)) h37
          refine z_iinc C dX3_readingOf_49 (q := 1) rfl (v := nI (outC c sh lay b + inC c sh lay b t + 1)) (nI_1 _) (by decide) (lv' := [(3, Value.int (nI (outC c sh lay b + inC c sh lay b t + 1))), (5, Value.int (nI t)), (4, Value.int (nI b)), (0, Value.ref (a 3)), (1, Value.ref (a (40 + sh))), (2, Value.int (nI n))]) rfl ?_
          refine z_iinc C dX3_readingOf_52 (q := 1) rfl (v := nI (t + 1)) (nI_1 _) (by decide) (lv' := [(5, Value.int (nI (t + 1))), (3, Value.int (nI (outC c sh lay b + inC c sh lay b t + 1))), (4, Value.int (nI b)), (0, Value.ref (a 3)), (1, Value.ref (a (40 + sh))), (2, Value.int (nI n))]) rfl ?_
          refine z_goto C dX3_readingOf_55 (tgt := 14) (by decide) ?_
          rw [inC_yes e29] at iht
          exact iht (by omega)
        · have q37 := iv_eq (nI_toInt (by omega)) (nI_toInt (by omega)) h37
          refine z_bipush C dX3_readingOf_40 (v := 100) (by decide) ?_
          refine z_iload C dX3_readingOf_42 (q := 2) rfl ?_
          refine z_imul C dX3_readingOf_44 (v := nI (100 * b)) (pk_mul 100 b) ?_
          refine z_iload C dX3_readingOf_45 (q := 0) rfl ?_
          refine z_iadd C dX3_readingOf_47 (v := nI ((100 * b) + t)) (nI_add (100 * b) t) ?_
          exact z_iret C rfl (Nat.le_refl _) (Nat.le_refl _) dX3_readingOf_48 ⟨rfl, Or.inl ⟨b, t, hb, ht, e29, by omega, rfl⟩⟩
      · refine z_if_eq C dX3_readingOf_32 (tgt := 52) (by decide) (fun h32 => ?_) (fun h32 => absurd h32 (by decide))
        refine z_iinc C dX3_readingOf_52 (q := 0) rfl (v := nI (t + 1)) (nI_1 _) (by decide) (lv' := [(5, Value.int (nI (t + 1))), (3, Value.int (nI (outC c sh lay b + inC c sh lay b t))), (4, Value.int (nI b)), (0, Value.ref (a 3)), (1, Value.ref (a (40 + sh))), (2, Value.int (nI n))]) rfl ?_
        refine z_goto C dX3_readingOf_55 (tgt := 14) (by decide) ?_
        rw [inC_no e29] at iht
        exact iht hvt

set_option maxHeartbeats 4000000 in
set_option maxRecDepth 100000 in
theorem c_X2_lumpOfStick (l : Launch) (D : va_G) (cy : Nat → ClassId) (a : Nat → Nat) (L : List Nat) (c : Nat → Nat → Int32) (g : Nat → Nat → Int64) (r : Nat → Nat → Option Nat) (nl nk : Nat) (hL : zLv L nl nk) (hR : RC r nl nk) (hI : CI c nl nk) (stick : Int32) : zPI l yX2_lumpOfStick wsX2_lumpOfStick { frames := 1, cells := 0, slots := 0, locals := 21 } D cy a L c g r [Value.ref (a 6), Value.int stick] (fun v => (∃ k, k < nk ∧ v = nI k ∧ ((nn c (200 + k) 3 : Int) ≤ stick.toInt ∧ stick.toInt < (nn c (200 + k) 3 : Int) + nn c (200 + k) 4) ∧ ∀ j, j < k → ¬ ((nn c (200 + j) 3 : Int) ≤ stick.toInt ∧ stick.toInt < (nn c (200 + j) 3 : Int) + nn c (200 + j) 4)) ∨ (v = -1 ∧ ∀ j, j < nk → ¬ ((nn c (200 + j) 3 : Int) ≤ stick.toInt ∧ stick.toInt < (nn c (200 + j) 3 : Int) + nn c (200 + j) 4))) := by
  refine z_enter cX2_lumpOfStick 3 (some .int) (by decide) (Nat.le_of_ble_eq_true rfl) ?_
  intro p e s m below meth co C hin
  have C : zC p s m _ meth co D cy _ cX2_lumpOfStick 3 (some .int) wsX2_lumpOfStick RX2 := C
  have i2 : ∀ w ∈ wsX20, w ∈ wsX2_lumpOfStick := by decide +kernel
  have h40 := CI_nk40 hI
  refine z_iconst C dX2_lumpOfStick_0 (v := nI 0) (by decide) ?_
  refine z_istore_n C dX2_lumpOfStick_1 rfl (by decide) (lv' := [(2, Value.int (nI 0)), (0, Value.ref (a 6)), (1, Value.int stick)]) rfl ?_
  refine z_forP (fun i => ∀ j, j < i → ¬ ((nn c (200 + j) 3 : Int) ≤ stick.toInt ∧ stick.toInt < (nn c (200 + j) 3 : Int) + nn c (200 + j) 4)) 0 nk (Nat.zero_le _) (fun i => [(2, Value.int (nI i)), (0, Value.ref (a 6)), (1, Value.int stick)]) (fun i => c) (fun i => g) ?_ ?_ (fun j h => absurd h (Nat.not_lt_zero j))
  · intro hvi
    refine z_iload_n C dX2_lumpOfStick_2 rfl (q := 0) rfl ?_
    refine z_aload_n C dX2_lumpOfStick_3 rfl (q := 1) rfl ?_
    refine zg_X2_size C (k := 6) (hL _ (by unfold live; omega)) (by rfl) i2 (by decide +kernel) (v := nI nk) (CI_nk hI) dX2_lumpOfStick_4 ?_
    refine z_icmp_ge C dX2_lumpOfStick_7 (tgt := 31) (by decide) (fun h7 => ?_) (fun h7 => absurd (Int32.le_refl _) h7)
    refine z_iconst C dX2_lumpOfStick_31 (v := -1) (by decide) ?_
    exact z_iret C rfl (Nat.le_refl _) (Nat.le_refl _) dX2_lumpOfStick_32 ⟨rfl, Or.inr ⟨rfl, hvi⟩⟩
  · intro i hli hi hvi ihi
    refine z_iload_n C dX2_lumpOfStick_2 rfl (q := 0) rfl ?_
    refine z_aload_n C dX2_lumpOfStick_3 rfl (q := 1) rfl ?_
    refine zg_X2_size C (k := 6) (hL _ (by unfold live; omega)) (by rfl) i2 (by decide +kernel) (v := nI nk) (CI_nk hI) dX2_lumpOfStick_4 ?_
    refine z_icmp_ge C dX2_lumpOfStick_7 (tgt := 31) (by decide) (fun h7 => absurd h7 (nI_ge hi (by omega))) (fun h7 => ?_)
    refine z_aload_n C dX2_lumpOfStick_10 rfl (q := 1) rfl ?_
    refine zg_X2_lumps C (k := 6) (hL _ (by unfold live; omega)) (by rfl) i2 (by decide +kernel) (k' := 7) (RC_lumps hR) dX2_lumpOfStick_11 ?_
    refine z_iload_n C dX2_lumpOfStick_14 rfl (q := 0) rfl ?_
    refine z_aaload C (k := 7) (hL _ (by unfold live; omega)) (by rfl) (by decide) (j := i) rfl (by rw [show ln 7 = 40 from rfl]; omega) (by rw [show ln 7 = 40 from rfl]; decide) (v := .ref (a (200 + i))) (by rw [RC_lump hR (by omega)]; rfl) dX2_lumpOfStick_15 ?_
    refine z_iload_n C dX2_lumpOfStick_16 rfl (q := 2) rfl ?_
    refine z_pI C (z_runV C (As := [Value.int stick]) (rest := []) (c_X1_gave l D cy a L c g r nl nk hL hR hI i (by omega) stick) (cwV 1 C.2.2.2.2.2.1 gX2_lumpOfStick_X1_gave rfl rfl rfl (by decide +kernel) ⟨Nat.le_of_ble_eq_true rfl, Nat.le_of_ble_eq_true rfl⟩) (hL _ (by unfold live; omega)) (zF_k1 (kd_k (by omega))) rfl rfl rfl rfl (Nat.le_of_ble_eq_true rfl) dX2_lumpOfStick_17 ⟨Nat.zero_le _, Nat.zero_le _⟩) (fun v17 e17 => ?_)
    rcases e17 with ⟨rfl, e17⟩ | ⟨rfl, e17⟩
    · refine z_if_eq C dX2_lumpOfStick_20 (tgt := 25) (by decide) (fun h20 => absurd h20 (by decide)) (fun h20 => ?_)
      refine z_iload_n C dX2_lumpOfStick_23 rfl (q := 0) rfl ?_
      exact z_iret C rfl (Nat.le_refl _) (Nat.le_refl _) dX2_lumpOfStick_24 ⟨rfl, Or.inl ⟨i, hi, rfl, e17, hvi⟩⟩
    · refine z_if_eq C dX2_lumpOfStick_20 (tgt := 25) (by decide) (fun h20 => ?_) (fun h20 => absurd h20 (by decide))
      refine z_iinc C dX2_lumpOfStick_25 (q := 0) rfl (v := nI (i + 1)) (nI_1 _) (by decide) (lv' := [(2, Value.int (nI (i + 1))), (0, Value.ref (a 6)), (1, Value.int stick)]) rfl ?_
      refine z_goto C dX2_lumpOfStick_28 (tgt := 2) (by decide) ?_
      exact ihi (lt_s hvi e17)

def recC (c : Nat → Nat → Int32) (hand fr to : Int32) (k : Nat) : Nat := if (hand.toInt = -1 ∨ hand.toInt = (nn c (200 + k) 1 : Int)) ∧ fr.toInt ≤ (nn c (200 + k) 2 : Int) ∧ (nn c (200 + k) 2 : Int) ≤ to.toInt then nn c (200 + k) 4 else 0

set_option maxHeartbeats 4000000 in
set_option maxRecDepth 100000 in
theorem c_X2_countSticks (l : Launch) (D : va_G) (cy : Nat → ClassId) (a : Nat → Nat) (L : List Nat) (c : Nat → Nat → Int32) (g : Nat → Nat → Int64) (r : Nat → Nat → Option Nat) (nl nk : Nat) (hL : zLv L nl nk) (hR : RC r nl nk) (hI : CI c nl nk) (hand fr to : Int32) : zPI l yX2_countSticks wsX2_countSticks { frames := 2, cells := 0, slots := 0, locals := 45 } D cy a L c g r [Value.ref (a 6), Value.int hand, Value.int fr, Value.int to] (fun v => v = nI (sumF (recC c hand fr to) nk)) := by
  refine z_enter cX2_countSticks 6 (some .int) (by decide) (Nat.le_of_ble_eq_true rfl) ?_
  intro p e s m below meth co C hin
  have C : zC p s m _ meth co D cy _ cX2_countSticks 6 (some .int) wsX2_countSticks RX2 := C
  have i1 : ∀ w ∈ wsX10, w ∈ wsX2_countSticks := by decide +kernel
  have i2 : ∀ w ∈ wsX20, w ∈ wsX2_countSticks := by decide +kernel
  have h40 := CI_nk40 hI
  refine z_iconst C dX2_countSticks_0 (v := nI 0) (by decide) ?_
  refine z_istore C dX2_countSticks_1 (by decide) (lv' := [(4, Value.int (nI 0)), (0, Value.ref (a 6)), (1, Value.int hand), (2, Value.int fr), (3, Value.int to)]) rfl ?_
  refine z_iconst C dX2_countSticks_3 (v := nI 0) (by decide) ?_
  refine z_istore C dX2_countSticks_4 (by decide) (lv' := [(5, Value.int (nI 0)), (4, Value.int (nI 0)), (0, Value.ref (a 6)), (1, Value.int hand), (2, Value.int fr), (3, Value.int to)]) rfl ?_
  refine z_for 0 nk (Nat.zero_le _) (fun i => [(5, Value.int (nI i)), (4, Value.int (nI (sumF (recC c hand fr to) i))), (0, Value.ref (a 6)), (1, Value.int hand), (2, Value.int fr), (3, Value.int to)]) (fun i => c) (fun i => g) ?_ ?_
  · refine z_iload C dX2_countSticks_6 (q := 0) rfl ?_
    refine z_aload_n C dX2_countSticks_8 rfl (q := 2) rfl ?_
    refine zg_X2_size C (k := 6) (hL _ (by unfold live; omega)) (by rfl) i2 (by decide +kernel) (v := nI nk) (CI_nk hI) dX2_countSticks_9 ?_
    refine z_icmp_ge C dX2_countSticks_12 (tgt := 52) (by decide) (fun h12 => ?_) (fun h12 => absurd (Int32.le_refl _) h12)
    refine z_iload C dX2_countSticks_52 (q := 1) rfl ?_
    exact z_iret C rfl (Nat.le_refl _) (Nat.le_refl _) dX2_countSticks_54 ⟨rfl, rfl⟩
  · intro i hli hi ihi
    refine z_iload C dX2_countSticks_6 (q := 0) rfl ?_
    refine z_aload_n C dX2_countSticks_8 rfl (q := 2) rfl ?_
    refine zg_X2_size C (k := 6) (hL _ (by unfold live; omega)) (by rfl) i2 (by decide +kernel) (v := nI nk) (CI_nk hI) dX2_countSticks_9 ?_
    refine z_icmp_ge C dX2_countSticks_12 (tgt := 52) (by decide) (fun h12 => absurd h12 (nI_ge hi (by omega))) (fun h12 => ?_)
    refine z_aload_n C dX2_countSticks_15 rfl (q := 2) rfl ?_
    refine zg_X2_lumps C (k := 6) (hL _ (by unfold live; omega)) (by rfl) i2 (by decide +kernel) (k' := 7) (RC_lumps hR) dX2_countSticks_16 ?_
    refine z_iload C dX2_countSticks_19 (q := 0) rfl ?_
    refine z_aaload C (k := 7) (hL _ (by unfold live; omega)) (by rfl) (by decide) (j := i) rfl (by rw [show ln 7 = 40 from rfl]; omega) (by rw [show ln 7 = 40 from rfl]; decide) (v := .ref (a (200 + i))) (by rw [RC_lump hR (by omega)]; rfl) dX2_countSticks_21 ?_
    refine z_iload_n C dX2_countSticks_22 rfl (q := 3) rfl ?_
    refine z_iload_n C dX2_countSticks_23 rfl (q := 4) rfl ?_
    refine z_iload_n C dX2_countSticks_24 rfl (q := 5) rfl ?_
    refine z_pI C (z_runV C (As := [Value.int hand, Value.int fr, Value.int to]) (rest := []) (c_X1_isRecalled l D cy a L c g r nl nk hL hR hI i (by omega) hand fr to) (cwV 3 C.2.2.2.2.2.1 gX2_countSticks_X1_isRecalled rfl rfl rfl (by decide +kernel) ⟨Nat.le_of_ble_eq_true rfl, Nat.le_of_ble_eq_true rfl⟩) (hL _ (by unfold live; omega)) (zF_k1 (kd_k (by omega))) rfl rfl rfl rfl (Nat.le_of_ble_eq_true rfl) dX2_countSticks_25 ⟨Nat.zero_le _, Nat.zero_le _⟩) (fun v25 e25 => ?_)
    rcases e25 with ⟨rfl, e25⟩ | ⟨rfl, e25⟩
    · refine z_if_eq C dX2_countSticks_28 (tgt := 46) (by decide) (fun h28 => absurd h28 (by decide)) (fun h28 => ?_)
      refine z_iload C dX2_countSticks_31 (q := 1) rfl ?_
      refine z_aload_n C dX2_countSticks_33 rfl (q := 2) rfl ?_
      refine zg_X2_lumps C (k := 6) (hL _ (by unfold live; omega)) (by rfl) i2 (by decide +kernel) (k' := 7) (RC_lumps hR) dX2_countSticks_34 ?_
      refine z_iload C dX2_countSticks_37 (q := 0) rfl ?_
      refine z_aaload C (k := 7) (hL _ (by unfold live; omega)) (by rfl) (by decide) (j := i) rfl (by rw [show ln 7 = 40 from rfl]; omega) (by rw [show ln 7 = 40 from rfl]; decide) (v := .ref (a (200 + i))) (by rw [RC_lump hR (by omega)]; rfl) dX2_countSticks_39 ?_
      refine zg_X1_sticks C (k := 200 + i) (hL _ (by unfold live; omega)) (kd_k (by omega)) i1 (by decide +kernel) (v := nI (nn c (200 + i) 4)) (CI_lump hI (by omega)).2.2.2.2.1.1 dX2_countSticks_40 ?_
      refine z_iadd C dX2_countSticks_43 (v := nI ((sumF (recC c hand fr to) i) + (nn c (200 + i) 4))) (nI_add (sumF (recC c hand fr to) i) (nn c (200 + i) 4)) ?_
      refine z_istore C dX2_countSticks_44 (by decide) (lv' := [(4, Value.int (nI ((sumF (recC c hand fr to) i) + (nn c (200 + i) 4)))), (5, Value.int (nI i)), (0, Value.ref (a 6)), (1, Value.int hand), (2, Value.int fr), (3, Value.int to)]) rfl ?_
      refine z_iinc C dX2_countSticks_46 (q := 1) rfl (v := nI (i + 1)) (nI_1 _) (by decide) (lv' := [(5, Value.int (nI (i + 1))), (4, Value.int (nI ((sumF (recC c hand fr to) i) + (nn c (200 + i) 4)))), (0, Value.ref (a 6)), (1, Value.int hand), (2, Value.int fr), (3, Value.int to)]) rfl ?_
      refine z_goto C dX2_countSticks_49 (tgt := 6) (by decide) ?_
      rw [show sumF (recC c hand fr to) (i + 1) = sumF (recC c hand fr to) i + nn c (200 + i) 4 from by rw [sumF, recC, if_pos e25]] at ihi
      exact ihi
    · refine z_if_eq C dX2_countSticks_28 (tgt := 46) (by decide) (fun h28 => ?_) (fun h28 => absurd h28 (by decide))
      refine z_iinc C dX2_countSticks_46 (q := 0) rfl (v := nI (i + 1)) (nI_1 _) (by decide) (lv' := [(5, Value.int (nI (i + 1))), (4, Value.int (nI (sumF (recC c hand fr to) i))), (0, Value.ref (a 6)), (1, Value.int hand), (2, Value.int fr), (3, Value.int to)]) rfl ?_
      refine z_goto C dX2_countSticks_49 (tgt := 6) (by decide) ?_
      rw [show sumF (recC c hand fr to) (i + 1) = sumF (recC c hand fr to) i from by rw [sumF, recC, if_neg e25, Nat.add_zero]] at ihi
      exact ihi
