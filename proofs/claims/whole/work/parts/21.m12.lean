def madeC (c : Nat → Nat → Int32) (nk : Nat) (lump what : Int32) : Int32 := if (0 ≤ lump.toInt ∧ lump.toInt < (nk : Int)) ∧ 0 ≤ what.toInt ∧ what.toInt ≤ 5 then c (200 + tn lump) (tn what) else -2

set_option maxHeartbeats 4000000 in
set_option maxRecDepth 100000 in
theorem c_X7_made (l : Launch) (D : va_G) (cy : Nat → ClassId) (a : Nat → Nat) (L : List Nat) (c : Nat → Nat → Int32) (g : Nat → Nat → Int64) (r : Nat → Nat → Option Nat) (nl nk : Nat) (hL : zLv L nl nk) (hR : RC r nl nk) (hI : CI c nl nk) (lump what : Int32) : zPI l yX7_made wsX7_made { frames := 2, cells := 0, slots := 0, locals := 43 } D cy a L c g r [Value.ref (a 0), Value.int lump, Value.int what] (fun v => v = madeC c nk lump what) := by
  refine z_enter cX7_made 4 (some .int) (by decide) (Nat.le_of_ble_eq_true rfl) ?_
  intro p e s m below meth co C hin
  have C : zC p s m _ meth co D cy _ cX7_made 4 (some .int) wsX7_made RX7 := C
  have i1 : ∀ w ∈ wsX10, w ∈ wsX7_made := by decide +kernel
  have i7 : ∀ w ∈ wsX70, w ∈ wsX7_made := by decide +kernel
  have h40 := CI_nk40 hI
  refine z_aload_n C dX7_made_0 rfl (q := 0) rfl ?_
  refine zg_X7_lumpBook C (k := 0) (hL _ (by unfold live; omega)) (by rfl) i7 (by decide +kernel) (k' := 6) (RC_lumpBook hR) dX7_made_1 ?_
  refine z_iload_n C dX7_made_4 rfl (q := 1) rfl ?_
  refine z_pQ C (z_runV C (As := [Value.int lump]) (rest := []) (c_X2_lumpAt l D cy a L c g r nl nk hL hR hI lump) (cwV 1 C.2.2.2.2.2.1 gX7_made_X2_lumpAt rfl rfl rfl (by decide +kernel) ⟨Nat.le_of_ble_eq_true rfl, Nat.le_of_ble_eq_true rfl⟩) (hL _ (by unfold live; omega)) (zF_k2 (by rfl)) rfl rfl rfl rfl (Nat.le_of_ble_eq_true rfl) dX7_made_5 ⟨Nat.zero_le _, Nat.zero_le _⟩) (fun v5 e5 => ?_)
  rcases e5 with ⟨k, hk, rfl, rfl⟩ | ⟨rfl, e5⟩
  · have tk := nI_toInt (n := k) (by omega)
    refine z_astore_n C dX7_made_8 rfl (by decide) (lv' := [(3, Value.ref (a (200 + k))), (0, Value.ref (a 0)), (1, Value.int (nI k)), (2, Value.int what)]) rfl ?_
    refine z_aload_n C dX7_made_9 rfl (q := 0) rfl ?_
    refine z_ifnonnull C dX7_made_10 (tgt := 16) (by decide) ?_
    refine z_iload_n C dX7_made_16 rfl (q := 3) rfl ?_
    by_cases hs0 : what.toInt = 0
    · refine z_tableIn C dX7_made_17 (off := 39) (tgt := 56) (by omega) (by omega) (by rw [hs0]; rfl) (by decide) ?_
      refine z_aload_n C dX7_made_56 rfl (q := 0) rfl ?_
      refine zg_X1_word C (k := 200 + k) (hL _ (by unfold live; omega)) (kd_k (by omega)) i1 (by decide +kernel) (v := nI (nn c (200 + k) 0)) (CI_lump hI (by omega)).1.1 dX7_made_57 ?_
      exact z_iret C rfl (Nat.le_refl _) (Nat.le_refl _) dX7_made_60 ⟨rfl, by rw [madeC, if_pos (by omega), tn_nI (j := k) (by omega), show tn what = 0 from by unfold tn; omega]; exact (CI_lump hI hk).1.1.symm⟩
    · skip
      by_cases hs1 : what.toInt = 1
      · refine z_tableIn C dX7_made_17 (off := 44) (tgt := 61) (by omega) (by omega) (by rw [hs1]; rfl) (by decide) ?_
        refine z_aload_n C dX7_made_61 rfl (q := 0) rfl ?_
        refine zg_X1_hand C (k := 200 + k) (hL _ (by unfold live; omega)) (kd_k (by omega)) i1 (by decide +kernel) (v := nI (nn c (200 + k) 1)) (CI_lump hI (by omega)).2.1.1 dX7_made_62 ?_
        exact z_iret C rfl (Nat.le_refl _) (Nat.le_refl _) dX7_made_65 ⟨rfl, by rw [madeC, if_pos (by omega), tn_nI (j := k) (by omega), show tn what = 1 from by unfold tn; omega]; exact (CI_lump hI hk).2.1.1.symm⟩
      · skip
        by_cases hs2 : what.toInt = 2
        · refine z_tableIn C dX7_made_17 (off := 49) (tgt := 66) (by omega) (by omega) (by rw [hs2]; rfl) (by decide) ?_
          refine z_aload_n C dX7_made_66 rfl (q := 0) rfl ?_
          refine zg_X1_day C (k := 200 + k) (hL _ (by unfold live; omega)) (kd_k (by omega)) i1 (by decide +kernel) (v := nI (nn c (200 + k) 2)) (CI_lump hI (by omega)).2.2.1.1 dX7_made_67 ?_
          exact z_iret C rfl (Nat.le_refl _) (Nat.le_refl _) dX7_made_70 ⟨rfl, by rw [madeC, if_pos (by omega), tn_nI (j := k) (by omega), show tn what = 2 from by unfold tn; omega]; exact (CI_lump hI hk).2.2.1.1.symm⟩
        · skip
          by_cases hs3 : what.toInt = 3
          · refine z_tableIn C dX7_made_17 (off := 54) (tgt := 71) (by omega) (by omega) (by rw [hs3]; rfl) (by decide) ?_
            refine z_aload_n C dX7_made_71 rfl (q := 0) rfl ?_
            refine zg_X1_firstStick C (k := 200 + k) (hL _ (by unfold live; omega)) (kd_k (by omega)) i1 (by decide +kernel) (v := nI (nn c (200 + k) 3)) (CI_lump hI (by omega)).2.2.2.1.1 dX7_made_72 ?_
            exact z_iret C rfl (Nat.le_refl _) (Nat.le_refl _) dX7_made_75 ⟨rfl, by rw [madeC, if_pos (by omega), tn_nI (j := k) (by omega), show tn what = 3 from by unfold tn; omega]; exact (CI_lump hI hk).2.2.2.1.1.symm⟩
          · skip
            by_cases hs4 : what.toInt = 4
            · refine z_tableIn C dX7_made_17 (off := 59) (tgt := 76) (by omega) (by omega) (by rw [hs4]; rfl) (by decide) ?_
              refine z_aload_n C dX7_made_76 rfl (q := 0) rfl ?_
              refine zg_X1_sticks C (k := 200 + k) (hL _ (by unfold live; omega)) (kd_k (by omega)) i1 (by decide +kernel) (v := nI (nn c (200 + k) 4)) (CI_lump hI (by omega)).2.2.2.2.1.1 dX7_made_77 ?_
              exact z_iret C rfl (Nat.le_refl _) (Nat.le_refl _) dX7_made_80 ⟨rfl, by rw [madeC, if_pos (by omega), tn_nI (j := k) (by omega), show tn what = 4 from by unfold tn; omega]; exact (CI_lump hI hk).2.2.2.2.1.1.symm⟩
            · skip
              by_cases hs5 : what.toInt = 5
              · refine z_tableIn C dX7_made_17 (off := 64) (tgt := 81) (by omega) (by omega) (by rw [hs5]; rfl) (by decide) ?_
                refine z_aload_n C dX7_made_81 rfl (q := 0) rfl ?_
                refine zg_X1_scrap C (k := 200 + k) (hL _ (by unfold live; omega)) (kd_k (by omega)) i1 (by decide +kernel) (v := nI (nn c (200 + k) 5)) (CI_lump hI (by omega)).2.2.2.2.2.1 dX7_made_82 ?_
                exact z_iret C rfl (Nat.le_refl _) (Nat.le_refl _) dX7_made_85 ⟨rfl, by rw [madeC, if_pos (by omega), tn_nI (j := k) (by omega), show tn what = 5 from by unfold tn; omega]; exact (CI_lump hI hk).2.2.2.2.2.1.symm⟩
              · skip
                refine z_tableOut C dX7_made_17 (by omega) (tgt := 86) (by decide) ?_
                refine z_bipush C dX7_made_86 (v := -2) (by decide) ?_
                exact z_iret C rfl (Nat.le_refl _) (Nat.le_refl _) dX7_made_88 ⟨rfl, by rw [madeC, if_neg (by omega)]⟩
  · refine z_astore_nN C dX7_made_8 rfl (by decide) (lv' := [(3, Value.null), (0, Value.ref (a 0)), (1, Value.int lump), (2, Value.int what)]) rfl ?_
    refine z_aload_nN C dX7_made_9 rfl (q := 0) rfl ?_
    refine z_ifnonnullN C dX7_made_10 ?_
    refine z_bipush C dX7_made_13 (v := -2) (by decide) ?_
    exact z_iret C rfl (Nat.le_refl _) (Nat.le_refl _) dX7_made_15 ⟨rfl, by rw [madeC, if_neg (by omega)]⟩

theorem m1_nI {k : Nat} (h : k < 2 ^ 31) : ¬ (-1 : Int32) = nI k := by
  intro e
  have := congrArg Int32.toInt e
  rw [nI_toInt h, show (-1 : Int32).toInt = -1 from by decide] at this
  omega

set_option maxHeartbeats 4000000 in
set_option maxRecDepth 100000 in
theorem c_X7_trace (l : Launch) (D : va_G) (cy : Nat → ClassId) (a : Nat → Nat) (L : List Nat) (c : Nat → Nat → Int32) (g : Nat → Nat → Int64) (r : Nat → Nat → Option Nat) (nl nk : Nat) (hL : zLv L nl nk) (hR : RC r nl nk) (hI : CI c nl nk) (stick : Int32) : zPI l yX7_trace wsX7_trace { frames := 2, cells := 0, slots := 0, locals := 43 } D cy a L c g r [Value.ref (a 0), Value.int stick] (fun v => (∃ k, k < nk ∧ v = nI k ∧ ((nn c (200 + k) 3 : Int) ≤ stick.toInt ∧ stick.toInt < (nn c (200 + k) 3 : Int) + nn c (200 + k) 4) ∧ ∀ j, j < k → ¬ ((nn c (200 + j) 3 : Int) ≤ stick.toInt ∧ stick.toInt < (nn c (200 + j) 3 : Int) + nn c (200 + j) 4)) ∨ (v = -2 ∧ ∀ j, j < nk → ¬ ((nn c (200 + j) 3 : Int) ≤ stick.toInt ∧ stick.toInt < (nn c (200 + j) 3 : Int) + nn c (200 + j) 4))) := by
  refine z_enter cX7_trace 3 (some .int) (by decide) (Nat.le_of_ble_eq_true rfl) ?_
  intro p e s m below meth co C hin
  have C : zC p s m _ meth co D cy _ cX7_trace 3 (some .int) wsX7_trace RX7 := C
  have i7 : ∀ w ∈ wsX70, w ∈ wsX7_trace := by decide +kernel
  have h40 := CI_nk40 hI
  refine z_aload_n C dX7_trace_0 rfl (q := 0) rfl ?_
  refine zg_X7_lumpBook C (k := 0) (hL _ (by unfold live; omega)) (by rfl) i7 (by decide +kernel) (k' := 6) (RC_lumpBook hR) dX7_trace_1 ?_
  refine z_iload_n C dX7_trace_4 rfl (q := 1) rfl ?_
  refine z_pI C (z_runV C (As := [Value.int stick]) (rest := []) (c_X2_lumpOfStick l D cy a L c g r nl nk hL hR hI stick) (cwV 1 C.2.2.2.2.2.1 gX7_trace_X2_lumpOfStick rfl rfl rfl (by decide +kernel) ⟨Nat.le_of_ble_eq_true rfl, Nat.le_of_ble_eq_true rfl⟩) (hL _ (by unfold live; omega)) (zF_k2 (by rfl)) rfl rfl rfl rfl (Nat.le_of_ble_eq_true rfl) dX7_trace_5 ⟨Nat.zero_le _, Nat.zero_le _⟩) (fun v5 e5 => ?_)
  refine z_istore_n C dX7_trace_8 rfl (by decide) (lv' := [(2, Value.int v5), (0, Value.ref (a 0)), (1, Value.int stick)]) rfl ?_
  refine z_iload_n C dX7_trace_9 rfl (q := 0) rfl ?_
  refine z_iconst C dX7_trace_10 (v := -1) (by decide) ?_
  refine z_icmp_ne C dX7_trace_11 (tgt := 19) (by decide) (fun h11 => ?_) (fun h11 => ?_)
  · refine z_iload_n C dX7_trace_19 rfl (q := 0) rfl ?_
    exact z_iret C rfl (Nat.le_refl _) (Nat.le_refl _) dX7_trace_20 ⟨rfl, by rcases e5 with h | ⟨h1, h2⟩; exact Or.inl h; exact absurd h1 h11⟩
  · refine z_bipush C dX7_trace_14 (v := -2) (by decide) ?_
    refine z_goto C dX7_trace_16 (tgt := 20) (by decide) ?_
    exact z_iret C rfl (Nat.le_refl _) (Nat.le_refl _) dX7_trace_20 ⟨rfl, by rcases e5 with ⟨k, hk, h1, h2⟩ | ⟨h1, h2⟩; exact absurd (h11.symm.trans h1) (m1_nI (by omega)); exact Or.inr ⟨rfl, h2⟩⟩

set_option maxHeartbeats 4000000 in
set_option maxRecDepth 100000 in
theorem c_X7_recall (l : Launch) (D : va_G) (cy : Nat → ClassId) (a : Nat → Nat) (L : List Nat) (c : Nat → Nat → Int32) (g : Nat → Nat → Int64) (r : Nat → Nat → Option Nat) (nl nk : Nat) (hL : zLv L nl nk) (hR : RC r nl nk) (hI : CI c nl nk) (hand fr to : Int32) : zPI l yX7_recall wsX7_recall { frames := 3, cells := 0, slots := 0, locals := 70 } D cy a L c g r [Value.ref (a 0), Value.int hand, Value.int fr, Value.int to] (fun v => v = if (-1 ≤ hand.toInt ∧ hand.toInt ≤ 9) ∧ 0 ≤ fr.toInt ∧ fr.toInt ≤ to.toInt ∧ to.toInt ≤ 999 then nI (sumF (recC c hand fr to) nk) else -2) := by
  refine z_enter cX7_recall 4 (some .int) (by decide) (Nat.le_of_ble_eq_true rfl) ?_
  intro p e s m below meth co C hin
  have C : zC p s m _ meth co D cy _ cX7_recall 4 (some .int) wsX7_recall RX7 := C
  have i7 : ∀ w ∈ wsX70, w ∈ wsX7_recall := by decide +kernel
  refine z_iload_n C dX7_recall_0 rfl (q := 1) rfl ?_
  refine z_iconst C dX7_recall_1 (v := -1) (by decide) ?_
  refine z_icmp_eq C dX7_recall_2 (tgt := 18) (by decide) (fun h2 => ?_) (fun h2 => ?_)
  · have q2 := iv_eq rfl (show (-1 : Int32).toInt = -1 from by decide) h2
    refine z_iload_n C dX7_recall_18 rfl (q := 2) rfl ?_
    refine z_iload_n C dX7_recall_19 rfl (q := 3) rfl ?_
    refine z_sipush C dX7_recall_20 (v := 999) (by decide) ?_
    refine z_pI C (z_runS C (As := [Value.int fr, Value.int to, Value.int 999]) (rest := []) (c_X7_isSpan l D cy a L c g r fr to 999 (M := 999) (show (999 : Int32).toInt = 999 from by decide)) (va_cwS 3 C.2.2.2.2.2.1 gX7_recall_X7_isSpan rfl rfl rfl (by decide +kernel) ⟨Nat.le_of_ble_eq_true rfl, Nat.le_of_ble_eq_true rfl⟩) rfl rfl (Nat.le_of_ble_eq_true rfl) dX7_recall_23 ⟨Nat.zero_le _, Nat.zero_le _⟩) (fun v23 e23 => ?_)
    rcases e23 with ⟨rfl, e23⟩ | ⟨rfl, e23⟩
    · refine z_if_ne C dX7_recall_26 (tgt := 32) (by decide) (fun h26 => ?_) (fun h26 => absurd h26 (by decide))
      refine z_aload_n C dX7_recall_32 rfl (q := 0) rfl ?_
      refine zg_X7_lumpBook C (k := 0) (hL _ (by unfold live; omega)) (by rfl) i7 (by decide +kernel) (k' := 6) (RC_lumpBook hR) dX7_recall_33 ?_
      refine z_iload_n C dX7_recall_36 rfl (q := 1) rfl ?_
      refine z_iload_n C dX7_recall_37 rfl (q := 2) rfl ?_
      refine z_iload_n C dX7_recall_38 rfl (q := 3) rfl ?_
      refine z_pI C (z_runV C (As := [Value.int hand, Value.int fr, Value.int to]) (rest := []) (c_X2_countSticks l D cy a L c g r nl nk hL hR hI hand fr to) (cwV 3 C.2.2.2.2.2.1 gX7_recall_X2_countSticks rfl rfl rfl (by decide +kernel) ⟨Nat.le_of_ble_eq_true rfl, Nat.le_of_ble_eq_true rfl⟩) (hL _ (by unfold live; omega)) (zF_k2 (by rfl)) rfl rfl rfl rfl (Nat.le_of_ble_eq_true rfl) dX7_recall_39 ⟨Nat.zero_le _, Nat.zero_le _⟩) (fun v39 e39 => ?_)
      subst e39
      exact z_iret C rfl (Nat.le_refl _) (Nat.le_refl _) dX7_recall_42 ⟨rfl, by rw [if_pos (by omega)]⟩
    · refine z_if_ne C dX7_recall_26 (tgt := 32) (by decide) (fun h26 => absurd h26 (by decide)) (fun h26 => ?_)
      refine z_bipush C dX7_recall_29 (v := -2) (by decide) ?_
      exact z_iret C rfl (Nat.le_refl _) (Nat.le_refl _) dX7_recall_31 ⟨rfl, by rw [if_neg (by omega)]⟩
  · have q2 := iv_ne rfl (show (-1 : Int32).toInt = -1 from by decide) h2
    refine z_iload_n C dX7_recall_5 rfl (q := 1) rfl ?_
    refine z_iconst C dX7_recall_6 (v := 0) (by decide) ?_
    refine z_bipush C dX7_recall_7 (v := 9) (by decide) ?_
    refine z_pI C (z_runS C (As := [Value.int hand, Value.int 0, Value.int 9]) (rest := []) (c_X7_within l D cy a L c g r hand 0 9 (V := hand.toInt) (LO := 0) (HI := 9) rfl (show (0 : Int32).toInt = 0 from by decide) (show (9 : Int32).toInt = 9 from by decide)) (va_cwS 3 C.2.2.2.2.2.1 gX7_recall_X7_within rfl rfl rfl (by decide +kernel) ⟨Nat.le_of_ble_eq_true rfl, Nat.le_of_ble_eq_true rfl⟩) rfl rfl (Nat.le_of_ble_eq_true rfl) dX7_recall_9 ⟨Nat.zero_le _, Nat.zero_le _⟩) (fun v9 e9 => ?_)
    rcases e9 with ⟨rfl, e9⟩ | ⟨rfl, e9⟩
    · refine z_if_ne C dX7_recall_12 (tgt := 18) (by decide) (fun h12 => ?_) (fun h12 => absurd h12 (by decide))
      refine z_iload_n C dX7_recall_18 rfl (q := 2) rfl ?_
      refine z_iload_n C dX7_recall_19 rfl (q := 3) rfl ?_
      refine z_sipush C dX7_recall_20 (v := 999) (by decide) ?_
      refine z_pI C (z_runS C (As := [Value.int fr, Value.int to, Value.int 999]) (rest := []) (c_X7_isSpan l D cy a L c g r fr to 999 (M := 999) (show (999 : Int32).toInt = 999 from by decide)) (va_cwS 3 C.2.2.2.2.2.1 gX7_recall_X7_isSpan rfl rfl rfl (by decide +kernel) ⟨Nat.le_of_ble_eq_true rfl, Nat.le_of_ble_eq_true rfl⟩) rfl rfl (Nat.le_of_ble_eq_true rfl) dX7_recall_23 ⟨Nat.zero_le _, Nat.zero_le _⟩) (fun v23 e23 => ?_)
      rcases e23 with ⟨rfl, e23⟩ | ⟨rfl, e23⟩
      · refine z_if_ne C dX7_recall_26 (tgt := 32) (by decide) (fun h26 => ?_) (fun h26 => absurd h26 (by decide))
        refine z_aload_n C dX7_recall_32 rfl (q := 0) rfl ?_
        refine zg_X7_lumpBook C (k := 0) (hL _ (by unfold live; omega)) (by rfl) i7 (by decide +kernel) (k' := 6) (RC_lumpBook hR) dX7_recall_33 ?_
        refine z_iload_n C dX7_recall_36 rfl (q := 1) rfl ?_
        refine z_iload_n C dX7_recall_37 rfl (q := 2) rfl ?_
        refine z_iload_n C dX7_recall_38 rfl (q := 3) rfl ?_
        refine z_pI C (z_runV C (As := [Value.int hand, Value.int fr, Value.int to]) (rest := []) (c_X2_countSticks l D cy a L c g r nl nk hL hR hI hand fr to) (cwV 3 C.2.2.2.2.2.1 gX7_recall_X2_countSticks rfl rfl rfl (by decide +kernel) ⟨Nat.le_of_ble_eq_true rfl, Nat.le_of_ble_eq_true rfl⟩) (hL _ (by unfold live; omega)) (zF_k2 (by rfl)) rfl rfl rfl rfl (Nat.le_of_ble_eq_true rfl) dX7_recall_39 ⟨Nat.zero_le _, Nat.zero_le _⟩) (fun v39 e39 => ?_)
        subst e39
        exact z_iret C rfl (Nat.le_refl _) (Nat.le_refl _) dX7_recall_42 ⟨rfl, by rw [if_pos (by omega)]⟩
      · refine z_if_ne C dX7_recall_26 (tgt := 32) (by decide) (fun h26 => absurd h26 (by decide)) (fun h26 => ?_)
        refine z_bipush C dX7_recall_29 (v := -2) (by decide) ?_
        exact z_iret C rfl (Nat.le_refl _) (Nat.le_refl _) dX7_recall_31 ⟨rfl, by rw [if_neg (by omega)]⟩
    · refine z_if_ne C dX7_recall_12 (tgt := 18) (by decide) (fun h12 => absurd h12 (by decide)) (fun h12 => ?_)
      refine z_bipush C dX7_recall_15 (v := -2) (by decide) ?_
      exact z_iret C rfl (Nat.le_refl _) (Nat.le_refl _) dX7_recall_17 ⟨rfl, by rw [if_neg (by omega)]⟩

abbrev mn (x y : Int32) : Int32 := if y < x then y else x
abbrev mx (x y : Int32) : Int32 := if x < y then y else x
def fore3 (x y z : Int32) : Int32 := if mx (mn x y) (mn (mx x y) z) = -1 then mx 0 (mx x (mx y z)) else mx (mn x y) (mn (mx x y) z)
def foreC (c : Nat → Nat → Int32) (wk : Nat) : Int32 := fore3 (wantC c 0 wk) (wantC c 1 wk) (wantC c 2 wk)

set_option maxHeartbeats 4000000 in
set_option maxRecDepth 100000 in
theorem c_X7_foretold (l : Launch) (D : va_G) (cy : Nat → ClassId) (a : Nat → Nat) (L : List Nat) (c : Nat → Nat → Int32) (g : Nat → Nat → Int64) (r : Nat → Nat → Option Nat) (nl nk : Nat) (hL : zLv L nl nk) (hR : RC r nl nk) (hI : CI c nl nk) (week : Int32) : zPI l yX7_foretold wsX7_foretold { frames := 3, cells := 0, slots := 0, locals := 64 } D cy a L c g r [Value.ref (a 0), Value.int week] (fun v => v = if 0 ≤ week.toInt ∧ week.toInt ≤ 51 then foreC c (tn week) else -2) := by
  refine z_enter cX7_foretold 6 (some .int) (by decide) (Nat.le_of_ble_eq_true rfl) ?_
  intro p e s m below meth co C hin
  have C : zC p s m _ meth co D cy _ cX7_foretold 6 (some .int) wsX7_foretold RX7 := C
  have i7 : ∀ w ∈ wsX70, w ∈ wsX7_foretold := by decide +kernel
  refine z_iload_n C dX7_foretold_0 rfl (q := 1) rfl ?_
  refine z_pI C (z_runS C (As := [Value.int week]) (rest := []) (c_X7_isWeek l D cy a L c g r week) (va_cwS 1 C.2.2.2.2.2.1 gX7_foretold_X7_isWeek rfl rfl rfl (by decide +kernel) ⟨Nat.le_of_ble_eq_true rfl, Nat.le_of_ble_eq_true rfl⟩) rfl rfl (Nat.le_of_ble_eq_true rfl) dX7_foretold_1 ⟨Nat.zero_le _, Nat.zero_le _⟩) (fun v1 e1 => ?_)
  rcases e1 with ⟨rfl, e1⟩ | ⟨rfl, e1⟩
  · obtain ⟨wk, hwk, rfl⟩ := arg_nI (b := 51) e1
    have twk := nI_toInt (n := wk) (by omega)
    have uwk := tn_nI (j := wk) (by omega)
    refine z_if_ne C dX7_foretold_4 (tgt := 10) (by decide) (fun h4 => ?_) (fun h4 => absurd h4 (by decide))
    refine z_aload_n C dX7_foretold_10 rfl (q := 0) rfl ?_
    refine zg_X7_sheetRow C (k := 0) (hL _ (by unfold live; omega)) (by rfl) i7 (by decide +kernel) (k' := 11) (RC_sheetRow hR) dX7_foretold_11 ?_
    refine z_iconst C dX7_foretold_14 (v := 0) (by decide) ?_
    refine z_aaload C (k := 11) (hL _ (by unfold live; omega)) (by rfl) (by decide) (j := 0) (by decide) (by rw [show ln 11 = 4 from rfl]; omega) (by rw [show ln 11 = 4 from rfl]; decide) (v := .ref (a (40 + 0))) (by rw [RC_sheet hR (by omega)]; rfl) dX7_foretold_15 ?_
    refine z_iload_n C dX7_foretold_16 rfl (q := 1) rfl ?_
    refine z_pI C (z_runV C (As := [Value.int (nI wk)]) (rest := []) (c_X4_wantAt l D cy a L c g r nl nk hL hR hI 0 (by omega) wk (by omega)) (cwV 1 C.2.2.2.2.2.1 gX7_foretold_X4_wantAt rfl rfl rfl (by decide +kernel) ⟨Nat.le_of_ble_eq_true rfl, Nat.le_of_ble_eq_true rfl⟩) (hL _ (by unfold live; omega)) (zF_k4 (kd_s (by omega))) rfl rfl rfl rfl (Nat.le_of_ble_eq_true rfl) dX7_foretold_17 ⟨Nat.zero_le _, Nat.zero_le _⟩) (fun v17 e17 => ?_)
    subst e17
    refine z_istore_n C dX7_foretold_20 rfl (by decide) (lv' := [(2, Value.int (wantC c 0 wk)), (0, Value.ref (a 0)), (1, Value.int (nI wk))]) rfl ?_
    refine z_aload_n C dX7_foretold_21 rfl (q := 1) rfl ?_
    refine zg_X7_sheetRow C (k := 0) (hL _ (by unfold live; omega)) (by rfl) i7 (by decide +kernel) (k' := 11) (RC_sheetRow hR) dX7_foretold_22 ?_
    refine z_iconst C dX7_foretold_25 (v := 1) (by decide) ?_
    refine z_aaload C (k := 11) (hL _ (by unfold live; omega)) (by rfl) (by decide) (j := 1) (by decide) (by rw [show ln 11 = 4 from rfl]; omega) (by rw [show ln 11 = 4 from rfl]; decide) (v := .ref (a (40 + 1))) (by rw [RC_sheet hR (by omega)]; rfl) dX7_foretold_26 ?_
    refine z_iload_n C dX7_foretold_27 rfl (q := 2) rfl ?_
    refine z_pI C (z_runV C (As := [Value.int (nI wk)]) (rest := []) (c_X4_wantAt l D cy a L c g r nl nk hL hR hI 1 (by omega) wk (by omega)) (cwV 1 C.2.2.2.2.2.1 gX7_foretold_X4_wantAt rfl rfl rfl (by decide +kernel) ⟨Nat.le_of_ble_eq_true rfl, Nat.le_of_ble_eq_true rfl⟩) (hL _ (by unfold live; omega)) (zF_k4 (kd_s (by omega))) rfl rfl rfl rfl (Nat.le_of_ble_eq_true rfl) dX7_foretold_28 ⟨Nat.zero_le _, Nat.zero_le _⟩) (fun v28 e28 => ?_)
    subst e28
    refine z_istore_n C dX7_foretold_31 rfl (by decide) (lv' := [(3, Value.int (wantC c 1 wk)), (2, Value.int (wantC c 0 wk)), (0, Value.ref (a 0)), (1, Value.int (nI wk))]) rfl ?_
    refine z_aload_n C dX7_foretold_32 rfl (q := 2) rfl ?_
    refine zg_X7_sheetRow C (k := 0) (hL _ (by unfold live; omega)) (by rfl) i7 (by decide +kernel) (k' := 11) (RC_sheetRow hR) dX7_foretold_33 ?_
    refine z_iconst C dX7_foretold_36 (v := 2) (by decide) ?_
    refine z_aaload C (k := 11) (hL _ (by unfold live; omega)) (by rfl) (by decide) (j := 2) (by decide) (by rw [show ln 11 = 4 from rfl]; omega) (by rw [show ln 11 = 4 from rfl]; decide) (v := .ref (a (40 + 2))) (by rw [RC_sheet hR (by omega)]; rfl) dX7_foretold_37 ?_
    refine z_iload_n C dX7_foretold_38 rfl (q := 3) rfl ?_
    refine z_pI C (z_runV C (As := [Value.int (nI wk)]) (rest := []) (c_X4_wantAt l D cy a L c g r nl nk hL hR hI 2 (by omega) wk (by omega)) (cwV 1 C.2.2.2.2.2.1 gX7_foretold_X4_wantAt rfl rfl rfl (by decide +kernel) ⟨Nat.le_of_ble_eq_true rfl, Nat.le_of_ble_eq_true rfl⟩) (hL _ (by unfold live; omega)) (zF_k4 (kd_s (by omega))) rfl rfl rfl rfl (Nat.le_of_ble_eq_true rfl) dX7_foretold_39 ⟨Nat.zero_le _, Nat.zero_le _⟩) (fun v39 e39 => ?_)
    subst e39
    refine z_istore C dX7_foretold_42 (by decide) (lv' := [(4, Value.int (wantC c 2 wk)), (3, Value.int (wantC c 1 wk)), (2, Value.int (wantC c 0 wk)), (0, Value.ref (a 0)), (1, Value.int (nI wk))]) rfl ?_
    refine z_iload_n C dX7_foretold_44 rfl (q := 2) rfl ?_
    refine z_iload_n C dX7_foretold_45 rfl (q := 1) rfl ?_
    refine z_mmin C (by decide +kernel) (by decide +kernel) (by decide +kernel) (by decide +kernel) (Nat.le_of_ble_eq_true rfl) (Nat.le_of_ble_eq_true rfl) (Nat.zero_le _) (Nat.zero_le _) (v := mn (wantC c 0 wk) (wantC c 1 wk)) rfl dX7_foretold_46 ?_
    refine z_iload_n C dX7_foretold_49 rfl (q := 2) rfl ?_
    refine z_iload_n C dX7_foretold_50 rfl (q := 1) rfl ?_
    refine z_mmax C (by decide +kernel) (by decide +kernel) (by decide +kernel) (by decide +kernel) (Nat.le_of_ble_eq_true rfl) (Nat.le_of_ble_eq_true rfl) (Nat.zero_le _) (Nat.zero_le _) (v := mx (wantC c 0 wk) (wantC c 1 wk)) rfl dX7_foretold_51 ?_
    refine z_iload C dX7_foretold_54 (q := 0) rfl ?_
    refine z_mmin C (by decide +kernel) (by decide +kernel) (by decide +kernel) (by decide +kernel) (Nat.le_of_ble_eq_true rfl) (Nat.le_of_ble_eq_true rfl) (Nat.zero_le _) (Nat.zero_le _) (v := mn (mx (wantC c 0 wk) (wantC c 1 wk)) (wantC c 2 wk)) rfl dX7_foretold_56 ?_
    refine z_mmax C (by decide +kernel) (by decide +kernel) (by decide +kernel) (by decide +kernel) (Nat.le_of_ble_eq_true rfl) (Nat.le_of_ble_eq_true rfl) (Nat.zero_le _) (Nat.zero_le _) (v := mx (mn (wantC c 0 wk) (wantC c 1 wk)) (mn (mx (wantC c 0 wk) (wantC c 1 wk)) (wantC c 2 wk))) rfl dX7_foretold_59 ?_
    refine z_istore C dX7_foretold_62 (by decide) (lv' := [(5, Value.int (mx (mn (wantC c 0 wk) (wantC c 1 wk)) (mn (mx (wantC c 0 wk) (wantC c 1 wk)) (wantC c 2 wk)))), (4, Value.int (wantC c 2 wk)), (3, Value.int (wantC c 1 wk)), (2, Value.int (wantC c 0 wk)), (0, Value.ref (a 0)), (1, Value.int (nI wk))]) rfl ?_
    refine z_iload C dX7_foretold_64 (q := 0) rfl ?_
    refine z_iconst C dX7_foretold_66 (v := -1) (by decide) ?_
    refine z_icmp_eq C dX7_foretold_67 (tgt := 73) (by decide) (fun h67 => ?_) (fun h67 => ?_)
    · refine z_iconst C dX7_foretold_73 (v := 0) (by decide) ?_
      refine z_iload_n C dX7_foretold_74 rfl (q := 3) rfl ?_
      refine z_iload_n C dX7_foretold_75 rfl (q := 2) rfl ?_
      refine z_iload C dX7_foretold_76 (q := 1) rfl ?_
      refine z_mmax C (by decide +kernel) (by decide +kernel) (by decide +kernel) (by decide +kernel) (Nat.le_of_ble_eq_true rfl) (Nat.le_of_ble_eq_true rfl) (Nat.zero_le _) (Nat.zero_le _) (v := mx (wantC c 1 wk) (wantC c 2 wk)) rfl dX7_foretold_78 ?_
      refine z_mmax C (by decide +kernel) (by decide +kernel) (by decide +kernel) (by decide +kernel) (Nat.le_of_ble_eq_true rfl) (Nat.le_of_ble_eq_true rfl) (Nat.zero_le _) (Nat.zero_le _) (v := mx (wantC c 0 wk) (mx (wantC c 1 wk) (wantC c 2 wk))) rfl dX7_foretold_81 ?_
      refine z_mmax C (by decide +kernel) (by decide +kernel) (by decide +kernel) (by decide +kernel) (Nat.le_of_ble_eq_true rfl) (Nat.le_of_ble_eq_true rfl) (Nat.zero_le _) (Nat.zero_le _) (v := mx 0 (mx (wantC c 0 wk) (mx (wantC c 1 wk) (wantC c 2 wk)))) rfl dX7_foretold_84 ?_
      exact z_iret C rfl (Nat.le_refl _) (Nat.le_refl _) dX7_foretold_87 ⟨rfl, by rw [if_pos (by omega), uwk, foreC, fore3, if_pos h67]⟩
    · refine z_iload C dX7_foretold_70 (q := 0) rfl ?_
      exact z_iret C rfl (Nat.le_refl _) (Nat.le_refl _) dX7_foretold_72 ⟨rfl, by rw [if_pos (by omega), uwk, foreC, fore3, if_neg h67]⟩
  · refine z_if_ne C dX7_foretold_4 (tgt := 10) (by decide) (fun h4 => absurd h4 (by decide)) (fun h4 => ?_)
    refine z_bipush C dX7_foretold_7 (v := -2) (by decide) ?_
    exact z_iret C rfl (Nat.le_refl _) (Nat.le_refl _) dX7_foretold_9 ⟨rfl, by rw [if_neg (by omega)]⟩

set_option maxHeartbeats 4000000 in
set_option maxRecDepth 100000 in
theorem c_X7_damp (l : Launch) (D : va_G) (cy : Nat → ClassId) (a : Nat → Nat) (L : List Nat) (c : Nat → Nat → Int32) (g : Nat → Nat → Int64) (r : Nat → Nat → Option Nat) (nl nk : Nat) (hL : zLv L nl nk) (hR : RC r nl nk) (hI : CI c nl nk) (week is : Int32) (hb : is = 0 ∨ is = 1) : zCI l yX7_damp wsX7_damp { frames := 2, cells := 0, slots := 0, locals := 42 } D cy a L c g r [Value.ref (a 0), Value.int week, Value.int is] (fun v c' => ((0 ≤ week.toInt ∧ week.toInt ≤ 51) ∧ v = 1 ∧ c' = up2 c 8 (tn week) is) ∨ (¬ (0 ≤ week.toInt ∧ week.toInt ≤ 51) ∧ v = -2 ∧ c' = c)) := by
  refine z_enter cX7_damp 3 (some .int) (by decide) (Nat.le_of_ble_eq_true rfl) ?_
  intro p e s m below meth co C hin
  have C : zC p s m _ meth co D cy _ cX7_damp 3 (some .int) wsX7_damp RX7 := C
  have i7 : ∀ w ∈ wsX70, w ∈ wsX7_damp := by decide +kernel
  refine z_iload_n C dX7_damp_0 rfl (q := 1) rfl ?_
  refine z_pI C (z_runS C (As := [Value.int week]) (rest := []) (c_X7_isWeek l D cy a L c g r week) (va_cwS 1 C.2.2.2.2.2.1 gX7_damp_X7_isWeek rfl rfl rfl (by decide +kernel) ⟨Nat.le_of_ble_eq_true rfl, Nat.le_of_ble_eq_true rfl⟩) rfl rfl (Nat.le_of_ble_eq_true rfl) dX7_damp_1 ⟨Nat.zero_le _, Nat.zero_le _⟩) (fun v1 e1 => ?_)
  rcases e1 with ⟨rfl, e1⟩ | ⟨rfl, e1⟩
  · obtain ⟨wk, hwk, rfl⟩ := arg_nI (b := 51) e1
    have twk := nI_toInt (n := wk) (by omega)
    have uwk := tn_nI (j := wk) (by omega)
    refine z_if_ne C dX7_damp_4 (tgt := 10) (by decide) (fun h4 => ?_) (fun h4 => absurd h4 (by decide))
    refine z_aload_n C dX7_damp_10 rfl (q := 0) rfl ?_
    refine zg_X7_dampWeeks C (k := 0) (hL _ (by unfold live; omega)) (by rfl) i7 (by decide +kernel) (k' := 8) (RC_dampWeeks hR) dX7_damp_11 ?_
    refine z_iload_n C dX7_damp_14 rfl (q := 1) rfl ?_
    refine z_iload_n C dX7_damp_15 rfl (q := 2) rfl ?_
    refine z_bastore C (k := 8) (hL _ (by unfold live; omega)) (by rfl) (j := wk) rfl (by rw [show ln 8 = 52 from rfl]; omega) (by rw [show ln 8 = 52 from rfl]; decide) (by rcases hb with rfl | rfl <;> rfl) dX7_damp_16 ?_
    refine z_iconst C dX7_damp_17 (v := 1) (by decide) ?_
    exact z_iret C rfl (Nat.le_refl _) (Nat.le_refl _) dX7_damp_18 ⟨_, rfl, Or.inl ⟨by omega, rfl, by rw [uwk]⟩⟩
  · refine z_if_ne C dX7_damp_4 (tgt := 10) (by decide) (fun h4 => absurd h4 (by decide)) (fun h4 => ?_)
    refine z_bipush C dX7_damp_7 (v := -2) (by decide) ?_
    exact z_iret C rfl (Nat.le_refl _) (Nat.le_refl _) dX7_damp_9 ⟨_, rfl, Or.inr ⟨by omega, rfl, rfl⟩⟩

set_option maxHeartbeats 4000000 in
set_option maxRecDepth 100000 in
theorem c_X7_make (l : Launch) (D : va_G) (cy : Nat → ClassId) (a : Nat → Nat) (L : List Nat) (c : Nat → Nat → Int32) (g : Nat → Nat → Int64) (r : Nat → Nat → Option Nat) (nl nk : Nat) (hL : zLv L nl nk) (hR : RC r nl nk) (hI : CI c nl nk) (week n : Int32) : zCI l yX7_make wsX7_make { frames := 2, cells := 0, slots := 0, locals := 42 } D cy a L c g r [Value.ref (a 0), Value.int week, Value.int n] (fun v c' => (((0 ≤ week.toInt ∧ week.toInt ≤ 51) ∧ 0 ≤ n.toInt ∧ n.toInt ≤ 10000) ∧ v = c 9 (tn week) ∧ c' = up2 c 9 (tn week) n) ∨ (¬ ((0 ≤ week.toInt ∧ week.toInt ≤ 51) ∧ 0 ≤ n.toInt ∧ n.toInt ≤ 10000) ∧ v = -2 ∧ c' = c)) := by
  refine z_enter cX7_make 4 (some .int) (by decide) (Nat.le_of_ble_eq_true rfl) ?_
  intro p e s m below meth co C hin
  have C : zC p s m _ meth co D cy _ cX7_make 4 (some .int) wsX7_make RX7 := C
  have i7 : ∀ w ∈ wsX70, w ∈ wsX7_make := by decide +kernel
  refine z_iload_n C dX7_make_0 rfl (q := 1) rfl ?_
  refine z_pI C (z_runS C (As := [Value.int week]) (rest := []) (c_X7_isWeek l D cy a L c g r week) (va_cwS 1 C.2.2.2.2.2.1 gX7_make_X7_isWeek rfl rfl rfl (by decide +kernel) ⟨Nat.le_of_ble_eq_true rfl, Nat.le_of_ble_eq_true rfl⟩) rfl rfl (Nat.le_of_ble_eq_true rfl) dX7_make_1 ⟨Nat.zero_le _, Nat.zero_le _⟩) (fun v1 e1 => ?_)
  rcases e1 with ⟨rfl, e1⟩ | ⟨rfl, e1⟩
  · obtain ⟨wk, hwk, rfl⟩ := arg_nI (b := 51) e1
    have twk := nI_toInt (n := wk) (by omega)
    have uwk := tn_nI (j := wk) (by omega)
    refine z_if_eq C dX7_make_4 (tgt := 18) (by decide) (fun h4 => absurd h4 (by decide)) (fun h4 => ?_)
    refine z_iload_n C dX7_make_7 rfl (q := 2) rfl ?_
    refine z_iconst C dX7_make_8 (v := 0) (by decide) ?_
    refine z_sipush C dX7_make_9 (v := 10000) (by decide) ?_
    refine z_pI C (z_runS C (As := [Value.int n, Value.int 0, Value.int 10000]) (rest := []) (c_X7_within l D cy a L c g r n 0 10000 (V := n.toInt) (LO := 0) (HI := 10000) rfl (show (0 : Int32).toInt = 0 from by decide) (show (10000 : Int32).toInt = 10000 from by decide)) (va_cwS 3 C.2.2.2.2.2.1 gX7_make_X7_within rfl rfl rfl (by decide +kernel) ⟨Nat.le_of_ble_eq_true rfl, Nat.le_of_ble_eq_true rfl⟩) rfl rfl (Nat.le_of_ble_eq_true rfl) dX7_make_12 ⟨Nat.zero_le _, Nat.zero_le _⟩) (fun v12 e12 => ?_)
    rcases e12 with ⟨rfl, e12⟩ | ⟨rfl, e12⟩
    · refine z_if_ne C dX7_make_15 (tgt := 21) (by decide) (fun h15 => ?_) (fun h15 => absurd h15 (by decide))
      refine z_aload_n C dX7_make_21 rfl (q := 0) rfl ?_
      refine zg_X7_madeIn C (k := 0) (hL _ (by unfold live; omega)) (by rfl) i7 (by decide +kernel) (k' := 9) (RC_madeIn hR) dX7_make_22 ?_
      refine z_iload_n C dX7_make_25 rfl (q := 1) rfl ?_
      refine z_iaload C (k := 9) (hL _ (by unfold live; omega)) (by rfl) (j := wk) rfl (by rw [show ln 9 = 52 from rfl]; omega) (by rw [show ln 9 = 52 from rfl]; decide) (v := c 9 wk) rfl dX7_make_26 ?_
      refine z_istore_n C dX7_make_27 rfl (by decide) (lv' := [(3, Value.int (c 9 wk)), (0, Value.ref (a 0)), (1, Value.int (nI wk)), (2, Value.int n)]) rfl ?_
      refine z_aload_n C dX7_make_28 rfl (q := 1) rfl ?_
      refine zg_X7_madeIn C (k := 0) (hL _ (by unfold live; omega)) (by rfl) i7 (by decide +kernel) (k' := 9) (RC_madeIn hR) dX7_make_29 ?_
      refine z_iload_n C dX7_make_32 rfl (q := 2) rfl ?_
      refine z_iload_n C dX7_make_33 rfl (q := 3) rfl ?_
      refine z_iastore C (k := 9) (hL _ (by unfold live; omega)) (by rfl) (j := wk) rfl (by rw [show ln 9 = 52 from rfl]; omega) (by rw [show ln 9 = 52 from rfl]; decide) dX7_make_34 ?_
      refine z_iload_n C dX7_make_35 rfl (q := 0) rfl ?_
      exact z_iret C rfl (Nat.le_refl _) (Nat.le_refl _) dX7_make_36 ⟨_, rfl, Or.inl ⟨by omega, by rw [uwk], by rw [uwk]⟩⟩
    · refine z_if_ne C dX7_make_15 (tgt := 21) (by decide) (fun h15 => absurd h15 (by decide)) (fun h15 => ?_)
      refine z_bipush C dX7_make_18 (v := -2) (by decide) ?_
      exact z_iret C rfl (Nat.le_refl _) (Nat.le_refl _) dX7_make_20 ⟨_, rfl, Or.inr ⟨by omega, rfl, rfl⟩⟩
  · refine z_if_eq C dX7_make_4 (tgt := 18) (by decide) (fun h4 => ?_) (fun h4 => absurd h4 (by decide))
    refine z_bipush C dX7_make_18 (v := -2) (by decide) ?_
    exact z_iret C rfl (Nat.le_refl _) (Nat.le_refl _) dX7_make_20 ⟨_, rfl, Or.inr ⟨by omega, rfl, rfl⟩⟩

def fitC (c : Nat → Nat → Int32) (x : Nat → Nat → Nat) (w : Nat) : Prop := 0 < nn c (20 + w) 1 ∧ wideC c x w ≤ nn c 3 1
noncomputable def fitsC (c : Nat → Nat → Int32) (x : Nat → Nat → Nat) (i : Nat) : Nat := sumF (fun w => one (fitC c x w)) i
noncomputable def dampsC (c : Nat → Nat → Int32) (i : Nat) : Nat := sumF (fun w => nn c 8 w) i

set_option maxHeartbeats 4000000 in
set_option maxRecDepth 100000 in
theorem c_X7_countFitting (l : Launch) (D : va_G) (cy : Nat → ClassId) (a : Nat → Nat) (L : List Nat) (c : Nat → Nat → Int32) (g : Nat → Nat → Int64) (r : Nat → Nat → Option Nat) (nl nk : Nat) (hL : zLv L nl nk) (hR : RC r nl nk) (hI : CI c nl nk) (x : Nat → Nat → Nat) (hX : XC c r nl x) : zPI l yX7_countFitting wsX7_countFitting { frames := 2, cells := 0, slots := 0, locals := 44 } D cy a L c g r [Value.ref (a 0)] (fun v => v = nI (fitsC c x 8)) := by
  refine z_enter cX7_countFitting 3 (some .int) (by decide) (Nat.le_of_ble_eq_true rfl) ?_
  intro p e s m below meth co C hin
  have C : zC p s m _ meth co D cy _ cX7_countFitting 3 (some .int) wsX7_countFitting RX7 := C
  have i7 : ∀ w ∈ wsX70, w ∈ wsX7_countFitting := by decide +kernel
  refine z_iconst C dX7_countFitting_0 (v := nI 0) (by decide) ?_
  refine z_istore_n C dX7_countFitting_1 rfl (by decide) (lv' := [(1, Value.int (nI 0)), (0, Value.ref (a 0))]) rfl ?_
  refine z_iconst C dX7_countFitting_2 (v := nI 0) (by decide) ?_
  refine z_istore_n C dX7_countFitting_3 rfl (by decide) (lv' := [(2, Value.int (nI 0)), (1, Value.int (nI 0)), (0, Value.ref (a 0))]) rfl ?_
  refine z_for 0 8 (Nat.zero_le _) (fun w => [(2, Value.int (nI w)), (1, Value.int (nI (fitsC c x w))), (0, Value.ref (a 0))]) (fun w => c) (fun w => g) ?_ ?_
  · refine z_iload_n C dX7_countFitting_4 rfl (q := 0) rfl ?_
    refine z_bipush C dX7_countFitting_5 (v := nI 8) (by decide) ?_
    refine z_icmp_ge C dX7_countFitting_7 (tgt := 35) (by decide) (fun h7 => ?_) (fun h7 => absurd (Int32.le_refl _) h7)
    refine z_iload_n C dX7_countFitting_35 rfl (q := 1) rfl ?_
    exact z_iret C rfl (Nat.le_refl _) (Nat.le_refl _) dX7_countFitting_36 ⟨rfl, rfl⟩
  · intro w hlw hw ihw
    refine z_iload_n C dX7_countFitting_4 rfl (q := 0) rfl ?_
    refine z_bipush C dX7_countFitting_5 (v := nI 8) (by decide) ?_
    refine z_icmp_ge C dX7_countFitting_7 (tgt := 35) (by decide) (fun h7 => absurd h7 (nI_ge hw (by omega))) (fun h7 => ?_)
    refine z_aload_n C dX7_countFitting_10 rfl (q := 2) rfl ?_
    refine zg_X7_ring C (k := 0) (hL _ (by unfold live; omega)) (by rfl) i7 (by decide +kernel) (k' := 3) (RC_ring hR) dX7_countFitting_11 ?_
    refine z_aload_n C dX7_countFitting_14 rfl (q := 2) rfl ?_
    refine zg_X7_wordRow C (k := 0) (hL _ (by unfold live; omega)) (by rfl) i7 (by decide +kernel) (k' := 2) (RC_wordRow hR) dX7_countFitting_15 ?_
    refine z_iload_n C dX7_countFitting_18 rfl (q := 0) rfl ?_
    refine z_aaload C (k := 2) (hL _ (by unfold live; omega)) (by rfl) (by decide) (j := w) rfl (by rw [show ln 2 = 8 from rfl]; omega) (by rw [show ln 2 = 8 from rfl]; decide) (v := .ref (a (20 + w))) (by rw [RC_word hR (by omega)]; rfl) dX7_countFitting_19 ?_
    refine z_pI C (z_runV C (As := [Value.ref (a (20 + w))]) (rest := []) (c_X3_fits l D cy a L c g r nl nk hL hR hI x hX w (by omega)) (cwV 1 C.2.2.2.2.2.1 gX7_countFitting_X3_fits rfl rfl rfl (by decide +kernel) ⟨Nat.le_of_ble_eq_true rfl, Nat.le_of_ble_eq_true rfl⟩) (hL _ (by unfold live; omega)) (zF_k3 (by rfl)) rfl rfl rfl rfl (Nat.le_of_ble_eq_true rfl) dX7_countFitting_20 ⟨Nat.zero_le _, Nat.zero_le _⟩) (fun v20 e20 => ?_)
    rcases e20 with ⟨rfl, e20⟩ | ⟨rfl, e20⟩
    · refine z_if_eq C dX7_countFitting_23 (tgt := 29) (by decide) (fun h23 => absurd h23 (by decide)) (fun h23 => ?_)
      refine z_iinc C dX7_countFitting_26 (q := 1) rfl (v := nI (fitsC c x w + 1)) (nI_1 _) (by decide) (lv' := [(1, Value.int (nI (fitsC c x w + 1))), (2, Value.int (nI w)), (0, Value.ref (a 0))]) rfl ?_
      refine z_iinc C dX7_countFitting_29 (q := 1) rfl (v := nI (w + 1)) (nI_1 _) (by decide) (lv' := [(2, Value.int (nI (w + 1))), (1, Value.int (nI (fitsC c x w + 1))), (0, Value.ref (a 0))]) rfl ?_
      refine z_goto C dX7_countFitting_32 (tgt := 4) (by decide) ?_
      rw [show fitsC c x (w + 1) = fitsC c x w + 1 from by unfold fitsC; rw [sumF, one_pos (show fitC c x w from e20)]] at ihw
      exact ihw
    · refine z_if_eq C dX7_countFitting_23 (tgt := 29) (by decide) (fun h23 => ?_) (fun h23 => absurd h23 (by decide))
      refine z_iinc C dX7_countFitting_29 (q := 0) rfl (v := nI (w + 1)) (nI_1 _) (by decide) (lv' := [(2, Value.int (nI (w + 1))), (1, Value.int (nI (fitsC c x w))), (0, Value.ref (a 0))]) rfl ?_
      refine z_goto C dX7_countFitting_32 (tgt := 4) (by decide) ?_
      rw [show fitsC c x (w + 1) = fitsC c x w from by unfold fitsC; rw [sumF, one_neg (show ¬ fitC c x w from e20), Nat.add_zero]] at ihw
      exact ihw

set_option maxHeartbeats 4000000 in
set_option maxRecDepth 100000 in
theorem c_X7_countDamp (l : Launch) (D : va_G) (cy : Nat → ClassId) (a : Nat → Nat) (L : List Nat) (c : Nat → Nat → Int32) (g : Nat → Nat → Int64) (r : Nat → Nat → Option Nat) (nl nk : Nat) (hL : zLv L nl nk) (hR : RC r nl nk) (hI : CI c nl nk) : zPI l yX7_countDamp wsX7_countDamp { frames := 0, cells := 0, slots := 0, locals := 0 } D cy a L c g r [Value.ref (a 0)] (fun v => v = nI (dampsC c 52)) := by
  refine z_enter cX7_countDamp 3 (some .int) (by decide) (Nat.le_of_ble_eq_true rfl) ?_
  intro p e s m below meth co C hin
  have C : zC p s m _ meth co D cy _ cX7_countDamp 3 (some .int) wsX7_countDamp RX7 := C
  have i7 : ∀ w ∈ wsX70, w ∈ wsX7_countDamp := by decide +kernel
  refine z_iconst C dX7_countDamp_0 (v := nI 0) (by decide) ?_
  refine z_istore_n C dX7_countDamp_1 rfl (by decide) (lv' := [(1, Value.int (nI 0)), (0, Value.ref (a 0))]) rfl ?_
  refine z_iconst C dX7_countDamp_2 (v := nI 0) (by decide) ?_
  refine z_istore_n C dX7_countDamp_3 rfl (by decide) (lv' := [(2, Value.int (nI 0)), (1, Value.int (nI 0)), (0, Value.ref (a 0))]) rfl ?_
  refine z_for 0 52 (Nat.zero_le _) (fun w => [(2, Value.int (nI w)), (1, Value.int (nI (dampsC c w))), (0, Value.ref (a 0))]) (fun w => c) (fun w => g) ?_ ?_
  · refine z_iload_n C dX7_countDamp_4 rfl (q := 0) rfl ?_
    refine z_bipush C dX7_countDamp_5 (v := nI 52) (by decide) ?_
    refine z_icmp_ge C dX7_countDamp_7 (tgt := 28) (by decide) (fun h7 => ?_) (fun h7 => absurd (Int32.le_refl _) h7)
    refine z_iload_n C dX7_countDamp_28 rfl (q := 1) rfl ?_
    exact z_iret C rfl (Nat.le_refl _) (Nat.le_refl _) dX7_countDamp_29 ⟨rfl, rfl⟩
  · intro w hlw hw ihw
    have hdw := (CI_wk hI hw).1
    have hd2 := hdw.2
    refine z_iload_n C dX7_countDamp_4 rfl (q := 0) rfl ?_
    refine z_bipush C dX7_countDamp_5 (v := nI 52) (by decide) ?_
    refine z_icmp_ge C dX7_countDamp_7 (tgt := 28) (by decide) (fun h7 => absurd h7 (nI_ge hw (by omega))) (fun h7 => ?_)
    refine z_aload_n C dX7_countDamp_10 rfl (q := 2) rfl ?_
    refine zg_X7_dampWeeks C (k := 0) (hL _ (by unfold live; omega)) (by rfl) i7 (by decide +kernel) (k' := 8) (RC_dampWeeks hR) dX7_countDamp_11 ?_
    refine z_iload_n C dX7_countDamp_14 rfl (q := 0) rfl ?_
    refine z_baload C (k := 8) (hL _ (by unfold live; omega)) (by rfl) (j := w) rfl (by rw [show ln 8 = 52 from rfl]; omega) (by rw [show ln 8 = 52 from rfl]; decide) (v := nI (nn c 8 w)) hdw.1 dX7_countDamp_15 ?_
    refine z_if_eq C dX7_countDamp_16 (tgt := 22) (by decide) (fun h16 => ?_) (fun h16 => ?_)
    · have q16 := iv_eq (y := 0) (nI_toInt (by omega)) (show (0 : Int32).toInt = 0 from by decide) h16
      refine z_iinc C dX7_countDamp_22 (q := 0) rfl (v := nI (w + 1)) (nI_1 _) (by decide) (lv' := [(2, Value.int (nI (w + 1))), (1, Value.int (nI (dampsC c w))), (0, Value.ref (a 0))]) rfl ?_
      refine z_goto C dX7_countDamp_25 (tgt := 4) (by decide) ?_
      rw [show dampsC c (w + 1) = dampsC c w from by unfold dampsC; rw [sumF]; omega] at ihw
      exact ihw
    · have q16 := iv_ne (y := 0) (nI_toInt (by omega)) (show (0 : Int32).toInt = 0 from by decide) h16
      refine z_iinc C dX7_countDamp_19 (q := 1) rfl (v := nI (dampsC c w + 1)) (nI_1 _) (by decide) (lv' := [(1, Value.int (nI (dampsC c w + 1))), (2, Value.int (nI w)), (0, Value.ref (a 0))]) rfl ?_
      refine z_iinc C dX7_countDamp_22 (q := 1) rfl (v := nI (w + 1)) (nI_1 _) (by decide) (lv' := [(2, Value.int (nI (w + 1))), (1, Value.int (nI (dampsC c w + 1))), (0, Value.ref (a 0))]) rfl ?_
      refine z_goto C dX7_countDamp_25 (tgt := 4) (by decide) ?_
      rw [show dampsC c (w + 1) = dampsC c w + 1 from by unfold dampsC; rw [sumF]; omega] at ihw
      exact ihw

set_option maxHeartbeats 4000000 in
set_option maxRecDepth 100000 in
theorem c_X7_isLonger (l : Launch) (D : va_G) (cy : Nat → ClassId) (a : Nat → Nat) (L : List Nat) (c : Nat → Nat → Int32) (g : Nat → Nat → Int64) (r : Nat → Nat → Option Nat) (nl nk : Nat) (hL : zLv L nl nk) (hR : RC r nl nk) (hI : CI c nl nk) (x : Nat → Nat → Nat) (hX : XC c r nl x) (w b : Nat) (hw : w < 8) (hb : b < 8) : zPI l yX7_isLonger wsX7_isLonger { frames := 1, cells := 0, slots := 0, locals := 23 } D cy a L c g r [Value.ref (a 0), Value.ref (a (20 + w)), Value.ref (a (20 + b))] (fun v => (v = 1 ∧ ((nn c (20 + b) 1 < nn c (20 + w) 1 ∨ (nn c (20 + w) 1 = nn c (20 + b) 1 ∧ wideC c x b < wideC c x w)))) ∨ (v = 0 ∧ ¬ ((nn c (20 + b) 1 < nn c (20 + w) 1 ∨ (nn c (20 + w) 1 = nn c (20 + b) 1 ∧ wideC c x b < wideC c x w))))) := by
  refine z_enter cX7_isLonger 3 (some .boolean) (by decide) (Nat.le_of_ble_eq_true rfl) ?_
  intro p e s m below meth co C hin
  have C : zC p s m _ meth co D cy _ cX7_isLonger 3 (some .boolean) wsX7_isLonger RX7 := C
  have i6 : ∀ w ∈ wsX60, w ∈ wsX7_isLonger := by decide +kernel
  have i7 : ∀ w ∈ wsX70, w ∈ wsX7_isLonger := by decide +kernel
  have hzw := (CI_sz hI hw).2
  have hzb := (CI_sz hI hb).2
  refine z_aload_n C dX7_isLonger_0 rfl (q := 1) rfl ?_
  refine zg_X6_size C (k := 20 + w) (hL _ (by unfold live; omega)) (kd_w (by omega)) i6 (by decide +kernel) (v := nI (nn c (20 + w) 1)) (CI_sz hI (by omega)).1 dX7_isLonger_1 ?_
  refine z_aload_n C dX7_isLonger_4 rfl (q := 2) rfl ?_
  refine zg_X6_size C (k := 20 + b) (hL _ (by unfold live; omega)) (kd_w (by omega)) i6 (by decide +kernel) (v := nI (nn c (20 + b) 1)) (CI_sz hI (by omega)).1 dX7_isLonger_5 ?_
  refine z_icmp_eq C dX7_isLonger_8 (tgt := 28) (by decide) (fun h8 => ?_) (fun h8 => ?_)
  · have q8 := iv_eq (nI_toInt (by omega)) (nI_toInt (by omega)) h8
    refine z_aload_n C dX7_isLonger_28 rfl (q := 0) rfl ?_
    refine zg_X7_ring C (k := 0) (hL _ (by unfold live; omega)) (by rfl) i7 (by decide +kernel) (k' := 3) (RC_ring hR) dX7_isLonger_29 ?_
    refine z_aload_n C dX7_isLonger_32 rfl (q := 1) rfl ?_
    refine z_pI C (z_runV C (As := [Value.ref (a (20 + w))]) (rest := []) (c_X3_widthOf l D cy a L c g r nl nk hL hR hI x hX w (by omega)) (cwV 1 C.2.2.2.2.2.1 gX7_isLonger_X3_widthOf rfl rfl rfl (by decide +kernel) ⟨Nat.le_of_ble_eq_true rfl, Nat.le_of_ble_eq_true rfl⟩) (hL _ (by unfold live; omega)) (zF_k3 (by rfl)) rfl rfl rfl rfl (Nat.le_of_ble_eq_true rfl) dX7_isLonger_33 ⟨Nat.zero_le _, Nat.zero_le _⟩) (fun v33 e33 => ?_)
    subst e33
    have hwl := wideC_le hI hX hw
    refine z_aload_n C dX7_isLonger_36 rfl (q := 0) rfl ?_
    refine zg_X7_ring C (k := 0) (hL _ (by unfold live; omega)) (by rfl) i7 (by decide +kernel) (k' := 3) (RC_ring hR) dX7_isLonger_37 ?_
    refine z_aload_n C dX7_isLonger_40 rfl (q := 2) rfl ?_
    refine z_pI C (z_runV C (As := [Value.ref (a (20 + b))]) (rest := [Value.int (nI (wideC c x w))]) (c_X3_widthOf l D cy a L c g r nl nk hL hR hI x hX b (by omega)) (cwV 1 C.2.2.2.2.2.1 gX7_isLonger_X3_widthOf rfl rfl rfl (by decide +kernel) ⟨Nat.le_of_ble_eq_true rfl, Nat.le_of_ble_eq_true rfl⟩) (hL _ (by unfold live; omega)) (zF_k3 (by rfl)) rfl rfl rfl rfl (Nat.le_of_ble_eq_true rfl) dX7_isLonger_41 ⟨Nat.zero_le _, Nat.zero_le _⟩) (fun v41 e41 => ?_)
    subst e41
    have hbl := wideC_le hI hX hb
    refine z_icmp_le C dX7_isLonger_44 (tgt := 51) (by decide) (fun h44 => ?_) (fun h44 => ?_)
    · have q44 := iv_le (nI_toInt (by omega)) (nI_toInt (by omega)) h44
      refine z_iconst C dX7_isLonger_51 (v := 0) (by decide) ?_
      exact z_zret C rfl (Nat.le_refl _) (Nat.le_refl _) dX7_isLonger_52 rfl ⟨rfl, Or.inr ⟨rfl, by omega⟩⟩
    · have q44 := iv_nle (nI_toInt (by omega)) (nI_toInt (by omega)) h44
      refine z_iconst C dX7_isLonger_47 (v := 1) (by decide) ?_
      refine z_goto C dX7_isLonger_48 (tgt := 52) (by decide) ?_
      exact z_zret C rfl (Nat.le_refl _) (Nat.le_refl _) dX7_isLonger_52 rfl ⟨rfl, Or.inl ⟨rfl, by omega⟩⟩
  · have q8 := iv_ne (nI_toInt (by omega)) (nI_toInt (by omega)) h8
    refine z_aload_n C dX7_isLonger_11 rfl (q := 1) rfl ?_
    refine zg_X6_size C (k := 20 + w) (hL _ (by unfold live; omega)) (kd_w (by omega)) i6 (by decide +kernel) (v := nI (nn c (20 + w) 1)) (CI_sz hI (by omega)).1 dX7_isLonger_12 ?_
    refine z_aload_n C dX7_isLonger_15 rfl (q := 2) rfl ?_
    refine zg_X6_size C (k := 20 + b) (hL _ (by unfold live; omega)) (kd_w (by omega)) i6 (by decide +kernel) (v := nI (nn c (20 + b) 1)) (CI_sz hI (by omega)).1 dX7_isLonger_16 ?_
    refine z_icmp_le C dX7_isLonger_19 (tgt := 26) (by decide) (fun h19 => ?_) (fun h19 => ?_)
    · have q19 := iv_le (nI_toInt (by omega)) (nI_toInt (by omega)) h19
      refine z_iconst C dX7_isLonger_26 (v := 0) (by decide) ?_
      exact z_zret C rfl (Nat.le_refl _) (Nat.le_refl _) dX7_isLonger_27 rfl ⟨rfl, Or.inr ⟨rfl, by omega⟩⟩
    · have q19 := iv_nle (nI_toInt (by omega)) (nI_toInt (by omega)) h19
      refine z_iconst C dX7_isLonger_22 (v := 1) (by decide) ?_
      refine z_goto C dX7_isLonger_23 (tgt := 27) (by decide) ?_
      exact z_zret C rfl (Nat.le_refl _) (Nat.le_refl _) dX7_isLonger_27 rfl ⟨rfl, Or.inl ⟨rfl, by omega⟩⟩
