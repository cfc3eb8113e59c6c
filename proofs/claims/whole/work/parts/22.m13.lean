noncomputable def longO (c : Nat → Nat → Int32) (x : Nat → Nat → Nat) : Nat → Option Nat
  | 0 => none
  | w + 1 => match longO c x w with
    | none => pick (fitC c x w) (some w) none
    | some b => pick (fitC c x w ∧ (nn c (20 + b) 1 < nn c (20 + w) 1 ∨ (nn c (20 + w) 1 = nn c (20 + b) 1 ∧ wideC c x b < wideC c x w))) (some w) (some b)
theorem longO_n {c : Nat → Nat → Int32} {x : Nat → Nat → Nat} {w : Nat} (h : longO c x w = none) : longO c x (w + 1) = pick (fitC c x w) (some w) none := by rw [longO, h]
theorem longO_s {c : Nat → Nat → Int32} {x : Nat → Nat → Nat} {w b : Nat} (h : longO c x w = some b) : longO c x (w + 1) = pick (fitC c x w ∧ (nn c (20 + b) 1 < nn c (20 + w) 1 ∨ (nn c (20 + w) 1 = nn c (20 + b) 1 ∧ wideC c x b < wideC c x w))) (some w) (some b) := by rw [longO, h]

set_option maxHeartbeats 4000000 in
set_option maxRecDepth 100000 in
theorem c_X7_longest (l : Launch) (D : va_G) (cy : Nat → ClassId) (a : Nat → Nat) (L : List Nat) (c : Nat → Nat → Int32) (g : Nat → Nat → Int64) (r : Nat → Nat → Option Nat) (nl nk : Nat) (hL : zLv L nl nk) (hR : RC r nl nk) (hI : CI c nl nk) (x : Nat → Nat → Nat) (hX : XC c r nl x) : zPI l yX7_longest wsX7_longest { frames := 2, cells := 0, slots := 0, locals := 45 } D cy a L c g r [Value.ref (a 0)] (fun v => v = lo2i (longO c x 8)) := by
  refine z_enter cX7_longest 3 (some .int) (by decide) (Nat.le_of_ble_eq_true rfl) ?_
  intro p e s m below meth co C hin
  have C : zC p s m _ meth co D cy _ cX7_longest 3 (some .int) wsX7_longest RX7 := C
  have i7 : ∀ w ∈ wsX70, w ∈ wsX7_longest := by decide +kernel
  refine z_iconst C dX7_longest_0 (v := lo2i (longO c x 0)) rfl ?_
  refine z_istore_n C dX7_longest_1 rfl (by decide) (lv' := [(1, Value.int (lo2i (longO c x 0))), (0, Value.ref (a 0))]) rfl ?_
  refine z_iconst C dX7_longest_2 (v := nI 0) (by decide) ?_
  refine z_istore_n C dX7_longest_3 rfl (by decide) (lv' := [(2, Value.int (nI 0)), (1, Value.int (lo2i (longO c x 0))), (0, Value.ref (a 0))]) rfl ?_
  refine z_forP (fun w => ∀ b, longO c x w = some b → b < 8) 0 8 (Nat.zero_le _) (fun w => [(2, Value.int (nI w)), (1, Value.int (lo2i (longO c x w))), (0, Value.ref (a 0))]) (fun w => c) (fun w => g) ?_ ?_ (fun b h => by cases h)
  · intro hvw
    refine z_iload_n C dX7_longest_4 rfl (q := 0) rfl ?_
    refine z_bipush C dX7_longest_5 (v := nI 8) (by decide) ?_
    refine z_icmp_ge C dX7_longest_7 (tgt := 58) (by decide) (fun h7 => ?_) (fun h7 => absurd (Int32.le_refl _) h7)
    refine z_iload_n C dX7_longest_58 rfl (q := 1) rfl ?_
    exact z_iret C rfl (Nat.le_refl _) (Nat.le_refl _) dX7_longest_59 ⟨rfl, rfl⟩
  · intro w hlw hw hvw ihw
    refine z_iload_n C dX7_longest_4 rfl (q := 0) rfl ?_
    refine z_bipush C dX7_longest_5 (v := nI 8) (by decide) ?_
    refine z_icmp_ge C dX7_longest_7 (tgt := 58) (by decide) (fun h7 => absurd h7 (nI_ge hw (by omega))) (fun h7 => ?_)
    refine z_aload_n C dX7_longest_10 rfl (q := 2) rfl ?_
    refine zg_X7_ring C (k := 0) (hL _ (by unfold live; omega)) (by rfl) i7 (by decide +kernel) (k' := 3) (RC_ring hR) dX7_longest_11 ?_
    refine z_aload_n C dX7_longest_14 rfl (q := 2) rfl ?_
    refine zg_X7_wordRow C (k := 0) (hL _ (by unfold live; omega)) (by rfl) i7 (by decide +kernel) (k' := 2) (RC_wordRow hR) dX7_longest_15 ?_
    refine z_iload_n C dX7_longest_18 rfl (q := 0) rfl ?_
    refine z_aaload C (k := 2) (hL _ (by unfold live; omega)) (by rfl) (by decide) (j := w) rfl (by rw [show ln 2 = 8 from rfl]; omega) (by rw [show ln 2 = 8 from rfl]; decide) (v := .ref (a (20 + w))) (by rw [RC_word hR (by omega)]; rfl) dX7_longest_19 ?_
    refine z_pI C (z_runV C (As := [Value.ref (a (20 + w))]) (rest := []) (c_X3_fits l D cy a L c g r nl nk hL hR hI x hX w (by omega)) (cwV 1 C.2.2.2.2.2.1 gX7_longest_X3_fits rfl rfl rfl (by decide +kernel) ⟨Nat.le_of_ble_eq_true rfl, Nat.le_of_ble_eq_true rfl⟩) (hL _ (by unfold live; omega)) (zF_k3 (by rfl)) rfl rfl rfl rfl (Nat.le_of_ble_eq_true rfl) dX7_longest_20 ⟨Nat.zero_le _, Nat.zero_le _⟩) (fun v20 e20 => ?_)
    rcases e20 with ⟨rfl, e20⟩ | ⟨rfl, e20⟩
    · refine z_if_eq C dX7_longest_23 (tgt := 52) (by decide) (fun h23 => absurd h23 (by decide)) (fun h23 => ?_)
      cases hb : longO c x w with
      | none =>
        refine z_lveq (lv' := [(2, Value.int (nI w)), (1, Value.int (-1)), (0, Value.ref (a 0))]) rfl ?_
        refine z_iload_n C dX7_longest_26 rfl (q := 1) rfl ?_
        refine z_iconst C dX7_longest_27 (v := -1) (by decide) ?_
        refine z_icmp_eq C dX7_longest_28 (tgt := 50) (by decide) (fun h28 => ?_) (fun h28 => absurd (rfl) h28)
        refine z_iload_n C dX7_longest_50 rfl (q := 0) rfl ?_
        refine z_istore_n C dX7_longest_51 rfl (by decide) (lv' := [(1, Value.int (nI w)), (2, Value.int (nI w)), (0, Value.ref (a 0))]) rfl ?_
        refine z_iinc C dX7_longest_52 (q := 1) rfl (v := nI (w + 1)) (nI_1 _) (by decide) (lv' := [(2, Value.int (nI (w + 1))), (1, Value.int (nI w)), (0, Value.ref (a 0))]) rfl ?_
        refine z_goto C dX7_longest_55 (tgt := 4) (by decide) ?_
        have he : longO c x (w + 1) = some w := by rw [longO_n hb]; exact pick_pos e20
        rw [he] at ihw
        exact ihw (fun b h => by cases h; exact hw)
      | some b =>
        have hb8 := hvw b hb
        refine z_lveq (lv' := [(2, Value.int (nI w)), (1, Value.int (nI b)), (0, Value.ref (a 0))]) rfl ?_
        refine z_iload_n C dX7_longest_26 rfl (q := 1) rfl ?_
        refine z_iconst C dX7_longest_27 (v := -1) (by decide) ?_
        refine z_icmp_eq C dX7_longest_28 (tgt := 50) (by decide) (fun h28 => absurd h28 (fun h => m1_nI (by omega) h.symm)) (fun h28 => ?_)
        refine z_aload_n C dX7_longest_31 rfl (q := 2) rfl ?_
        refine z_aload_n C dX7_longest_32 rfl (q := 2) rfl ?_
        refine zg_X7_wordRow C (k := 0) (hL _ (by unfold live; omega)) (by rfl) i7 (by decide +kernel) (k' := 2) (RC_wordRow hR) dX7_longest_33 ?_
        refine z_iload_n C dX7_longest_36 rfl (q := 0) rfl ?_
        refine z_aaload C (k := 2) (hL _ (by unfold live; omega)) (by rfl) (by decide) (j := w) rfl (by rw [show ln 2 = 8 from rfl]; omega) (by rw [show ln 2 = 8 from rfl]; decide) (v := .ref (a (20 + w))) (by rw [RC_word hR (by omega)]; rfl) dX7_longest_37 ?_
        refine z_aload_n C dX7_longest_38 rfl (q := 2) rfl ?_
        refine zg_X7_wordRow C (k := 0) (hL _ (by unfold live; omega)) (by rfl) i7 (by decide +kernel) (k' := 2) (RC_wordRow hR) dX7_longest_39 ?_
        refine z_iload_n C dX7_longest_42 rfl (q := 1) rfl ?_
        refine z_aaload C (k := 2) (hL _ (by unfold live; omega)) (by rfl) (by decide) (j := b) rfl (by rw [show ln 2 = 8 from rfl]; omega) (by rw [show ln 2 = 8 from rfl]; decide) (v := .ref (a (20 + b))) (by rw [RC_word hR (by omega)]; rfl) dX7_longest_43 ?_
        refine z_pI C (z_runV C (As := [Value.ref (a (20 + w)), Value.ref (a (20 + b))]) (rest := []) (c_X7_isLonger l D cy a L c g r nl nk hL hR hI x hX w b (by omega) (by omega)) (cwV 2 C.2.2.2.2.2.1 gX7_longest_X7_isLonger rfl rfl rfl (by decide +kernel) ⟨Nat.le_of_ble_eq_true rfl, Nat.le_of_ble_eq_true rfl⟩) (hL _ (by unfold live; omega)) (zF_k7 (by rfl)) rfl rfl rfl rfl (Nat.le_of_ble_eq_true rfl) dX7_longest_44 ⟨Nat.zero_le _, Nat.zero_le _⟩) (fun v44 e44 => ?_)
        rcases e44 with ⟨rfl, e44⟩ | ⟨rfl, e44⟩
        · refine z_if_eq C dX7_longest_47 (tgt := 52) (by decide) (fun h47 => absurd h47 (by decide)) (fun h47 => ?_)
          refine z_iload_n C dX7_longest_50 rfl (q := 0) rfl ?_
          refine z_istore_n C dX7_longest_51 rfl (by decide) (lv' := [(1, Value.int (nI w)), (2, Value.int (nI w)), (0, Value.ref (a 0))]) rfl ?_
          refine z_iinc C dX7_longest_52 (q := 1) rfl (v := nI (w + 1)) (nI_1 _) (by decide) (lv' := [(2, Value.int (nI (w + 1))), (1, Value.int (nI w)), (0, Value.ref (a 0))]) rfl ?_
          refine z_goto C dX7_longest_55 (tgt := 4) (by decide) ?_
          have he : longO c x (w + 1) = some w := by rw [longO_s hb]; exact pick_pos ⟨e20, e44⟩
          rw [he] at ihw
          exact ihw (fun b h => by cases h; exact hw)
        · refine z_if_eq C dX7_longest_47 (tgt := 52) (by decide) (fun h47 => ?_) (fun h47 => absurd h47 (by decide))
          refine z_iinc C dX7_longest_52 (q := 0) rfl (v := nI (w + 1)) (nI_1 _) (by decide) (lv' := [(2, Value.int (nI (w + 1))), (1, Value.int (nI b)), (0, Value.ref (a 0))]) rfl ?_
          refine z_goto C dX7_longest_55 (tgt := 4) (by decide) ?_
          have he : longO c x (w + 1) = some b := by rw [longO_s hb]; exact pick_neg (fun h => e44 h.2)
          rw [he] at ihw
          exact ihw (fun b h => by cases h; exact hb8)
    · refine z_if_eq C dX7_longest_23 (tgt := 52) (by decide) (fun h23 => ?_) (fun h23 => absurd h23 (by decide))
      refine z_iinc C dX7_longest_52 (q := 0) rfl (v := nI (w + 1)) (nI_1 _) (by decide) (lv' := [(2, Value.int (nI (w + 1))), (1, Value.int (lo2i (longO c x w))), (0, Value.ref (a 0))]) rfl ?_
      refine z_goto C dX7_longest_55 (tgt := 4) (by decide) ?_
      have he : longO c x (w + 1) = longO c x w := by
        cases hb : longO c x w with
        | none => rw [longO_n hb]; exact pick_neg e20
        | some b => rw [longO_s hb]; exact pick_neg (fun h => e20 h.1)
      rw [he] at ihw
      exact ihw hvw

set_option maxHeartbeats 4000000 in
set_option maxRecDepth 100000 in
theorem c_X7_spell (l : Launch) (D : va_G) (cy : Nat → ClassId) (a : Nat → Nat) (L : List Nat) (c : Nat → Nat → Int32) (g : Nat → Nat → Int64) (r : Nat → Nat → Option Nat) (nl nk : Nat) (hL : zLv L nl nk) (hR : RC r nl nk) (hI : CI c nl nk) (word letter : Int32) : zXI l yX7_spell wsX7_spell { frames := 2, cells := 0, slots := 0, locals := 43 } D cy a L c g r [Value.ref (a 0), Value.int word, Value.int letter] (fun v ω => (¬ ((0 ≤ word.toInt ∧ word.toInt < 8) ∧ (0 ≤ letter.toInt ∧ letter.toInt < (nl : Int))) ∧ v = -2 ∧ ω = (a, L, c, g, r)) ∨ (((0 ≤ word.toInt ∧ word.toInt < 8) ∧ (0 ≤ letter.toInt ∧ letter.toInt < (nl : Int))) ∧ nn c (20 + tn word) 1 = 10 ∧ v = -4 ∧ ω = (a, L, c, g, r)) ∨ (((0 ≤ word.toInt ∧ word.toInt < 8) ∧ (0 ≤ letter.toInt ∧ letter.toInt < (nl : Int))) ∧ nn c (20 + tn word) 1 < 10 ∧ v = nI (nn c (20 + tn word) 1 + 1) ∧ ω = (a, L, up2 c (20 + tn word) 1 (nI (nn c (20 + tn word) 1 + 1)), g, up2 r (30 + tn word) (nn c (20 + tn word) 1) (some (100 + tn letter))))) 0 0 := by
  refine z_enter cX7_spell 5 (some .int) (by decide) (Nat.le_of_ble_eq_true rfl) ?_
  intro p e s m below meth co C hin
  have C : zC p s m _ meth co D cy _ cX7_spell 5 (some .int) wsX7_spell RX7 := C
  have i6 : ∀ w ∈ wsX60, w ∈ wsX7_spell := by decide +kernel
  have h16 := CI_nl16 hI
  refine z_aload_n C dX7_spell_0 rfl (q := 0) rfl ?_
  refine z_iload_n C dX7_spell_1 rfl (q := 1) rfl ?_
  refine z_pQ C (z_runV C (As := [Value.int word]) (rest := []) (c_X7_wordAt l D cy a L c g r nl nk hL hR hI word) (cwV 1 C.2.2.2.2.2.1 gX7_spell_X7_wordAt rfl rfl rfl (by decide +kernel) ⟨Nat.le_of_ble_eq_true rfl, Nat.le_of_ble_eq_true rfl⟩) (hL _ (by unfold live; omega)) (zF_k7 (by rfl)) rfl rfl rfl rfl (Nat.le_of_ble_eq_true rfl) dX7_spell_2 ⟨Nat.zero_le _, Nat.zero_le _⟩) (fun v2 e2 => ?_)
  rcases e2 with ⟨w, hw, rfl, rfl⟩ | ⟨rfl, e2⟩
  · have tw := nI_toInt (n := w) (by omega)
    have uw := tn_nI (j := w) (by omega)
    refine z_astore_n C dX7_spell_5 rfl (by decide) (lv' := [(3, Value.ref (a (20 + w))), (0, Value.ref (a 0)), (1, Value.int (nI w)), (2, Value.int letter)]) rfl ?_
    refine z_aload_n C dX7_spell_6 rfl (q := 1) rfl ?_
    refine z_iload_n C dX7_spell_7 rfl (q := 3) rfl ?_
    refine z_pQ C (z_runV C (As := [Value.int letter]) (rest := []) (c_X7_letterAt l D cy a L c g r nl nk hL hR hI letter) (cwV 1 C.2.2.2.2.2.1 gX7_spell_X7_letterAt rfl rfl rfl (by decide +kernel) ⟨Nat.le_of_ble_eq_true rfl, Nat.le_of_ble_eq_true rfl⟩) (hL _ (by unfold live; omega)) (zF_k7 (by rfl)) rfl rfl rfl rfl (Nat.le_of_ble_eq_true rfl) dX7_spell_8 ⟨Nat.zero_le _, Nat.zero_le _⟩) (fun v8 e8 => ?_)
    rcases e8 with ⟨j, hj, rfl, rfl⟩ | ⟨rfl, e8⟩
    · have tj := nI_toInt (n := j) (by omega)
      have uj := tn_nI (j := j) (by omega)
      refine z_astore C dX7_spell_11 (by decide) (lv' := [(4, Value.ref (a (100 + j))), (3, Value.ref (a (20 + w))), (0, Value.ref (a 0)), (1, Value.int (nI w)), (2, Value.int (nI j))]) rfl ?_
      refine z_aload_n C dX7_spell_13 rfl (q := 1) rfl ?_
      refine z_ifnull C dX7_spell_14 ?_
      refine z_aload C dX7_spell_17 (q := 0) rfl ?_
      refine z_ifnonnull C dX7_spell_19 (tgt := 25) (by decide) ?_
      refine z_aload_n C dX7_spell_25 rfl (q := 1) rfl ?_
      refine z_aload C dX7_spell_26 (q := 0) rfl ?_
      refine z_xI C (z_runV C (As := [Value.ref (a (100 + j))]) (rest := []) (c_X6_append l D cy a L c g r nl nk hL hR hI w (by omega) j (by omega)) (cwV 1 C.2.2.2.2.2.1 gX7_spell_X6_append rfl rfl rfl (by decide +kernel) ⟨Nat.le_of_ble_eq_true rfl, Nat.le_of_ble_eq_true rfl⟩) (hL _ (by unfold live; omega)) (zF_k6 (kd_w (by omega))) rfl rfl rfl rfl (Nat.le_of_ble_eq_true rfl) dX7_spell_28 ⟨Nat.zero_le _, Nat.zero_le _⟩) (fun v28 ω28 e28 => ?_)
      rcases e28 with ⟨rfl, h10, rfl⟩ | ⟨rfl, h10, rfl⟩
      · dsimp only
        refine z_if_eq C dX7_spell_31 (tgt := 41) (by decide) (fun h31 => absurd h31 (by decide)) (fun h31 => ?_)
        refine z_aload_n C dX7_spell_34 rfl (q := 1) rfl ?_
        refine zg_X6_size C (k := 20 + w) (hL _ (by unfold live; omega)) (kd_w (by omega)) i6 (by decide +kernel) (v := nI (nn c (20 + w) 1 + 1)) (by simp [up2]) dX7_spell_35 ?_
        refine z_goto C dX7_spell_38 (tgt := 43) (by decide) ?_
        exact z_iret C rfl (Nat.le_refl _) (Nat.le_refl _) dX7_spell_43 (Or.inr (Or.inr ⟨by omega, by rw [uw]; exact h10, by rw [uw], by rw [uw, uj]⟩))
      · dsimp only
        refine z_if_eq C dX7_spell_31 (tgt := 41) (by decide) (fun h31 => ?_) (fun h31 => absurd h31 (by decide))
        refine z_bipush C dX7_spell_41 (v := -4) (by decide) ?_
        exact z_iret C rfl (Nat.le_refl _) (Nat.le_refl _) dX7_spell_43 (Or.inr (Or.inl ⟨by omega, by rw [uw]; exact h10, rfl, rfl⟩))
    · refine z_astoreN C dX7_spell_11 (by decide) (lv' := [(4, Value.null), (3, Value.ref (a (20 + w))), (0, Value.ref (a 0)), (1, Value.int (nI w)), (2, Value.int letter)]) rfl ?_
      refine z_aload_n C dX7_spell_13 rfl (q := 1) rfl ?_
      refine z_ifnull C dX7_spell_14 ?_
      refine z_aloadN C dX7_spell_17 (q := 0) rfl ?_
      refine z_ifnonnullN C dX7_spell_19 ?_
      refine z_bipush C dX7_spell_22 (v := -2) (by decide) ?_
      exact z_iret C rfl (Nat.le_refl _) (Nat.le_refl _) dX7_spell_24 (Or.inl ⟨by omega, rfl, rfl⟩)
  · refine z_astore_nN C dX7_spell_5 rfl (by decide) (lv' := [(3, Value.null), (0, Value.ref (a 0)), (1, Value.int word), (2, Value.int letter)]) rfl ?_
    refine z_aload_n C dX7_spell_6 rfl (q := 1) rfl ?_
    refine z_iload_n C dX7_spell_7 rfl (q := 3) rfl ?_
    refine z_pQ C (z_runV C (As := [Value.int letter]) (rest := []) (c_X7_letterAt l D cy a L c g r nl nk hL hR hI letter) (cwV 1 C.2.2.2.2.2.1 gX7_spell_X7_letterAt rfl rfl rfl (by decide +kernel) ⟨Nat.le_of_ble_eq_true rfl, Nat.le_of_ble_eq_true rfl⟩) (hL _ (by unfold live; omega)) (zF_k7 (by rfl)) rfl rfl rfl rfl (Nat.le_of_ble_eq_true rfl) dX7_spell_8 ⟨Nat.zero_le _, Nat.zero_le _⟩) (fun v8 e8 => ?_)
    rcases e8 with ⟨j, hj, rfl, rfl⟩ | ⟨rfl, e8⟩
    · have tj := nI_toInt (n := j) (by omega)
      have uj := tn_nI (j := j) (by omega)
      refine z_astore C dX7_spell_11 (by decide) (lv' := [(4, Value.ref (a (100 + j))), (3, Value.null), (0, Value.ref (a 0)), (1, Value.int word), (2, Value.int (nI j))]) rfl ?_
      refine z_aload_nN C dX7_spell_13 rfl (q := 1) rfl ?_
      refine z_ifnullN C dX7_spell_14 (tgt := 22) (by decide) ?_
      refine z_bipush C dX7_spell_22 (v := -2) (by decide) ?_
      exact z_iret C rfl (Nat.le_refl _) (Nat.le_refl _) dX7_spell_24 (Or.inl ⟨by omega, rfl, rfl⟩)
    · refine z_astoreN C dX7_spell_11 (by decide) (lv' := [(4, Value.null), (3, Value.null), (0, Value.ref (a 0)), (1, Value.int word), (2, Value.int letter)]) rfl ?_
      refine z_aload_nN C dX7_spell_13 rfl (q := 1) rfl ?_
      refine z_ifnullN C dX7_spell_14 (tgt := 22) (by decide) ?_
      refine z_bipush C dX7_spell_22 (v := -2) (by decide) ?_
      exact z_iret C rfl (Nat.le_refl _) (Nat.le_refl _) dX7_spell_24 (Or.inl ⟨by omega, rfl, rfl⟩)
