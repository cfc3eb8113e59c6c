/-- the same but for the laid slots -/
def off4 (c c' : Nat → Nat → Int32) : Prop := ∀ k, k ≠ 4 → c' k = c k
theorem off4_up (c : Nat → Nat → Int32) (f : Nat → Int32) : off4 c (up1 c 4 f) := fun k hk => up1_k c f hk
theorem off4_rf (c : Nat → Nat → Int32) : off4 c c := fun _ _ => rfl
theorem off4_tr {c c1 c2 : Nat → Nat → Int32} (h : off4 c c1) (h2 : off4 c1 c2) : off4 c c2 := fun k hk => (h2 k hk).trans (h k hk)
theorem off4_nn {c c' : Nat → Nat → Int32} (h : off4 c c') {k : Nat} (hk : k ≠ 4) (j : Nat) : nn c' k j = nn c k j := by unfold nn; rw [h k hk]
theorem off4_eq {c c' : Nat → Nat → Int32} (h : off4 c c') : c' = up1 c 4 (c' 4) := by
  funext k; unfold up1; split
  · rename_i e; subst e; rfl
  · rename_i e; exact h k e
theorem CI_off4 {c c' : Nat → Nat → Int32} {nl nk : Nat} (h : off4 c c') (hI : CI c nl nk) : CI c' nl nk := by rw [off4_eq h]; exact CI_4 _ hI
theorem XC_off4 {c c' : Nat → Nat → Int32} {r : Nat → Nat → Option Nat} {nl : Nat} {x : Nat → Nat → Nat} (h : off4 c c') (hX : XC c r nl x) : XC c' r nl x := fun w hw i hi => hX w hw i (by rw [off4_nn h (by omega)] at hi; exact hi)
theorem wideC_off4 {c c' : Nat → Nat → Int32} (h : off4 c c') (x : Nat → Nat → Nat) (w : Nat) : wideC c' x w = wideC c x w := by
  unfold wideC; rw [off4_nn h (k := 20 + w) (by omega)]
  exact sumF_congr (fun i _ => by rw [off4_nn h (k := 100 + x w i) (by omega), off4_nn h (k := 3) (by omega)])
theorem fitC_off4 {c c' : Nat → Nat → Int32} (h : off4 c c') (x : Nat → Nat → Nat) (w : Nat) : fitC c' x w ↔ fitC c x w := by
  unfold fitC; rw [wideC_off4 h, off4_nn h (by omega), off4_nn h (by omega)]
theorem layC_off4 {c c' : Nat → Nat → Int32} (h : off4 c c') (x : Nat → Nat → Nat) (w : Nat) : layC c' x w = layC c x w := by
  funext q
  unfold layC; rw [off4_nn h (k := 3) (by omega), off4_nn h (k := 20 + w) (by omega)]
  exact layV_congr (fun i _ => ⟨off4_nn h (by omega) _, fun k _ => off4_nn h (by omega) _⟩) q
theorem agC_off4 {c c' : Nat → Nat → Int32} (h : off4 c c') (sh : Nat) (lay : Nat → Nat) (t lk : Nat) : agC c' sh lay t lk ↔ agC c sh lay t lk := by
  unfold agC; rw [off4_nn h (by omega), off4_nn h (by omega), h (50 + sh) (by omega)]
theorem inC_off4 {c c' : Nat → Nat → Int32} (h : off4 c c') (sh : Nat) (lay : Nat → Nat) (lk t : Nat) : inC c' sh lay lk t = inC c sh lay lk t := sumF_congr (fun z _ => one_congr (agC_off4 h sh lay z lk))
theorem outC_off4 {c c' : Nat → Nat → Int32} (h : off4 c c') (sh : Nat) (lay : Nat → Nat) (lk : Nat) : outC c' sh lay lk = outC c sh lay lk := by
  unfold outC; rw [off4_nn h (by omega)]
  exact sumF_congr (fun b _ => inC_off4 h sh lay b _)
theorem layC_le {c : Nat → Nat → Int32} {r : Nat → Nat → Option Nat} {nl nk : Nat} (hI : CI c nl nk) {x : Nat → Nat → Nat} (hX : XC c r nl x) {w : Nat} (hw : w < 8) (q : Nat) : layC c x w q ≤ 31 := layV_le (fun i hi k hk => (CI_st hI (XC_l hX hw hi) (by have := (CI_wi hI (XC_l hX hw hi)).2.2; omega)).2.2) q
/-- how many readings of a sheet are a word's -/
noncomputable def rdC (c : Nat → Nat → Int32) (x : Nat → Nat → Nat) (sh w : Nat) : Nat := pick (fitC c x w) (outC c sh (layC c x w) 4) 0
theorem rdC_off4 {c c' : Nat → Nat → Int32} (h : off4 c c') (x : Nat → Nat → Nat) (sh w : Nat) : rdC c' x sh w = rdC c x sh w := by
  unfold rdC; rw [layC_off4 h, outC_off4 h]; exact pick_congr (fitC_off4 h x w)
theorem rdC_le {c : Nat → Nat → Int32} {nl nk : Nat} (hI : CI c nl nk) (x : Nat → Nat → Nat) (sh w : Nat) : rdC c x sh w ≤ 240 := by
  have h1 := outC_le c sh (layC c x w) 4
  have h2 := (CI_S hI).2.2
  unfold rdC
  rcases Classical.em (fitC c x w) with h | h
  · rw [pick_pos h]; omega
  · rw [pick_neg h]; omega

noncomputable def cutC (c : Nat → Nat → Int32) (x : Nat → Nat → Nat) (word turn look i : Int32) : Int32 := if (0 ≤ word.toInt ∧ word.toInt < 8) ∧ (0 ≤ turn.toInt ∧ turn.toInt < (nn c 3 1 : Int)) ∧ (0 ≤ look.toInt ∧ look.toInt ≤ 3) ∧ (0 ≤ i.toInt ∧ i.toInt < (nn c 3 1 : Int)) then pick (fitC c x (tn word)) (nI (seenV (nn c 3 1) (layC c x (tn word)) (tn turn) (tn look) (tn i))) (-3) else -2

set_option maxHeartbeats 4000000 in
set_option maxRecDepth 100000 in
theorem c_X7_cut (l : Launch) (D : va_G) (cy : Nat → ClassId) (a : Nat → Nat) (L : List Nat) (c : Nat → Nat → Int32) (g : Nat → Nat → Int64) (r : Nat → Nat → Option Nat) (nl nk : Nat) (hL : zLv L nl nk) (hR : RC r nl nk) (hI : CI c nl nk) (x : Nat → Nat → Nat) (hX : XC c r nl x) (word turn look i : Int32) : zCI l yX7_cut wsX7_cut { frames := 2, cells := 0, slots := 0, locals := 48 } D cy a L c g r [Value.ref (a 0), Value.int word, Value.int turn, Value.int look, Value.int i] (fun v c' => off4 c c' ∧ v = cutC c x word turn look i) := by
  refine z_enter cX7_cut 7 (some .int) (by decide) (Nat.le_of_ble_eq_true rfl) ?_
  intro p e s m below meth co C hin
  have C : zC p s m _ meth co D cy _ cX7_cut 7 (some .int) wsX7_cut RX7 := C
  have i3 : ∀ w ∈ wsX30, w ∈ wsX7_cut := by decide +kernel
  have i7 : ∀ w ∈ wsX70, w ∈ wsX7_cut := by decide +kernel
  refine z_aload_n C dX7_cut_0 rfl (q := 0) rfl ?_
  refine z_iload_n C dX7_cut_1 rfl (q := 1) rfl ?_
  refine z_pQ C (z_runV C (As := [Value.int word]) (rest := []) (c_X7_wordAt l D cy a L c g r nl nk hL hR hI word) (cwV 1 C.2.2.2.2.2.1 gX7_cut_X7_wordAt rfl rfl rfl (by decide +kernel) ⟨Nat.le_of_ble_eq_true rfl, Nat.le_of_ble_eq_true rfl⟩) (hL _ (by unfold live; omega)) (zF_k7 (by rfl)) rfl rfl rfl rfl (Nat.le_of_ble_eq_true rfl) dX7_cut_2 ⟨Nat.zero_le _, Nat.zero_le _⟩) (fun v2 e2 => ?_)
  rcases e2 with ⟨w, hw, rfl, rfl⟩ | ⟨rfl, e2⟩
  · have tw := nI_toInt (n := w) (by omega)
    have uw := tn_nI (j := w) (by omega)
    have hS := (CI_S hI).2
    refine z_astore C dX7_cut_5 (by decide) (lv' := [(5, Value.ref (a (20 + w))), (0, Value.ref (a 0)), (1, Value.int (nI w)), (2, Value.int turn), (3, Value.int look), (4, Value.int i)]) rfl ?_
    refine z_aload_n C dX7_cut_7 rfl (q := 1) rfl ?_
    refine zg_X7_ring C (k := 0) (hL _ (by unfold live; omega)) (by rfl) i7 (by decide +kernel) (k' := 3) (RC_ring hR) dX7_cut_8 ?_
    refine zg_X3_slotCount C (k := 3) (hL _ (by unfold live; omega)) (by rfl) i3 (by decide +kernel) (v := nI (nn c 3 1)) (CI_S hI).1 dX7_cut_11 ?_
    refine z_iconst C dX7_cut_14 (v := 1) (by decide) ?_
    refine z_isub C dX7_cut_15 (v := (nI (nn c 3 1)) - 1) rfl ?_
    refine z_istore C dX7_cut_16 (by decide) (lv' := [(6, Value.int ((nI (nn c 3 1)) - 1)), (5, Value.ref (a (20 + w))), (0, Value.ref (a 0)), (1, Value.int (nI w)), (2, Value.int turn), (3, Value.int look), (4, Value.int i)]) rfl ?_
    refine z_aload C dX7_cut_18 (q := 1) rfl ?_
    refine z_ifnull C dX7_cut_20 ?_
    refine z_iload_n C dX7_cut_23 rfl (q := 4) rfl ?_
    refine z_iconst C dX7_cut_24 (v := 0) (by decide) ?_
    refine z_iload C dX7_cut_25 (q := 0) rfl ?_
    refine z_pI C (z_runS C (As := [Value.int turn, Value.int 0, Value.int ((nI (nn c 3 1)) - 1)]) (rest := []) (c_X7_within l D cy a L c g r turn 0 ((nI (nn c 3 1)) - 1) (V := turn.toInt) (LO := 0) (HI := ((nn c 3 1 : Nat) : Int) - 1) rfl (show (0 : Int32).toInt = 0 from by decide) (tI_pred (by omega))) (va_cwS 3 C.2.2.2.2.2.1 gX7_cut_X7_within rfl rfl rfl (by decide +kernel) ⟨Nat.le_of_ble_eq_true rfl, Nat.le_of_ble_eq_true rfl⟩) rfl rfl (Nat.le_of_ble_eq_true rfl) dX7_cut_27 ⟨Nat.zero_le _, Nat.zero_le _⟩) (fun v27 e27 => ?_)
    rcases e27 with ⟨rfl, e27⟩ | ⟨rfl, e27⟩
    · obtain ⟨tr, htr, rfl⟩ := arg_pr e27
      have ttr := nI_toInt (n := tr) (by omega)
      have utr := tn_nI (j := tr) (by omega)
      refine z_if_eq C dX7_cut_30 (tgt := 53) (by decide) (fun h30 => absurd h30 (by decide)) (fun h30 => ?_)
      refine z_iload_n C dX7_cut_33 rfl (q := 5) rfl ?_
      refine z_iconst C dX7_cut_34 (v := 0) (by decide) ?_
      refine z_iconst C dX7_cut_35 (v := 3) (by decide) ?_
      refine z_pI C (z_runS C (As := [Value.int look, Value.int 0, Value.int 3]) (rest := []) (c_X7_within l D cy a L c g r look 0 3 (V := look.toInt) (LO := 0) (HI := 3) rfl (show (0 : Int32).toInt = 0 from by decide) (show (3 : Int32).toInt = 3 from by decide)) (va_cwS 3 C.2.2.2.2.2.1 gX7_cut_X7_within rfl rfl rfl (by decide +kernel) ⟨Nat.le_of_ble_eq_true rfl, Nat.le_of_ble_eq_true rfl⟩) rfl rfl (Nat.le_of_ble_eq_true rfl) dX7_cut_36 ⟨Nat.zero_le _, Nat.zero_le _⟩) (fun v36 e36 => ?_)
      rcases e36 with ⟨rfl, e36⟩ | ⟨rfl, e36⟩
      · obtain ⟨lk, hlk, rfl⟩ := arg_nI (b := 3) e36
        have tlk := nI_toInt (n := lk) (by omega)
        have ulk := tn_nI (j := lk) (by omega)
        refine z_if_eq C dX7_cut_39 (tgt := 53) (by decide) (fun h39 => absurd h39 (by decide)) (fun h39 => ?_)
        refine z_iload C dX7_cut_42 (q := 6) rfl ?_
        refine z_iconst C dX7_cut_44 (v := 0) (by decide) ?_
        refine z_iload C dX7_cut_45 (q := 0) rfl ?_
        refine z_pI C (z_runS C (As := [Value.int i, Value.int 0, Value.int ((nI (nn c 3 1)) - 1)]) (rest := []) (c_X7_within l D cy a L c g r i 0 ((nI (nn c 3 1)) - 1) (V := i.toInt) (LO := 0) (HI := ((nn c 3 1 : Nat) : Int) - 1) rfl (show (0 : Int32).toInt = 0 from by decide) (tI_pred (by omega))) (va_cwS 3 C.2.2.2.2.2.1 gX7_cut_X7_within rfl rfl rfl (by decide +kernel) ⟨Nat.le_of_ble_eq_true rfl, Nat.le_of_ble_eq_true rfl⟩) rfl rfl (Nat.le_of_ble_eq_true rfl) dX7_cut_47 ⟨Nat.zero_le _, Nat.zero_le _⟩) (fun v47 e47 => ?_)
        rcases e47 with ⟨rfl, e47⟩ | ⟨rfl, e47⟩
        · obtain ⟨ii, hii, rfl⟩ := arg_pr e47
          have tii := nI_toInt (n := ii) (by omega)
          have uii := tn_nI (j := ii) (by omega)
          refine z_if_ne C dX7_cut_50 (tgt := 56) (by decide) (fun h50 => ?_) (fun h50 => absurd h50 (by decide))
          refine z_aload_n C dX7_cut_56 rfl (q := 2) rfl ?_
          refine zg_X7_ring C (k := 0) (hL _ (by unfold live; omega)) (by rfl) i7 (by decide +kernel) (k' := 3) (RC_ring hR) dX7_cut_57 ?_
          refine z_aload C dX7_cut_60 (q := 1) rfl ?_
          refine z_pI C (z_runV C (As := [Value.ref (a (20 + w))]) (rest := []) (c_X3_fits l D cy a L c g r nl nk hL hR hI x hX w (by omega)) (cwV 1 C.2.2.2.2.2.1 gX7_cut_X3_fits rfl rfl rfl (by decide +kernel) ⟨Nat.le_of_ble_eq_true rfl, Nat.le_of_ble_eq_true rfl⟩) (hL _ (by unfold live; omega)) (zF_k3 (by rfl)) rfl rfl rfl rfl (Nat.le_of_ble_eq_true rfl) dX7_cut_62 ⟨Nat.zero_le _, Nat.zero_le _⟩) (fun v62 e62 => ?_)
          rcases e62 with ⟨rfl, e62⟩ | ⟨rfl, e62⟩
          · refine z_if_ne C dX7_cut_65 (tgt := 71) (by decide) (fun h65 => ?_) (fun h65 => absurd h65 (by decide))
            refine z_aload_n C dX7_cut_71 rfl (q := 2) rfl ?_
            refine zg_X7_ring C (k := 0) (hL _ (by unfold live; omega)) (by rfl) i7 (by decide +kernel) (k' := 3) (RC_ring hR) dX7_cut_72 ?_
            refine z_aload C dX7_cut_75 (q := 1) rfl ?_
            refine z_cV C (z_runV C (As := [Value.ref (a (20 + w))]) (rest := []) (c_X3_lay l D cy a L c g r nl nk hL hR hI x hX w (by omega) (by omega)) (cwV 1 C.2.2.2.2.2.1 gX7_cut_X3_lay rfl rfl rfl (by decide +kernel) ⟨Nat.le_of_ble_eq_true rfl, Nat.le_of_ble_eq_true rfl⟩) (hL _ (by unfold live; omega)) (zF_k3 (by rfl)) rfl rfl rfl rfl (Nat.le_of_ble_eq_true rfl) dX7_cut_77 ⟨Nat.zero_le _, Nat.zero_le _⟩) (fun c77 e77 => ?_)
            subst e77
            have h4 : off4 c (up1 c 4 (fun q => if q < 60 then nI (layC c x w q) else c 4 q)) := off4_up c _
            have hy : ∀ q, q < 60 → (up1 c 4 (fun q => if q < 60 then nI (layC c x w q) else c 4 q)) 4 q = nI (layC c x w q) ∧ layC c x w q ≤ 31 := fun q hq => ⟨by rw [up1_self, if_pos hq], layC_le hI hX hw q⟩
            have hn4 := off4_nn h4 (k := 3) (by omega) 1
            refine z_aload_n C dX7_cut_80 rfl (q := 2) rfl ?_
            refine zg_X7_ring C (k := 0) (hL _ (by unfold live; omega)) (by rfl) i7 (by decide +kernel) (k' := 3) (RC_ring hR) dX7_cut_81 ?_
            refine z_iload_n C dX7_cut_84 rfl (q := 4) rfl ?_
            refine z_iload_n C dX7_cut_85 rfl (q := 5) rfl ?_
            refine z_iload C dX7_cut_86 (q := 6) rfl ?_
            refine z_pI C (z_runV C (As := [Value.int (nI tr), Value.int (nI lk), Value.int (nI ii)]) (rest := []) (c_X3_seen l D cy a L (up1 c 4 (fun q => if q < 60 then nI (layC c x w q) else c 4 q)) g r nl nk hL hR (CI_off4 h4 hI) (layC c x w) hy tr lk ii (by omega) (by omega) (by omega)) (cwV 3 C.2.2.2.2.2.1 gX7_cut_X3_seen rfl rfl rfl (by decide +kernel) ⟨Nat.le_of_ble_eq_true rfl, Nat.le_of_ble_eq_true rfl⟩) (hL _ (by unfold live; omega)) (zF_k3 (by rfl)) rfl rfl rfl rfl (Nat.le_of_ble_eq_true rfl) dX7_cut_88 ⟨Nat.zero_le _, Nat.zero_le _⟩) (fun v88 e88 => ?_)
            subst e88
            exact z_iret C rfl (Nat.le_refl _) (Nat.le_refl _) dX7_cut_91 ⟨_, rfl, h4, by rw [cutC, if_pos (by omega), uw, utr, ulk, uii, pick_pos (show fitC c x w from e62), off4_nn h4 (by omega)]⟩
          · refine z_if_ne C dX7_cut_65 (tgt := 71) (by decide) (fun h65 => absurd h65 (by decide)) (fun h65 => ?_)
            refine z_bipush C dX7_cut_68 (v := -3) (by decide) ?_
            exact z_iret C rfl (Nat.le_refl _) (Nat.le_refl _) dX7_cut_70 ⟨_, rfl, off4_rf c, by rw [cutC, if_pos (by omega), uw, pick_neg (show ¬ fitC c x w from e62)]⟩
        · refine z_if_ne C dX7_cut_50 (tgt := 56) (by decide) (fun h50 => absurd h50 (by decide)) (fun h50 => ?_)
          refine z_bipush C dX7_cut_53 (v := -2) (by decide) ?_
          exact z_iret C rfl (Nat.le_refl _) (Nat.le_refl _) dX7_cut_55 ⟨_, rfl, off4_rf c, by rw [cutC, if_neg (by omega)]⟩
      · refine z_if_eq C dX7_cut_39 (tgt := 53) (by decide) (fun h39 => ?_) (fun h39 => absurd h39 (by decide))
        refine z_bipush C dX7_cut_53 (v := -2) (by decide) ?_
        exact z_iret C rfl (Nat.le_refl _) (Nat.le_refl _) dX7_cut_55 ⟨_, rfl, off4_rf c, by rw [cutC, if_neg (by omega)]⟩
    · refine z_if_eq C dX7_cut_30 (tgt := 53) (by decide) (fun h30 => ?_) (fun h30 => absurd h30 (by decide))
      refine z_bipush C dX7_cut_53 (v := -2) (by decide) ?_
      exact z_iret C rfl (Nat.le_refl _) (Nat.le_refl _) dX7_cut_55 ⟨_, rfl, off4_rf c, by rw [cutC, if_neg (by omega)]⟩
  · have hS := (CI_S hI).2
    refine z_astoreN C dX7_cut_5 (by decide) (lv' := [(5, Value.null), (0, Value.ref (a 0)), (1, Value.int word), (2, Value.int turn), (3, Value.int look), (4, Value.int i)]) rfl ?_
    refine z_aload_n C dX7_cut_7 rfl (q := 1) rfl ?_
    refine zg_X7_ring C (k := 0) (hL _ (by unfold live; omega)) (by rfl) i7 (by decide +kernel) (k' := 3) (RC_ring hR) dX7_cut_8 ?_
    refine zg_X3_slotCount C (k := 3) (hL _ (by unfold live; omega)) (by rfl) i3 (by decide +kernel) (v := nI (nn c 3 1)) (CI_S hI).1 dX7_cut_11 ?_
    refine z_iconst C dX7_cut_14 (v := 1) (by decide) ?_
    refine z_isub C dX7_cut_15 (v := (nI (nn c 3 1)) - 1) rfl ?_
    refine z_istore C dX7_cut_16 (by decide) (lv' := [(6, Value.int ((nI (nn c 3 1)) - 1)), (5, Value.null), (0, Value.ref (a 0)), (1, Value.int word), (2, Value.int turn), (3, Value.int look), (4, Value.int i)]) rfl ?_
    refine z_aloadN C dX7_cut_18 (q := 1) rfl ?_
    refine z_ifnullN C dX7_cut_20 (tgt := 53) (by decide) ?_
    refine z_bipush C dX7_cut_53 (v := -2) (by decide) ?_
    exact z_iret C rfl (Nat.le_refl _) (Nat.le_refl _) dX7_cut_55 ⟨_, rfl, off4_rf c, by rw [cutC, if_neg (by omega)]⟩

set_option maxHeartbeats 4000000 in
set_option maxRecDepth 100000 in
theorem c_X7_readingsOfWord (l : Launch) (D : va_G) (cy : Nat → ClassId) (a : Nat → Nat) (L : List Nat) (c : Nat → Nat → Int32) (g : Nat → Nat → Int64) (r : Nat → Nat → Option Nat) (nl nk : Nat) (hL : zLv L nl nk) (hR : RC r nl nk) (hI : CI c nl nk) (x : Nat → Nat → Nat) (hX : XC c r nl x) (w : Nat) (hw : w < 8) (sh : Nat) (hsh : sh < 4) : zCI l yX7_readingsOfWord wsX7_readingsOfWord { frames := 4, cells := 0, slots := 0, locals := 98 } D cy a L c g r [Value.ref (a 0), Value.int (nI w), Value.ref (a (40 + sh))] (fun v c' => off4 c c' ∧ v = nI (rdC c x sh w) ∧ (fitC c x w → ∀ q, q < 60 → c' 4 q = nI (layC c x w q) ∧ layC c x w q ≤ 31)) := by
  refine z_enter cX7_readingsOfWord 3 (some .int) (by decide) (Nat.le_of_ble_eq_true rfl) ?_
  intro p e s m below meth co C hin
  have C : zC p s m _ meth co D cy _ cX7_readingsOfWord 3 (some .int) wsX7_readingsOfWord RX7 := C
  have i7 : ∀ w ∈ wsX70, w ∈ wsX7_readingsOfWord := by decide +kernel
  refine z_aload_n C dX7_readingsOfWord_0 rfl (q := 0) rfl ?_
  refine zg_X7_ring C (k := 0) (hL _ (by unfold live; omega)) (by rfl) i7 (by decide +kernel) (k' := 3) (RC_ring hR) dX7_readingsOfWord_1 ?_
  refine z_aload_n C dX7_readingsOfWord_4 rfl (q := 0) rfl ?_
  refine zg_X7_wordRow C (k := 0) (hL _ (by unfold live; omega)) (by rfl) i7 (by decide +kernel) (k' := 2) (RC_wordRow hR) dX7_readingsOfWord_5 ?_
  refine z_iload_n C dX7_readingsOfWord_8 rfl (q := 1) rfl ?_
  refine z_aaload C (k := 2) (hL _ (by unfold live; omega)) (by rfl) (by decide) (j := w) rfl (by rw [show ln 2 = 8 from rfl]; omega) (by rw [show ln 2 = 8 from rfl]; decide) (v := .ref (a (20 + w))) (by rw [RC_word hR (by omega)]; rfl) dX7_readingsOfWord_9 ?_
  refine z_pI C (z_runV C (As := [Value.ref (a (20 + w))]) (rest := []) (c_X3_fits l D cy a L c g r nl nk hL hR hI x hX w (by omega)) (cwV 1 C.2.2.2.2.2.1 gX7_readingsOfWord_X3_fits rfl rfl rfl (by decide +kernel) ⟨Nat.le_of_ble_eq_true rfl, Nat.le_of_ble_eq_true rfl⟩) (hL _ (by unfold live; omega)) (zF_k3 (by rfl)) rfl rfl rfl rfl (Nat.le_of_ble_eq_true rfl) dX7_readingsOfWord_10 ⟨Nat.zero_le _, Nat.zero_le _⟩) (fun v10 e10 => ?_)
  rcases e10 with ⟨rfl, e10⟩ | ⟨rfl, e10⟩
  · have hS := (CI_S hI).2
    refine z_if_ne C dX7_readingsOfWord_13 (tgt := 18) (by decide) (fun h13 => ?_) (fun h13 => absurd h13 (by decide))
    refine z_aload_n C dX7_readingsOfWord_18 rfl (q := 0) rfl ?_
    refine zg_X7_ring C (k := 0) (hL _ (by unfold live; omega)) (by rfl) i7 (by decide +kernel) (k' := 3) (RC_ring hR) dX7_readingsOfWord_19 ?_
    refine z_aload_n C dX7_readingsOfWord_22 rfl (q := 0) rfl ?_
    refine zg_X7_wordRow C (k := 0) (hL _ (by unfold live; omega)) (by rfl) i7 (by decide +kernel) (k' := 2) (RC_wordRow hR) dX7_readingsOfWord_23 ?_
    refine z_iload_n C dX7_readingsOfWord_26 rfl (q := 1) rfl ?_
    refine z_aaload C (k := 2) (hL _ (by unfold live; omega)) (by rfl) (by decide) (j := w) rfl (by rw [show ln 2 = 8 from rfl]; omega) (by rw [show ln 2 = 8 from rfl]; decide) (v := .ref (a (20 + w))) (by rw [RC_word hR (by omega)]; rfl) dX7_readingsOfWord_27 ?_
    refine z_cV C (z_runV C (As := [Value.ref (a (20 + w))]) (rest := []) (c_X3_lay l D cy a L c g r nl nk hL hR hI x hX w (by omega) (by omega)) (cwV 1 C.2.2.2.2.2.1 gX7_readingsOfWord_X3_lay rfl rfl rfl (by decide +kernel) ⟨Nat.le_of_ble_eq_true rfl, Nat.le_of_ble_eq_true rfl⟩) (hL _ (by unfold live; omega)) (zF_k3 (by rfl)) rfl rfl rfl rfl (Nat.le_of_ble_eq_true rfl) dX7_readingsOfWord_28 ⟨Nat.zero_le _, Nat.zero_le _⟩) (fun c28 e28 => ?_)
    subst e28
    have h4 : off4 c (up1 c 4 (fun q => if q < 60 then nI (layC c x w q) else c 4 q)) := off4_up c _
    have hy : ∀ q, q < 60 → (up1 c 4 (fun q => if q < 60 then nI (layC c x w q) else c 4 q)) 4 q = nI (layC c x w q) ∧ layC c x w q ≤ 31 := fun q hq => ⟨by rw [up1_self, if_pos hq], layC_le hI hX hw q⟩
    refine z_aload_n C dX7_readingsOfWord_31 rfl (q := 0) rfl ?_
    refine zg_X7_ring C (k := 0) (hL _ (by unfold live; omega)) (by rfl) i7 (by decide +kernel) (k' := 3) (RC_ring hR) dX7_readingsOfWord_32 ?_
    refine z_aload_n C dX7_readingsOfWord_35 rfl (q := 2) rfl ?_
    refine z_pI C (z_runV C (As := [Value.ref (a (40 + sh))]) (rest := []) (c_X3_countReadings l D cy a L (up1 c 4 (fun q => if q < 60 then nI (layC c x w q) else c 4 q)) g r nl nk hL hR (CI_off4 h4 hI) (layC c x w) hy sh (by omega)) (cwV 1 C.2.2.2.2.2.1 gX7_readingsOfWord_X3_countReadings rfl rfl rfl (by decide +kernel) ⟨Nat.le_of_ble_eq_true rfl, Nat.le_of_ble_eq_true rfl⟩) (hL _ (by unfold live; omega)) (zF_k3 (by rfl)) rfl rfl rfl rfl (Nat.le_of_ble_eq_true rfl) dX7_readingsOfWord_36 ⟨Nat.zero_le _, Nat.zero_le _⟩) (fun v36 e36 => ?_)
    subst e36
    exact z_iret C rfl (Nat.le_refl _) (Nat.le_refl _) dX7_readingsOfWord_39 ⟨_, rfl, h4, by rw [rdC, pick_pos (show fitC c x w from e10), outC_off4 h4], fun _ => hy⟩
  · refine z_if_ne C dX7_readingsOfWord_13 (tgt := 18) (by decide) (fun h13 => absurd h13 (by decide)) (fun h13 => ?_)
    refine z_iconst C dX7_readingsOfWord_16 (v := 0) (by decide) ?_
    exact z_iret C rfl (Nat.le_refl _) (Nat.le_refl _) dX7_readingsOfWord_17 ⟨_, rfl, off4_rf c, by rw [rdC, pick_neg (show ¬ fitC c x w from e10)]; rfl, fun h => absurd h e10⟩

set_option maxHeartbeats 4000000 in
set_option maxRecDepth 100000 in
theorem c_X7_readings (l : Launch) (D : va_G) (cy : Nat → ClassId) (a : Nat → Nat) (L : List Nat) (c : Nat → Nat → Int32) (g : Nat → Nat → Int64) (r : Nat → Nat → Option Nat) (nl nk : Nat) (hL : zLv L nl nk) (hR : RC r nl nk) (hI : CI c nl nk) (x : Nat → Nat → Nat) (hX : XC c r nl x) (sheet : Int32) : zCI l yX7_readings wsX7_readings { frames := 5, cells := 0, slots := 0, locals := 120 } D cy a L c g r [Value.ref (a 0), Value.int sheet] (fun v c' => ((¬ (0 ≤ sheet.toInt ∧ sheet.toInt ≤ 3) ∧ v = -2 ∧ c' = c) ∨ ((0 ≤ sheet.toInt ∧ sheet.toInt ≤ 3) ∧ nn c (40 + tn sheet) 1 = 1 ∧ v = -11 ∧ c' = up2 c 0 10 1)) ∨ (((0 ≤ sheet.toInt ∧ sheet.toInt ≤ 3) ∧ nn c (40 + tn sheet) 1 = 0) ∧ off4 c c' ∧ v = nI (sumF (rdC c x (tn sheet)) 8))) := by
  refine z_enter cX7_readings 5 (some .int) (by decide) (Nat.le_of_ble_eq_true rfl) ?_
  intro p e s m below meth co C hin
  have C : zC p s m _ meth co D cy _ cX7_readings 5 (some .int) wsX7_readings RX7 := C
  have i7 : ∀ w ∈ wsX70, w ∈ wsX7_readings := by decide +kernel
  refine z_aload_n C dX7_readings_0 rfl (q := 0) rfl ?_
  refine z_iload_n C dX7_readings_1 rfl (q := 1) rfl ?_
  refine z_cI C (z_runV C (As := [Value.int sheet]) (rest := []) (c_X7_troubleOfSheet l D cy a L c g r nl nk hL hR hI sheet) (cwV 1 C.2.2.2.2.2.1 gX7_readings_X7_troubleOfSheet rfl rfl rfl (by decide +kernel) ⟨Nat.le_of_ble_eq_true rfl, Nat.le_of_ble_eq_true rfl⟩) (hL _ (by unfold live; omega)) (zF_k7 (by rfl)) rfl rfl rfl rfl (Nat.le_of_ble_eq_true rfl) dX7_readings_2 ⟨Nat.zero_le _, Nat.zero_le _⟩) (fun v2 c2 e2 => ?_)
  rcases e2 with ⟨hts, rfl, hc⟩ | ⟨hts, htl, rfl, rfl⟩ | ⟨hts, htl, rfl, hc⟩
  · have hc := hc.symm
    subst hc
    refine z_istore_n C dX7_readings_5 rfl (by decide) (lv' := [(2, Value.int (-2)), (0, Value.ref (a 0)), (1, Value.int sheet)]) rfl ?_
    refine z_iload_n C dX7_readings_6 rfl (q := 0) rfl ?_
    refine z_if_eq C dX7_readings_7 (tgt := 12) (by decide) (fun h7 => absurd h7 (by decide)) (fun h7 => ?_)
    refine z_iload_n C dX7_readings_10 rfl (q := 0) rfl ?_
    exact z_iret C rfl (Nat.le_refl _) (Nat.le_refl _) dX7_readings_11 ⟨_, rfl, Or.inl (Or.inl ⟨hts, rfl, rfl⟩)⟩
  · refine z_istore_n C dX7_readings_5 rfl (by decide) (lv' := [(2, Value.int (-11)), (0, Value.ref (a 0)), (1, Value.int sheet)]) rfl ?_
    refine z_iload_n C dX7_readings_6 rfl (q := 0) rfl ?_
    refine z_if_eq C dX7_readings_7 (tgt := 12) (by decide) (fun h7 => absurd h7 (by decide)) (fun h7 => ?_)
    refine z_iload_n C dX7_readings_10 rfl (q := 0) rfl ?_
    exact z_iret C rfl (Nat.le_refl _) (Nat.le_refl _) dX7_readings_11 ⟨_, rfl, Or.inl (Or.inr ⟨hts, htl, rfl, rfl⟩)⟩
  · have hc := hc.symm
    subst hc
    obtain ⟨sh, hsh, rfl⟩ := arg_nI (b := 3) hts
    have tsh := nI_toInt (n := sh) (by omega)
    have ush := tn_nI (j := sh) (by omega)
    rw [ush] at htl
    refine z_istore_n C dX7_readings_5 rfl (by decide) (lv' := [(2, Value.int 0), (0, Value.ref (a 0)), (1, Value.int (nI sh))]) rfl ?_
    refine z_iload_n C dX7_readings_6 rfl (q := 0) rfl ?_
    refine z_if_eq C dX7_readings_7 (tgt := 12) (by decide) (fun h7 => ?_) (fun h7 => absurd h7 (by decide))
    refine z_iconst C dX7_readings_12 (v := nI 0) (by decide) ?_
    refine z_istore_n C dX7_readings_13 rfl (by decide) (lv' := [(3, Value.int (nI 0)), (2, Value.int 0), (0, Value.ref (a 0)), (1, Value.int (nI sh))]) rfl ?_
    refine z_iconst C dX7_readings_14 (v := nI 0) (by decide) ?_
    refine z_istore C dX7_readings_15 (by decide) (lv' := [(4, Value.int (nI 0)), (3, Value.int (nI 0)), (2, Value.int 0), (0, Value.ref (a 0)), (1, Value.int (nI sh))]) rfl ?_
    refine z_forI (fun w c1 => off4 c c1 ∧ True) 0 8 (Nat.zero_le _) (fun w => [(4, Value.int (nI w)), (3, Value.int (nI (sumF (rdC c x sh) w))), (2, Value.int 0), (0, Value.ref (a 0)), (1, Value.int (nI sh))]) ?_ ?_ (⟨off4_rf c, trivial⟩)
    · intro c1 hvw
      refine z_iload C dX7_readings_17 (q := 0) rfl ?_
      refine z_bipush C dX7_readings_19 (v := nI 8) (by decide) ?_
      refine z_icmp_ge C dX7_readings_21 (tgt := 45) (by decide) (fun h21 => ?_) (fun h21 => absurd (Int32.le_refl _) h21)
      refine z_iload_n C dX7_readings_45 rfl (q := 1) rfl ?_
      exact z_iret C rfl (Nat.le_refl _) (Nat.le_refl _) dX7_readings_46 ⟨_, rfl, Or.inr ⟨⟨by omega, by rw [ush]; exact htl⟩, hvw.1, by rw [ush]⟩⟩
    · intro w c1 hlw hw hvw ihw
      have hI1 := CI_off4 hvw.1 hI
      have hX1 := XC_off4 hvw.1 hX
      refine z_iload C dX7_readings_17 (q := 0) rfl ?_
      refine z_bipush C dX7_readings_19 (v := nI 8) (by decide) ?_
      refine z_icmp_ge C dX7_readings_21 (tgt := 45) (by decide) (fun h21 => absurd h21 (nI_ge hw (by omega))) (fun h21 => ?_)
      refine z_iload_n C dX7_readings_24 rfl (q := 1) rfl ?_
      refine z_aload_n C dX7_readings_25 rfl (q := 3) rfl ?_
      refine z_iload C dX7_readings_26 (q := 0) rfl ?_
      refine z_aload_n C dX7_readings_28 rfl (q := 3) rfl ?_
      refine zg_X7_sheetRow C (k := 0) (hL _ (by unfold live; omega)) (by rfl) i7 (by decide +kernel) (k' := 11) (RC_sheetRow hR) dX7_readings_29 ?_
      refine z_iload_n C dX7_readings_32 rfl (q := 4) rfl ?_
      refine z_aaload C (k := 11) (hL _ (by unfold live; omega)) (by rfl) (by decide) (j := sh) rfl (by rw [show ln 11 = 4 from rfl]; omega) (by rw [show ln 11 = 4 from rfl]; decide) (v := .ref (a (40 + sh))) (by rw [RC_sheet hR (by omega)]; rfl) dX7_readings_33 ?_
      refine z_cI C (z_runV C (As := [Value.int (nI w), Value.ref (a (40 + sh))]) (rest := [Value.int (nI (sumF (rdC c x sh) w))]) (c_X7_readingsOfWord l D cy a L c1 g r nl nk hL hR hI1 x hX1 w (by omega) sh (by omega)) (cwV 2 C.2.2.2.2.2.1 gX7_readings_X7_readingsOfWord rfl rfl rfl (by decide +kernel) ⟨Nat.le_of_ble_eq_true rfl, Nat.le_of_ble_eq_true rfl⟩) (hL _ (by unfold live; omega)) (zF_k7 (by rfl)) rfl rfl rfl rfl (Nat.le_of_ble_eq_true rfl) dX7_readings_34 ⟨Nat.zero_le _, Nat.zero_le _⟩) (fun v34 c34 e34 => ?_)
      obtain ⟨ho2, rfl, hfl⟩ := e34
      rw [rdC_off4 hvw.1 x sh w]
      have hrl := rdC_le hI x sh w
      refine z_iadd C dX7_readings_37 (v := nI (sumF (rdC c x sh) (w + 1))) (nI_add _ _) ?_
      refine z_istore_n C dX7_readings_38 rfl (by decide) (lv' := [(3, Value.int (nI (sumF (rdC c x sh) (w + 1)))), (4, Value.int (nI w)), (2, Value.int 0), (0, Value.ref (a 0)), (1, Value.int (nI sh))]) rfl ?_
      refine z_iinc C dX7_readings_39 (q := 1) rfl (v := nI (w + 1)) (nI_1 _) (by decide) (lv' := [(4, Value.int (nI (w + 1))), (3, Value.int (nI (sumF (rdC c x sh) (w + 1)))), (2, Value.int 0), (0, Value.ref (a 0)), (1, Value.int (nI sh))]) rfl ?_
      refine z_goto C dX7_readings_42 (tgt := 17) (by decide) ?_
      exact ihw c34 ⟨off4_tr hvw.1 ho2, trivial⟩

noncomputable def bitC (c : Nat → Nat → Int32) (x : Nat → Nat → Nat) (sh : Nat) : Nat → Int32
  | 0 => 0
  | w + 1 => pick (0 < rdC c x sh w) (bitC c x sh w ||| ((1 : Int32) <<< (nI w &&& 31))) (bitC c x sh w)

set_option maxHeartbeats 4000000 in
set_option maxRecDepth 100000 in
theorem c_X7_words (l : Launch) (D : va_G) (cy : Nat → ClassId) (a : Nat → Nat) (L : List Nat) (c : Nat → Nat → Int32) (g : Nat → Nat → Int64) (r : Nat → Nat → Option Nat) (nl nk : Nat) (hL : zLv L nl nk) (hR : RC r nl nk) (hI : CI c nl nk) (x : Nat → Nat → Nat) (hX : XC c r nl x) (sheet : Int32) : zCI l yX7_words wsX7_words { frames := 5, cells := 0, slots := 0, locals := 120 } D cy a L c g r [Value.ref (a 0), Value.int sheet] (fun v c' => ((¬ (0 ≤ sheet.toInt ∧ sheet.toInt ≤ 3) ∧ v = -2 ∧ c' = c) ∨ ((0 ≤ sheet.toInt ∧ sheet.toInt ≤ 3) ∧ nn c (40 + tn sheet) 1 = 1 ∧ v = -11 ∧ c' = up2 c 0 10 1)) ∨ (((0 ≤ sheet.toInt ∧ sheet.toInt ≤ 3) ∧ nn c (40 + tn sheet) 1 = 0) ∧ off4 c c' ∧ v = bitC c x (tn sheet) 8)) := by
  refine z_enter cX7_words 5 (some .int) (by decide) (Nat.le_of_ble_eq_true rfl) ?_
  intro p e s m below meth co C hin
  have C : zC p s m _ meth co D cy _ cX7_words 5 (some .int) wsX7_words RX7 := C
  have i7 : ∀ w ∈ wsX70, w ∈ wsX7_words := by decide +kernel
  refine z_aload_n C dX7_words_0 rfl (q := 0) rfl ?_
  refine z_iload_n C dX7_words_1 rfl (q := 1) rfl ?_
  refine z_cI C (z_runV C (As := [Value.int sheet]) (rest := []) (c_X7_troubleOfSheet l D cy a L c g r nl nk hL hR hI sheet) (cwV 1 C.2.2.2.2.2.1 gX7_words_X7_troubleOfSheet rfl rfl rfl (by decide +kernel) ⟨Nat.le_of_ble_eq_true rfl, Nat.le_of_ble_eq_true rfl⟩) (hL _ (by unfold live; omega)) (zF_k7 (by rfl)) rfl rfl rfl rfl (Nat.le_of_ble_eq_true rfl) dX7_words_2 ⟨Nat.zero_le _, Nat.zero_le _⟩) (fun v2 c2 e2 => ?_)
  rcases e2 with ⟨hts, rfl, hc⟩ | ⟨hts, htl, rfl, rfl⟩ | ⟨hts, htl, rfl, hc⟩
  · have hc := hc.symm
    subst hc
    refine z_istore_n C dX7_words_5 rfl (by decide) (lv' := [(2, Value.int (-2)), (0, Value.ref (a 0)), (1, Value.int sheet)]) rfl ?_
    refine z_iload_n C dX7_words_6 rfl (q := 0) rfl ?_
    refine z_if_eq C dX7_words_7 (tgt := 12) (by decide) (fun h7 => absurd h7 (by decide)) (fun h7 => ?_)
    refine z_iload_n C dX7_words_10 rfl (q := 0) rfl ?_
    exact z_iret C rfl (Nat.le_refl _) (Nat.le_refl _) dX7_words_11 ⟨_, rfl, Or.inl (Or.inl ⟨hts, rfl, rfl⟩)⟩
  · refine z_istore_n C dX7_words_5 rfl (by decide) (lv' := [(2, Value.int (-11)), (0, Value.ref (a 0)), (1, Value.int sheet)]) rfl ?_
    refine z_iload_n C dX7_words_6 rfl (q := 0) rfl ?_
    refine z_if_eq C dX7_words_7 (tgt := 12) (by decide) (fun h7 => absurd h7 (by decide)) (fun h7 => ?_)
    refine z_iload_n C dX7_words_10 rfl (q := 0) rfl ?_
    exact z_iret C rfl (Nat.le_refl _) (Nat.le_refl _) dX7_words_11 ⟨_, rfl, Or.inl (Or.inr ⟨hts, htl, rfl, rfl⟩)⟩
  · have hc := hc.symm
    subst hc
    obtain ⟨sh, hsh, rfl⟩ := arg_nI (b := 3) hts
    have tsh := nI_toInt (n := sh) (by omega)
    have ush := tn_nI (j := sh) (by omega)
    rw [ush] at htl
    refine z_istore_n C dX7_words_5 rfl (by decide) (lv' := [(2, Value.int 0), (0, Value.ref (a 0)), (1, Value.int (nI sh))]) rfl ?_
    refine z_iload_n C dX7_words_6 rfl (q := 0) rfl ?_
    refine z_if_eq C dX7_words_7 (tgt := 12) (by decide) (fun h7 => ?_) (fun h7 => absurd h7 (by decide))
    refine z_iconst C dX7_words_12 (v := bitC c x sh 0) rfl ?_
    refine z_istore_n C dX7_words_13 rfl (by decide) (lv' := [(3, Value.int (bitC c x sh 0)), (2, Value.int 0), (0, Value.ref (a 0)), (1, Value.int (nI sh))]) rfl ?_
    refine z_iconst C dX7_words_14 (v := nI 0) (by decide) ?_
    refine z_istore C dX7_words_15 (by decide) (lv' := [(4, Value.int (nI 0)), (3, Value.int (bitC c x sh 0)), (2, Value.int 0), (0, Value.ref (a 0)), (1, Value.int (nI sh))]) rfl ?_
    refine z_forI (fun w c1 => off4 c c1 ∧ True) 0 8 (Nat.zero_le _) (fun w => [(4, Value.int (nI w)), (3, Value.int (bitC c x sh w)), (2, Value.int 0), (0, Value.ref (a 0)), (1, Value.int (nI sh))]) ?_ ?_ (⟨off4_rf c, trivial⟩)
    · intro c1 hvw
      refine z_iload C dX7_words_17 (q := 0) rfl ?_
      refine z_bipush C dX7_words_19 (v := nI 8) (by decide) ?_
      refine z_icmp_ge C dX7_words_21 (tgt := 52) (by decide) (fun h21 => ?_) (fun h21 => absurd (Int32.le_refl _) h21)
      refine z_iload_n C dX7_words_52 rfl (q := 1) rfl ?_
      exact z_iret C rfl (Nat.le_refl _) (Nat.le_refl _) dX7_words_53 ⟨_, rfl, Or.inr ⟨⟨by omega, by rw [ush]; exact htl⟩, hvw.1, by rw [ush]⟩⟩
    · intro w c1 hlw hw hvw ihw
      have hI1 := CI_off4 hvw.1 hI
      have hX1 := XC_off4 hvw.1 hX
      refine z_iload C dX7_words_17 (q := 0) rfl ?_
      refine z_bipush C dX7_words_19 (v := nI 8) (by decide) ?_
      refine z_icmp_ge C dX7_words_21 (tgt := 52) (by decide) (fun h21 => absurd h21 (nI_ge hw (by omega))) (fun h21 => ?_)
      refine z_aload_n C dX7_words_24 rfl (q := 3) rfl ?_
      refine z_iload C dX7_words_25 (q := 0) rfl ?_
      refine z_aload_n C dX7_words_27 rfl (q := 3) rfl ?_
      refine zg_X7_sheetRow C (k := 0) (hL _ (by unfold live; omega)) (by rfl) i7 (by decide +kernel) (k' := 11) (RC_sheetRow hR) dX7_words_28 ?_
      refine z_iload_n C dX7_words_31 rfl (q := 4) rfl ?_
      refine z_aaload C (k := 11) (hL _ (by unfold live; omega)) (by rfl) (by decide) (j := sh) rfl (by rw [show ln 11 = 4 from rfl]; omega) (by rw [show ln 11 = 4 from rfl]; decide) (v := .ref (a (40 + sh))) (by rw [RC_sheet hR (by omega)]; rfl) dX7_words_32 ?_
      refine z_cI C (z_runV C (As := [Value.int (nI w), Value.ref (a (40 + sh))]) (rest := []) (c_X7_readingsOfWord l D cy a L c1 g r nl nk hL hR hI1 x hX1 w (by omega) sh (by omega)) (cwV 2 C.2.2.2.2.2.1 gX7_words_X7_readingsOfWord rfl rfl rfl (by decide +kernel) ⟨Nat.le_of_ble_eq_true rfl, Nat.le_of_ble_eq_true rfl⟩) (hL _ (by unfold live; omega)) (zF_k7 (by rfl)) rfl rfl rfl rfl (Nat.le_of_ble_eq_true rfl) dX7_words_33 ⟨Nat.zero_le _, Nat.zero_le _⟩) (fun v33 c33 e33 => ?_)
      obtain ⟨ho2, rfl, hfl⟩ := e33
      rw [rdC_off4 hvw.1 x sh w]
      have hrl := rdC_le hI x sh w
      refine z_if_le C dX7_words_36 (tgt := 46) (by decide) (fun h36 => ?_) (fun h36 => ?_)
      · have q36 := iv_le (nI_toInt (by omega)) (show (0 : Int32).toInt = 0 from by decide) h36
        refine z_iinc C dX7_words_46 (q := 0) rfl (v := nI (w + 1)) (nI_1 _) (by decide) (lv' := [(4, Value.int (nI (w + 1))), (3, Value.int (bitC c x sh w)), (2, Value.int 0), (0, Value.ref (a 0)), (1, Value.int (nI sh))]) rfl ?_
        refine z_goto C dX7_words_49 (tgt := 17) (by decide) ?_
        rw [show bitC c x sh (w + 1) = bitC c x sh w from by rw [bitC]; exact pick_neg (by omega)] at ihw
        exact ihw c33 ⟨off4_tr hvw.1 ho2, trivial⟩
      · have q36 := iv_nle (nI_toInt (by omega)) (show (0 : Int32).toInt = 0 from by decide) h36
        refine z_iload_n C dX7_words_39 rfl (q := 1) rfl ?_
        refine z_iconst C dX7_words_40 (v := 1) (by decide) ?_
        refine z_iload C dX7_words_41 (q := 0) rfl ?_
        refine z_ishl C dX7_words_43 (v := 1 <<< ((nI w) &&& 31)) rfl ?_
        refine z_ior C dX7_words_44 (v := (bitC c x sh w) ||| (1 <<< ((nI w) &&& 31))) rfl ?_
        refine z_istore_n C dX7_words_45 rfl (by decide) (lv' := [(3, Value.int ((bitC c x sh w) ||| (1 <<< ((nI w) &&& 31)))), (4, Value.int (nI w)), (2, Value.int 0), (0, Value.ref (a 0)), (1, Value.int (nI sh))]) rfl ?_
        refine z_iinc C dX7_words_46 (q := 1) rfl (v := nI (w + 1)) (nI_1 _) (by decide) (lv' := [(4, Value.int (nI (w + 1))), (3, Value.int ((bitC c x sh w) ||| (1 <<< ((nI w) &&& 31)))), (2, Value.int 0), (0, Value.ref (a 0)), (1, Value.int (nI sh))]) rfl ?_
        refine z_goto C dX7_words_49 (tgt := 17) (by decide) ?_
        rw [show bitC c x sh (w + 1) = bitC c x sh w ||| ((1 : Int32) <<< (nI w &&& 31)) from by rw [bitC]; exact pick_pos (by omega)] at ihw
        exact ihw c33 ⟨off4_tr hvw.1 ho2, trivial⟩
