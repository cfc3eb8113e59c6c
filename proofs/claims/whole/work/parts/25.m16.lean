theorem CI_10 {c : Nat → Nat → Int32} {nl nk : Nat} (f : Nat → Int32) (h : CI c nl nk) : CI (up1 c 10 f) nl nk := by
  have e : ∀ k, k ≠ 10 → up1 c 10 f k = c k := fun k hk => up1_k c f hk
  have er : ∀ k j lo hi, k ≠ 10 → rng c k j lo hi → rng (up1 c 10 f) k j lo hi := by
    intro k j lo hi hk hr
    unfold rng nn at *; rw [e k hk]; exact hr
  obtain ⟨⟨a1, a2, a3, a4⟩, ⟨b1, b2⟩, c1, d1, ⟨e1, e2, e3, e4⟩, f1, ⟨g1, g2⟩, h1, i1⟩ := h
  refine ⟨⟨a1, a2, by rw [e 0 (by omega)]; exact a3, by rw [e 6 (by omega)]; exact a4⟩, ⟨er _ _ _ _ (by omega) b1, er _ _ _ _ (by omega) b2⟩, fun w hw => er _ _ _ _ (by omega) (c1 w hw), fun i hi => ?_, ⟨er _ _ _ _ (by omega) e1, er _ _ _ _ (by omega) e2, er _ _ _ _ (by omega) e3, er _ _ _ _ (by omega) e4⟩, fun k hk => ?_, ⟨er _ _ _ _ (by omega) g1, er _ _ _ _ (by omega) g2⟩, fun w hw => ?_, fun w hw => ?_⟩
  · obtain ⟨d2, d3, d4, d5⟩ := d1 i hi
    exact ⟨er _ _ _ _ (by omega) d2, er _ _ _ _ (by omega) d3, er _ _ _ _ (by omega) d4, fun j hj => er _ _ _ _ (by omega) (d5 j hj)⟩
  · obtain ⟨f2, f3, f4, f5, f6, f7⟩ := f1 k hk
    exact ⟨er _ _ _ _ (by omega) f2, er _ _ _ _ (by omega) f3, er _ _ _ _ (by omega) f4, er _ _ _ _ (by omega) f5, er _ _ _ _ (by omega) f6, er _ _ _ _ (by omega) f7⟩
  · obtain ⟨h2, h3, h4⟩ := h1 w hw
    exact ⟨er _ _ _ _ (by omega) h2, er _ _ _ _ (by omega) h3, er _ _ _ _ (by omega) h4⟩
  · obtain ⟨i2, i3⟩ := i1 w hw
    exact ⟨er _ _ _ _ (by omega) i2, er _ _ _ _ (by omega) i3⟩

/-- the same but for the stock's run -/
def off10 (c c' : Nat → Nat → Int32) : Prop := ∀ k, k ≠ 10 → c' k = c k
theorem off10_eq {c c' : Nat → Nat → Int32} (h : off10 c c') : c' = up1 c 10 (c' 10) := by
  funext k; unfold up1; split
  · rename_i e; subst e; rfl
  · rename_i e; exact h k e
theorem CI_off10 {c c' : Nat → Nat → Int32} {nl nk : Nat} (h : off10 c c') (hI : CI c nl nk) : CI c' nl nk := by rw [off10_eq h]; exact CI_10 _ hI
theorem wantC_off10 {c c' : Nat → Nat → Int32} (h : off10 c c') (sh wk : Nat) : wantC c' sh wk = wantC c sh wk := by
  unfold wantC nn; rw [h (40 + sh) (by omega), h (50 + sh) (by omega)]
theorem foreC_off10 {c c' : Nat → Nat → Int32} (h : off10 c c') (wk : Nat) : foreC c' wk = foreC c wk := by
  unfold foreC; rw [wantC_off10 h, wantC_off10 h, wantC_off10 h]
/-- the stock behind j weeks: left, lacking, lost, the first week short -/
def stC (c : Nat → Nat → Int32) (f : Nat) (b : Int32) : Nat → Int64 × Int64 × Int64 × Int32
  | 0 => (b.toInt64, 0, 0, -1)
  | j + 1 =>
    let s := stC c f b j
    let v := s.1 + (c 9 (f + j) - foreC c (f + j)).toInt64
    let l0 := if v < 0 then 0 else v
    let k0 := if v < 0 then s.2.1 - v else s.2.1
    let f0 := if v < 0 ∧ s.2.2.2 = -1 then nI (f + j) else s.2.2.2
    if nn c 8 (f + j) = 0 then (l0, k0, s.2.2.1, f0) else (l0 - l0 * (c 5 3).toInt64 / 100, k0, s.2.2.1 + l0 * (c 5 3).toInt64 / 100, f0)
def amI (v : Int64) : Int32 := (if 2147483647 < v then 2147483647 else v).toInt32

def stockC (c : Nat → Nat → Int32) (fr to b what : Int32) : Int32 := if 0 ≤ fr.toInt ∧ fr.toInt ≤ to.toInt ∧ to.toInt ≤ 51 ∧ (0 ≤ b.toInt ∧ b.toInt ≤ 100000) ∧ 0 ≤ what.toInt ∧ what.toInt ≤ 3 then (if what.toInt = 0 then amI (stC c (tn fr) b (tn to + 1 - tn fr)).1 else if what.toInt = 1 then amI (stC c (tn fr) b (tn to + 1 - tn fr)).2.1 else if what.toInt = 2 then amI (stC c (tn fr) b (tn to + 1 - tn fr)).2.2.1 else (stC c (tn fr) b (tn to + 1 - tn fr)).2.2.2) else -2

set_option maxHeartbeats 4000000 in
set_option maxRecDepth 100000 in
theorem c_X7_stock (l : Launch) (D : va_G) (cy : Nat → ClassId) (a : Nat → Nat) (L : List Nat) (c : Nat → Nat → Int32) (g : Nat → Nat → Int64) (r : Nat → Nat → Option Nat) (nl nk : Nat) (hL : zLv L nl nk) (hR : RC r nl nk) (hI : CI c nl nk) (fr to b what : Int32) : zXI l yX7_stock wsX7_stock { frames := 4, cells := 0, slots := 0, locals := 89 } D cy a L c g r [Value.ref (a 0), Value.int fr, Value.int to, Value.int b, Value.int what] (fun v ω => ∃ c' g', ω = (a, L, c', g', r) ∧ off10 c c' ∧ v = stockC c fr to b what) 0 0 := by
  refine z_enter cX7_stock 6 (some .int) (by decide) (Nat.le_of_ble_eq_true rfl) ?_
  intro p e s m below meth co C hin
  have C : zC p s m _ meth co D cy _ cX7_stock 6 (some .int) wsX7_stock RX7 := C
  have i5 : ∀ w ∈ wsX50, w ∈ wsX7_stock := by decide +kernel
  have i7 : ∀ w ∈ wsX70, w ∈ wsX7_stock := by decide +kernel
  refine z_iload_n C dX7_stock_0 rfl (q := 1) rfl ?_
  refine z_iload_n C dX7_stock_1 rfl (q := 2) rfl ?_
  refine z_bipush C dX7_stock_2 (v := 51) (by decide) ?_
  refine z_pI C (z_runS C (As := [Value.int fr, Value.int to, Value.int 51]) (rest := []) (c_X7_isSpan l D cy a L c g r fr to 51 (M := 51) (show (51 : Int32).toInt = 51 from by decide)) (va_cwS 3 C.2.2.2.2.2.1 gX7_stock_X7_isSpan rfl rfl rfl (by decide +kernel) ⟨Nat.le_of_ble_eq_true rfl, Nat.le_of_ble_eq_true rfl⟩) rfl rfl (Nat.le_of_ble_eq_true rfl) dX7_stock_4 ⟨Nat.zero_le _, Nat.zero_le _⟩) (fun v4 e4 => ?_)
  rcases e4 with ⟨rfl, e4⟩ | ⟨rfl, e4⟩
  · obtain ⟨f, hf, rfl⟩ := arg_nI (v := fr) (b := 51) ⟨e4.1, by omega⟩
    have tf := nI_toInt (n := f) (by omega)
    have uf := tn_nI (j := f) (by omega)
    obtain ⟨t, ht, rfl⟩ := arg_nI (v := to) (b := 51) ⟨by omega, by omega⟩
    have tt := nI_toInt (n := t) (by omega)
    have ut := tn_nI (j := t) (by omega)
    refine z_if_eq C dX7_stock_7 (tgt := 30) (by decide) (fun h7 => absurd h7 (by decide)) (fun h7 => ?_)
    refine z_iload_n C dX7_stock_10 rfl (q := 3) rfl ?_
    refine z_iconst C dX7_stock_11 (v := 0) (by decide) ?_
    refine z_ldc C dX7_stock_12 (v := 100000) (by decide +kernel) ?_
    refine z_pI C (z_runS C (As := [Value.int b, Value.int 0, Value.int 100000]) (rest := []) (c_X7_within l D cy a L c g r b 0 100000 (V := b.toInt) (LO := 0) (HI := 100000) rfl (show (0 : Int32).toInt = 0 from by decide) (show (100000 : Int32).toInt = 100000 from by decide)) (va_cwS 3 C.2.2.2.2.2.1 gX7_stock_X7_within rfl rfl rfl (by decide +kernel) ⟨Nat.le_of_ble_eq_true rfl, Nat.le_of_ble_eq_true rfl⟩) rfl rfl (Nat.le_of_ble_eq_true rfl) dX7_stock_14 ⟨Nat.zero_le _, Nat.zero_le _⟩) (fun v14 e14 => ?_)
    rcases e14 with ⟨rfl, e14⟩ | ⟨rfl, e14⟩
    · refine z_if_eq C dX7_stock_17 (tgt := 30) (by decide) (fun h17 => absurd h17 (by decide)) (fun h17 => ?_)
      refine z_iload C dX7_stock_20 (q := 4) rfl ?_
      refine z_iconst C dX7_stock_22 (v := 0) (by decide) ?_
      refine z_iconst C dX7_stock_23 (v := 3) (by decide) ?_
      refine z_pI C (z_runS C (As := [Value.int what, Value.int 0, Value.int 3]) (rest := []) (c_X7_within l D cy a L c g r what 0 3 (V := what.toInt) (LO := 0) (HI := 3) rfl (show (0 : Int32).toInt = 0 from by decide) (show (3 : Int32).toInt = 3 from by decide)) (va_cwS 3 C.2.2.2.2.2.1 gX7_stock_X7_within rfl rfl rfl (by decide +kernel) ⟨Nat.le_of_ble_eq_true rfl, Nat.le_of_ble_eq_true rfl⟩) rfl rfl (Nat.le_of_ble_eq_true rfl) dX7_stock_24 ⟨Nat.zero_le _, Nat.zero_le _⟩) (fun v24 e24 => ?_)
      rcases e24 with ⟨rfl, e24⟩ | ⟨rfl, e24⟩
      · refine z_if_ne C dX7_stock_27 (tgt := 33) (by decide) (fun h27 => ?_) (fun h27 => absurd h27 (by decide))
        refine z_aload_n C dX7_stock_33 rfl (q := 0) rfl ?_
        refine zg_X7_stockRun C (k := 0) (hL _ (by unfold live; omega)) (by rfl) i7 (by decide +kernel) (k' := 10) (RC_stockRun hR) dX7_stock_34 ?_
        refine z_iload_n C dX7_stock_37 rfl (q := 3) rfl ?_
        refine z_gV C (z_runV C (As := [Value.int b]) (rest := []) (c_X5_beginWith l D cy a L c g r nl nk hL b) (cwV 1 C.2.2.2.2.2.1 gX7_stock_X5_beginWith rfl rfl rfl (by decide +kernel) ⟨Nat.le_of_ble_eq_true rfl, Nat.le_of_ble_eq_true rfl⟩) (hL _ (by unfold live; omega)) (zF_k5 (by rfl)) rfl rfl rfl rfl (Nat.le_of_ble_eq_true rfl) dX7_stock_38 ⟨Nat.zero_le _, Nat.zero_le _⟩) (fun c38 g38 e38 => ?_)
        refine z_iload_n C dX7_stock_41 rfl (q := 1) rfl ?_
        refine z_steq (st' := [Value.int (nI (f + 0))]) rfl ?_
        refine z_istore C dX7_stock_42 (by decide) (lv' := [(5, Value.int (nI (f + 0))), (0, Value.ref (a 0)), (1, Value.int (nI f)), (2, Value.int (nI t)), (3, Value.int b), (4, Value.int what)]) rfl ?_
        refine z_lveq (lv' := [(5, Value.int (nI (f + 0))), (0, Value.ref (a 0)), (1, Value.int (nI f)), (2, Value.int (nI t)), (3, Value.int b), (4, Value.int what)]) rfl ?_
        refine z_forW (fun j c1 g1 => off10 c c1 ∧ g1 10 0 = (stC c f b j).1 ∧ g1 10 1 = (stC c f b j).2.1 ∧ g1 10 2 = (stC c f b j).2.2.1 ∧ c1 10 3 = (stC c f b j).2.2.2) 0 (t + 1 - f) (Nat.zero_le _) (fun j => [(5, Value.int (nI (f + j))), (0, Value.ref (a 0)), (1, Value.int (nI f)), (2, Value.int (nI t)), (3, Value.int b), (4, Value.int what)]) ?_ ?_ (by obtain ⟨h1, h2, h3, h4, h5⟩ := e38; exact ⟨h1, h2, h3, h4, h5⟩)
        · intro c1 g1 hv
          refine z_iload C dX7_stock_44 (q := 0) rfl ?_
          refine z_iload_n C dX7_stock_46 rfl (q := 3) rfl ?_
          refine z_icmp_gt C dX7_stock_47 (tgt := 101) (by decide) (fun h47 => ?_) (fun h47 => absurd (nI_lt (by omega) (by omega)) h47)
          refine z_iload C dX7_stock_101 (q := 5) rfl ?_
          by_cases hs0 : what.toInt = 0
          · refine z_tableIn C dX7_stock_103 (off := 25) (tgt := 128) (by omega) (by omega) (by rw [hs0]; rfl) (by decide) ?_
            refine z_aload_n C dX7_stock_128 rfl (q := 1) rfl ?_
            refine zg_X7_stockRun C (k := 0) (hL _ (by unfold live; omega)) (by rfl) i7 (by decide +kernel) (k' := 10) (RC_stockRun hR) dX7_stock_129 ?_
            refine zg_X5_left C (k := 10) (hL _ (by unfold live; omega)) (by rfl) i5 (by decide +kernel) (v := (stC c f b (t + 1 - f)).1) hv.2.1 dX7_stock_132 ?_
            refine z_pI C (z_runS C (As := [Value.long ((stC c f b (t + 1 - f)).1)]) (rest := []) (c_X7_atMostInt l D cy a L c1 g1 r ((stC c f b (t + 1 - f)).1)) (va_cwS 1 C.2.2.2.2.2.1 gX7_stock_X7_atMostInt rfl rfl rfl (by decide +kernel) ⟨Nat.le_of_ble_eq_true rfl, Nat.le_of_ble_eq_true rfl⟩) rfl rfl (Nat.le_of_ble_eq_true rfl) dX7_stock_135 ⟨Nat.zero_le _, Nat.zero_le _⟩) (fun v135 e135 => ?_)
            exact z_iret C rfl (Nat.le_refl _) (Nat.le_refl _) dX7_stock_138 ⟨c1, g1, rfl, hv.1, by rw [stockC, if_pos (by omega), uf, ut, if_pos (by omega)]; exact e135⟩
          · skip
            by_cases hs1 : what.toInt = 1
            · refine z_tableIn C dX7_stock_103 (off := 36) (tgt := 139) (by omega) (by omega) (by rw [hs1]; rfl) (by decide) ?_
              refine z_aload_n C dX7_stock_139 rfl (q := 1) rfl ?_
              refine zg_X7_stockRun C (k := 0) (hL _ (by unfold live; omega)) (by rfl) i7 (by decide +kernel) (k' := 10) (RC_stockRun hR) dX7_stock_140 ?_
              refine zg_X5_lacking C (k := 10) (hL _ (by unfold live; omega)) (by rfl) i5 (by decide +kernel) (v := (stC c f b (t + 1 - f)).2.1) hv.2.2.1 dX7_stock_143 ?_
              refine z_pI C (z_runS C (As := [Value.long ((stC c f b (t + 1 - f)).2.1)]) (rest := []) (c_X7_atMostInt l D cy a L c1 g1 r ((stC c f b (t + 1 - f)).2.1)) (va_cwS 1 C.2.2.2.2.2.1 gX7_stock_X7_atMostInt rfl rfl rfl (by decide +kernel) ⟨Nat.le_of_ble_eq_true rfl, Nat.le_of_ble_eq_true rfl⟩) rfl rfl (Nat.le_of_ble_eq_true rfl) dX7_stock_146 ⟨Nat.zero_le _, Nat.zero_le _⟩) (fun v146 e146 => ?_)
              exact z_iret C rfl (Nat.le_refl _) (Nat.le_refl _) dX7_stock_149 ⟨c1, g1, rfl, hv.1, by rw [stockC, if_pos (by omega), uf, ut, if_neg (by omega), if_pos (by omega)]; exact e146⟩
            · skip
              by_cases hs2 : what.toInt = 2
              · refine z_tableIn C dX7_stock_103 (off := 47) (tgt := 150) (by omega) (by omega) (by rw [hs2]; rfl) (by decide) ?_
                refine z_aload_n C dX7_stock_150 rfl (q := 1) rfl ?_
                refine zg_X7_stockRun C (k := 0) (hL _ (by unfold live; omega)) (by rfl) i7 (by decide +kernel) (k' := 10) (RC_stockRun hR) dX7_stock_151 ?_
                refine zg_X5_lost C (k := 10) (hL _ (by unfold live; omega)) (by rfl) i5 (by decide +kernel) (v := (stC c f b (t + 1 - f)).2.2.1) hv.2.2.2.1 dX7_stock_154 ?_
                refine z_pI C (z_runS C (As := [Value.long ((stC c f b (t + 1 - f)).2.2.1)]) (rest := []) (c_X7_atMostInt l D cy a L c1 g1 r ((stC c f b (t + 1 - f)).2.2.1)) (va_cwS 1 C.2.2.2.2.2.1 gX7_stock_X7_atMostInt rfl rfl rfl (by decide +kernel) ⟨Nat.le_of_ble_eq_true rfl, Nat.le_of_ble_eq_true rfl⟩) rfl rfl (Nat.le_of_ble_eq_true rfl) dX7_stock_157 ⟨Nat.zero_le _, Nat.zero_le _⟩) (fun v157 e157 => ?_)
                exact z_iret C rfl (Nat.le_refl _) (Nat.le_refl _) dX7_stock_160 ⟨c1, g1, rfl, hv.1, by rw [stockC, if_pos (by omega), uf, ut, if_neg (by omega), if_neg (by omega), if_pos (by omega)]; exact e157⟩
              · skip
                refine z_tableOut C dX7_stock_103 (by omega) (tgt := 161) (by decide) ?_
                refine z_aload_n C dX7_stock_161 rfl (q := 1) rfl ?_
                refine zg_X7_stockRun C (k := 0) (hL _ (by unfold live; omega)) (by rfl) i7 (by decide +kernel) (k' := 10) (RC_stockRun hR) dX7_stock_162 ?_
                refine zg_X5_firstShort C (k := 10) (hL _ (by unfold live; omega)) (by rfl) i5 (by decide +kernel) (v := (stC c f b (t + 1 - f)).2.2.2) hv.2.2.2.2 dX7_stock_165 ?_
                exact z_iret C rfl (Nat.le_refl _) (Nat.le_refl _) dX7_stock_168 ⟨c1, g1, rfl, hv.1, by rw [stockC, if_pos (by omega), uf, ut, if_neg (by omega), if_neg (by omega), if_neg (by omega)]⟩
        · intro j c1 g1 hl hj hv ih
          have hI1 := CI_off10 hv.1 hI
          refine z_iload C dX7_stock_44 (q := 0) rfl ?_
          refine z_iload_n C dX7_stock_46 rfl (q := 3) rfl ?_
          refine z_icmp_gt C dX7_stock_47 (tgt := 101) (by decide) (fun h47 => absurd h47 (nI_nlt (by omega) (by omega))) (fun h47 => ?_)
          refine z_aload_n C dX7_stock_50 rfl (q := 1) rfl ?_
          refine zg_X7_stockRun C (k := 0) (hL _ (by unfold live; omega)) (by rfl) i7 (by decide +kernel) (k' := 10) (RC_stockRun hR) dX7_stock_51 ?_
          refine z_iload C dX7_stock_54 (q := 0) rfl ?_
          refine z_aload_n C dX7_stock_56 rfl (q := 1) rfl ?_
          refine zg_X7_madeIn C (k := 0) (hL _ (by unfold live; omega)) (by rfl) i7 (by decide +kernel) (k' := 9) (RC_madeIn hR) dX7_stock_57 ?_
          refine z_iload C dX7_stock_60 (q := 0) rfl ?_
          refine z_iaload C (k := 9) (hL _ (by unfold live; omega)) (by rfl) (j := f + j) rfl (by rw [show ln 9 = 52 from rfl]; omega) (by rw [show ln 9 = 52 from rfl]; decide) (v := c 9 (f + j)) (by rw [hv.1 9 (by omega)]) dX7_stock_62 ?_
          refine z_aload_n C dX7_stock_63 rfl (q := 1) rfl ?_
          refine z_iload C dX7_stock_64 (q := 0) rfl ?_
          refine z_pI C (z_runV C (As := [Value.int (nI (f + j))]) (rest := [Value.int (c 9 (f + j)), Value.int (nI (f + j)), Value.ref (a 10)]) (c_X7_foretold l D cy a L c1 g1 r nl nk hL hR hI1 (nI (f + j))) (cwV 1 C.2.2.2.2.2.1 gX7_stock_X7_foretold rfl rfl rfl (by decide +kernel) ⟨Nat.le_of_ble_eq_true rfl, Nat.le_of_ble_eq_true rfl⟩) (hL _ (by unfold live; omega)) (zF_k7 (by rfl)) rfl rfl rfl rfl (Nat.le_of_ble_eq_true rfl) dX7_stock_66 ⟨Nat.zero_le _, Nat.zero_le _⟩) (fun v66 e66 => ?_)
          have e66b : v66 = foreC c (f + j) := by rw [e66, if_pos (by have := nI_toInt (n := f + j) (by omega); omega), tn_nI (by omega), foreC_off10 hv.1]
          subst e66b
          refine z_gV C (z_runV C (As := [Value.int (nI (f + j)), Value.int (c 9 (f + j)), Value.int (foreC c (f + j))]) (rest := []) (c_X5_supply l D cy a L c1 g1 r nl nk hL (nI (f + j)) (c 9 (f + j)) (foreC c (f + j))) (cwV 3 C.2.2.2.2.2.1 gX7_stock_X5_supply rfl rfl rfl (by decide +kernel) ⟨Nat.le_of_ble_eq_true rfl, Nat.le_of_ble_eq_true rfl⟩) (hL _ (by unfold live; omega)) (zF_k5 (by rfl)) rfl rfl rfl rfl (Nat.le_of_ble_eq_true rfl) dX7_stock_69 ⟨Nat.zero_le _, Nat.zero_le _⟩) (fun c69 g69 e69 => ?_)
          obtain ⟨s1, s2, s3, s4, s5⟩ := e69
          have ho := fun k hk => (s1 k hk).trans (hv.1 k hk)
          rw [hv.2.1] at s2 s3 s5
          rw [hv.2.2.1] at s3
          rw [hv.2.2.2.1] at s4
          rw [hv.2.2.2.2] at s5
          refine z_aload_n C dX7_stock_72 rfl (q := 1) rfl ?_
          refine zg_X7_dampWeeks C (k := 0) (hL _ (by unfold live; omega)) (by rfl) i7 (by decide +kernel) (k' := 8) (RC_dampWeeks hR) dX7_stock_73 ?_
          refine z_iload C dX7_stock_76 (q := 0) rfl ?_
          refine z_baload C (k := 8) (hL _ (by unfold live; omega)) (by rfl) (j := f + j) rfl (by rw [show ln 8 = 52 from rfl]; omega) (by rw [show ln 8 = 52 from rfl]; decide) (v := nI (nn c 8 (f + j))) (by rw [ho 8 (by omega)]; exact (CI_wk hI (by omega)).1.1) dX7_stock_78 ?_
          have hd := (CI_wk hI (show f + j < 52 by omega)).1.2
          refine z_if_eq C dX7_stock_79 (tgt := 95) (by decide) (fun h79 => ?_) (fun h79 => ?_)
          · have q79 := iv_eq (y := 0) (nI_toInt (by omega)) (show (0 : Int32).toInt = 0 from by decide) h79
            refine z_iinc C dX7_stock_95 (q := 0) rfl (v := nI (f + (j + 1))) (nI_1 _) (by decide) (lv' := [(5, Value.int (nI (f + (j + 1)))), (0, Value.ref (a 0)), (1, Value.int (nI f)), (2, Value.int (nI t)), (3, Value.int b), (4, Value.int what)]) rfl ?_
            refine z_goto C dX7_stock_98 (tgt := 44) (by decide) ?_
            exact ih c69 g69 ⟨ho, by simp only [stC]; rw [if_pos (by omega)]; exact s2, by simp only [stC]; rw [if_pos (by omega)]; exact s3, by simp only [stC]; rw [if_pos (by omega)]; exact s4, by simp only [stC]; rw [if_pos (by omega)]; exact s5⟩
          · have q79 := iv_ne (y := 0) (nI_toInt (by omega)) (show (0 : Int32).toInt = 0 from by decide) h79
            refine z_aload_n C dX7_stock_82 rfl (q := 1) rfl ?_
            refine zg_X7_stockRun C (k := 0) (hL _ (by unfold live; omega)) (by rfl) i7 (by decide +kernel) (k' := 10) (RC_stockRun hR) dX7_stock_83 ?_
            refine z_aload_n C dX7_stock_86 rfl (q := 1) rfl ?_
            refine zg_X7_settings C (k := 0) (hL _ (by unfold live; omega)) (by rfl) i7 (by decide +kernel) (k' := 5) (RC_settings hR) dX7_stock_87 ?_
            refine z_iconst C dX7_stock_90 (v := 3) (by decide) ?_
            refine z_iaload C (k := 5) (hL _ (by unfold live; omega)) (by rfl) (j := 3) (by decide) (by rw [show ln 5 = 4 from rfl]; omega) (by rw [show ln 5 = 4 from rfl]; decide) (v := c 5 3) (by rw [ho 5 (by omega)]) dX7_stock_91 ?_
            refine z_gV C (z_runV C (As := [Value.int (c 5 3)]) (rest := []) (c_X5_soften l D cy a L c69 g69 r nl nk hL (c 5 3)) (cwV 1 C.2.2.2.2.2.1 gX7_stock_X5_soften rfl rfl rfl (by decide +kernel) ⟨Nat.le_of_ble_eq_true rfl, Nat.le_of_ble_eq_true rfl⟩) (hL _ (by unfold live; omega)) (zF_k5 (by rfl)) rfl rfl rfl rfl (Nat.le_of_ble_eq_true rfl) dX7_stock_92 ⟨Nat.zero_le _, Nat.zero_le _⟩) (fun c92 g92 e92 => ?_)
            obtain ⟨z1, z2, z3, z4⟩ := e92
            subst z1
            rw [s2] at z2 z4
            rw [s3] at z3
            rw [s4] at z4
            refine z_iinc C dX7_stock_95 (q := 0) rfl (v := nI (f + (j + 1))) (nI_1 _) (by decide) (lv' := [(5, Value.int (nI (f + (j + 1)))), (0, Value.ref (a 0)), (1, Value.int (nI f)), (2, Value.int (nI t)), (3, Value.int b), (4, Value.int what)]) rfl ?_
            refine z_goto C dX7_stock_98 (tgt := 44) (by decide) ?_
            exact ih _ g92 ⟨ho, by simp only [stC]; rw [if_neg (by omega)]; exact z2, by simp only [stC]; rw [if_neg (by omega)]; exact z3, by simp only [stC]; rw [if_neg (by omega)]; exact z4, by simp only [stC]; rw [if_neg (by omega)]; exact s5⟩
      · refine z_if_ne C dX7_stock_27 (tgt := 33) (by decide) (fun h27 => absurd h27 (by decide)) (fun h27 => ?_)
        refine z_bipush C dX7_stock_30 (v := -2) (by decide) ?_
        exact z_iret C rfl (Nat.le_refl _) (Nat.le_refl _) dX7_stock_32 ⟨c, g, rfl, fun _ _ => rfl, by rw [stockC, if_neg (by omega)]⟩
    · refine z_if_eq C dX7_stock_17 (tgt := 30) (by decide) (fun h17 => ?_) (fun h17 => absurd h17 (by decide))
      refine z_bipush C dX7_stock_30 (v := -2) (by decide) ?_
      exact z_iret C rfl (Nat.le_refl _) (Nat.le_refl _) dX7_stock_32 ⟨c, g, rfl, fun _ _ => rfl, by rw [stockC, if_neg (by omega)]⟩
  · refine z_if_eq C dX7_stock_7 (tgt := 30) (by decide) (fun h7 => ?_) (fun h7 => absurd h7 (by decide))
    refine z_bipush C dX7_stock_30 (v := -2) (by decide) ?_
    exact z_iret C rfl (Nat.le_refl _) (Nat.le_refl _) dX7_stock_32 ⟨c, g, rfl, fun _ _ => rfl, by rw [stockC, if_neg (by omega)]⟩
