/-- the same but for the reference's scratch of readings -/
def FrR (c c1 : Nat → Nat → Int32) : Prop := (∀ k, k ≠ 300 → k ≠ 311 → c1 k = c k) ∧ ∀ j, j ≠ 11 → j ≠ 12 → j ≠ 13 → c1 300 j = c 300 j
theorem FrR_rf (c : Nat → Nat → Int32) : FrR c c := ⟨fun _ _ _ => rfl, fun _ _ _ _ => rfl⟩
theorem FrR_put {c c1 : Nat → Nat → Int32} (h : FrR c c1) {j : Nat} (hj : j = 11 ∨ j = 12 ∨ j = 13) (v : Int32) : FrR c (up2 c1 300 j v) := ⟨fun k h1 h2 => (up2_row c1 j v h1).trans (h.1 k h1 h2), fun i h1 h2 h3 => (up2_i c1 300 300 v (by omega)).trans (h.2 i h1 h2 h3)⟩
theorem FrR_lay {c c1 : Nat → Nat → Int32} (h : FrR c c1) (f : Nat → Int32) : FrR c (up1 c1 311 f) := ⟨fun k h1 h2 => (up1_k c1 f h2).trans (h.1 k h1 h2), fun i h1 h2 h3 => by rw [up1_k c1 f (by decide)]; exact h.2 i h1 h2 h3⟩
theorem FrR_lks {c c1 : Nat → Nat → Int32} (h : FrR c c1) : lks c c1 := ⟨fun k hk => h.1 k (by unfold lkr at hk; omega) (by unfold lkr at hk; omega), fun j hj => h.2 j (by unfold lkf at hj; omega) (by unfold lkf at hj; omega) (by unfold lkf at hj; omega)⟩
/-- (w, b, t) is the n-th reading -/
def HIT (d : Nat → Nat → Int32) (x : Nat → Nat → Nat) (sh w b t n : Nat) : Prop := w < 8 ∧ b < 4 ∧ t < nn d 3 1 ∧ fitC d x w ∧ agC d sh (layC d x w) t b ∧ sumF (rdC d x sh) w + outC d sh (layC d x w) b + inC d sh (layC d x w) b t = n
/-- what is found behind the first cnt readings -/
def FND (d : Nat → Nat → Int32) (x : Nat → Nat → Nat) (sh : Nat) (which : Int32) (cnt : Nat) (v : Int32) : Prop := ∀ n, n < 2 ^ 31 → which = nI n → ((cnt ≤ n ∧ v = -1) ∨ (n < cnt ∧ ∃ w b t, HIT d x sh w b t n ∧ v = nI (1000 * w + 100 * b + t)))
theorem FND_hit {d : Nat → Nat → Int32} {x : Nat → Nat → Nat} {sh : Nat} {which : Int32} {cnt w b t : Nat} (hc : cnt < 2 ^ 31) (e : nI cnt = which) (h : HIT d x sh w b t cnt) : FND d x sh which (cnt + 1) (nI (1000 * w + 100 * b + t)) := by
  intro n hn e2
  have : cnt = n := (nI_eq hc hn).mp (e.trans e2)
  subst this
  exact Or.inr ⟨by omega, w, b, t, h, rfl⟩
theorem FND_no {d : Nat → Nat → Int32} {x : Nat → Nat → Nat} {sh : Nat} {which v : Int32} {cnt : Nat} (e : ¬ nI cnt = which) (h : FND d x sh which cnt v) : FND d x sh which (cnt + 1) v := by
  intro n hn e2
  have hne : cnt ≠ n := fun q => e (by rw [q]; exact e2.symm)
  rcases h n hn e2 with ⟨h1, h2⟩ | ⟨h1, h2⟩
  · exact Or.inl ⟨by omega, h2⟩
  · exact Or.inr ⟨by omega, h2⟩
/-- the bits of the words when word w has had h readings -/
noncomputable def fwC (d : Nat → Nat → Int32) (x : Nat → Nat → Nat) (sh w h : Nat) : Int32 := pick (0 < h) (bitC d x sh w ||| ((1 : Int32) <<< (nI w &&& 31))) (bitC d x sh w)
theorem or_twice (a b : Int32) : a ||| b ||| b = a ||| b := by rw [Int32.or_assoc, Int32.or_self]
theorem fwC_hit (d : Nat → Nat → Int32) (x : Nat → Nat → Nat) (sh w h : Nat) : fwC d x sh w h ||| ((1 : Int32) <<< (nI w &&& 31)) = fwC d x sh w (h + 1) := by
  unfold fwC
  rw [pick_pos (show 0 < h + 1 by omega)]
  rcases Nat.eq_zero_or_pos h with e | e
  · rw [pick_neg (by omega)]
  · rw [pick_pos e, or_twice]
theorem fwC_end {d : Nat → Nat → Int32} {x : Nat → Nat → Nat} {sh w : Nat} (h : fitC d x w) : fwC d x sh w (outC d sh (layC d x w) 4) = bitC d x sh (w + 1) := by
  unfold fwC; rw [bitC, rdC, pick_pos (P := fitC d x w) h]
theorem fwC_0 (d : Nat → Nat → Int32) (x : Nat → Nat → Nat) (sh w : Nat) : fwC d x sh w 0 = bitC d x sh w := by unfold fwC; exact pick_neg (by omega)
theorem bit_no {d : Nat → Nat → Int32} {x : Nat → Nat → Nat} {sh w : Nat} (h : ¬ fitC d x w) : bitC d x sh (w + 1) = bitC d x sh w ∧ sumF (rdC d x sh) (w + 1) = sumF (rdC d x sh) w := by
  have e : rdC d x sh w = 0 := by rw [rdC]; exact pick_neg h
  exact ⟨by rw [bitC, e]; exact pick_neg (by omega), by rw [sumF, e, Nat.add_zero]⟩
theorem rd_fit {d : Nat → Nat → Int32} {x : Nat → Nat → Nat} {sh w : Nat} (h : fitC d x w) : sumF (rdC d x sh) (w + 1) = sumF (rdC d x sh) w + outC d sh (layC d x w) 4 := by
  rw [sumF, rdC, pick_pos (P := fitC d x w) h]

set_option maxHeartbeats 4000000 in
set_option maxRecDepth 100000 in
theorem c_X8_findReadings (l : Launch) (D : va_G) (cy : Nat → ClassId) (a : Nat → Nat) (L : List Nat) (c : Nat → Nat → Int32) (g : Nat → Nat → Int64) (r : Nat → Nat → Option Nat) (nl nk : Nat) (hL : zLv L nl nk) (hM : RM r) (d : Nat → Nat → Int32) (hI : CI d nl nk) (x : Nat → Nat → Nat) (hX : XL d nl x) (hK : LK d c nl nk x) (sh : Nat) (hsh : sh < 4) (which : Int32) : zCV l yX8_findReadings wsX8_findReadings { frames := 3, cells := 0, slots := 0, locals := 72 } D cy a L c g r [Value.ref (a 300), Value.int (nI sh), Value.int which] (fun c' => FrR c c' ∧ c' 300 12 = nI (sumF (rdC d x sh) 8) ∧ c' 300 13 = bitC d x sh 8 ∧ FND d x sh which (sumF (rdC d x sh) 8) (c' 300 11)) := by
  refine z_enter cX8_findReadings 6 none (by decide) (Nat.le_of_ble_eq_true rfl) ?_
  intro p e s m below meth co C hin
  have C : zC p s m _ meth co D cy _ cX8_findReadings 6 none wsX8_findReadings RX8 := C
  have i8 : ∀ w ∈ wsX80, w ∈ wsX8_findReadings := by decide +kernel
  have hS := (CI_S hI).2
  refine z_aload_n C dX8_findReadings_0 rfl (q := 0) rfl ?_
  refine z_iconst C dX8_findReadings_1 (v := -1) (by decide) ?_
  refine zp_X8_found C (k := 300) (hL _ (by unfold live; omega)) (by rfl) i8 (by decide +kernel) dX8_findReadings_2 ?_
  refine z_aload_n C dX8_findReadings_5 rfl (q := 0) rfl ?_
  refine z_iconst C dX8_findReadings_6 (v := nI 0) (by decide) ?_
  refine zp_X8_foundMany C (k := 300) (hL _ (by unfold live; omega)) (by rfl) i8 (by decide +kernel) dX8_findReadings_7 ?_
  refine z_aload_n C dX8_findReadings_10 rfl (q := 0) rfl ?_
  refine z_iconst C dX8_findReadings_11 (v := nI 0) (by decide) ?_
  refine zp_X8_foundWords C (k := 300) (hL _ (by unfold live; omega)) (by rfl) i8 (by decide +kernel) dX8_findReadings_12 ?_
  refine z_iconst C dX8_findReadings_15 (v := nI 0) (by decide) ?_
  refine z_istore_n C dX8_findReadings_16 rfl (by decide) (lv' := [(3, Value.int (nI 0)), (0, Value.ref (a 300)), (1, Value.int (nI sh)), (2, Value.int which)]) rfl ?_
  refine z_forI (fun w c1 => FrR c c1 ∧ c1 300 12 = nI (sumF (rdC d x sh) w) ∧ c1 300 13 = bitC d x sh w ∧ FND d x sh which (sumF (rdC d x sh) w) (c1 300 11)) 0 8 (Nat.zero_le _) (fun w => [(3, Value.int (nI w)), (0, Value.ref (a 300)), (1, Value.int (nI sh)), (2, Value.int which)]) ?_ ?_ (⟨FrR_put (FrR_put (FrR_put (FrR_rf c) (Or.inl rfl) _) (Or.inr (Or.inl rfl)) _) (Or.inr (Or.inr rfl)) _, by rw [up2_i _ _ _ _ (by decide), up2_self]; rfl, by rw [up2_self]; rfl, by rw [up2_i _ _ _ _ (by decide), up2_i _ _ _ _ (by decide), up2_self]; exact fun n hn _ => Or.inl ⟨Nat.zero_le _, rfl⟩⟩)
  · intro c1 hvw
    refine z_iload_n C dX8_findReadings_17 rfl (q := 0) rfl ?_
    refine z_bipush C dX8_findReadings_18 (v := nI 8) (by decide) ?_
    refine z_icmp_ge C dX8_findReadings_20 (tgt := 135) (by decide) (fun h20 => ?_) (fun h20 => absurd (Int32.le_refl _) h20)
    exact z_vret C rfl (Nat.le_refl _) (Nat.le_refl _) dX8_findReadings_135 ⟨_, rfl, hvw.1, hvw.2.1, hvw.2.2.1, hvw.2.2.2⟩
  · intro w c1 hlw hw hvw ihw
    have hK1 := LK_s (FrR_lks hvw.1) hK
    have hRl : sumF (rdC d x sh) w ≤ w * 240 := sumF_le (fun i _ => rdC_le hI x sh i)
    refine z_iload_n C dX8_findReadings_17 rfl (q := 0) rfl ?_
    refine z_bipush C dX8_findReadings_18 (v := nI 8) (by decide) ?_
    refine z_icmp_ge C dX8_findReadings_20 (tgt := 135) (by decide) (fun h20 => absurd h20 (nI_ge hw (by omega))) (fun h20 => ?_)
    refine z_aload_n C dX8_findReadings_23 rfl (q := 1) rfl ?_
    refine z_iload_n C dX8_findReadings_24 rfl (q := 0) rfl ?_
    refine z_pI C (z_runV C (As := [Value.int (nI w)]) (rest := []) (c_X8_fits l D cy a L c1 g r nl nk hL hM d hI x hX hK1 w (by omega)) (cwV 1 C.2.2.2.2.2.1 gX8_findReadings_X8_fits rfl rfl rfl (by decide +kernel) ⟨Nat.le_of_ble_eq_true rfl, Nat.le_of_ble_eq_true rfl⟩) (hL _ (by unfold live; omega)) (zF_k8 (by rfl)) rfl rfl rfl rfl (Nat.le_of_ble_eq_true rfl) dX8_findReadings_25 ⟨Nat.zero_le _, Nat.zero_le _⟩) (fun v25 e25 => ?_)
    rcases e25 with ⟨rfl, e25⟩ | ⟨rfl, e25⟩
    · refine z_if_eq C dX8_findReadings_28 (tgt := 129) (by decide) (fun h28 => absurd h28 (by decide)) (fun h28 => ?_)
      refine z_aload_n C dX8_findReadings_31 rfl (q := 1) rfl ?_
      refine z_iload_n C dX8_findReadings_32 rfl (q := 0) rfl ?_
      refine z_cV C (z_runV C (As := [Value.int (nI w)]) (rest := []) (c_X8_lay l D cy a L c1 g r nl nk hL hM d hI x hX hK1 w (by omega) (by omega)) (cwV 1 C.2.2.2.2.2.1 gX8_findReadings_X8_lay rfl rfl rfl (by decide +kernel) ⟨Nat.le_of_ble_eq_true rfl, Nat.le_of_ble_eq_true rfl⟩) (hL _ (by unfold live; omega)) (zF_k8 (by rfl)) rfl rfl rfl rfl (Nat.le_of_ble_eq_true rfl) dX8_findReadings_33 ⟨Nat.zero_le _, Nat.zero_le _⟩) (fun c33 e33 => ?_)
      subst e33
      refine z_iconst C dX8_findReadings_36 (v := nI 0) (by decide) ?_
      refine z_istore C dX8_findReadings_37 (by decide) (lv' := [(4, Value.int (nI 0)), (3, Value.int (nI w)), (0, Value.ref (a 300)), (1, Value.int (nI sh)), (2, Value.int which)]) rfl ?_
      refine z_forI (fun b c1 => FrR c c1 ∧ (∀ q, q < 60 → c1 311 q = nI (layC d x w q) ∧ layC d x w q ≤ 31) ∧ c1 300 12 = nI (sumF (rdC d x sh) w + outC d sh (layC d x w) b) ∧ c1 300 13 = fwC d x sh w (outC d sh (layC d x w) b) ∧ FND d x sh which (sumF (rdC d x sh) w + outC d sh (layC d x w) b) (c1 300 11)) 0 4 (Nat.zero_le _) (fun b => [(4, Value.int (nI b)), (3, Value.int (nI w)), (0, Value.ref (a 300)), (1, Value.int (nI sh)), (2, Value.int which)]) ?_ ?_ (⟨FrR_lay hvw.1 _, fun q hq => ⟨by rw [up1_self, if_pos hq], layD_le hI hX hw q⟩, by rw [up1_k _ _ (by decide)]; exact hvw.2.1, by rw [up1_k _ _ (by decide)]; exact hvw.2.2.1.trans (fwC_0 d x sh w).symm, by rw [up1_k _ _ (by decide)]; exact hvw.2.2.2⟩)
      · intro c1 hvb
        refine z_iload C dX8_findReadings_39 (q := 0) rfl ?_
        refine z_iconst C dX8_findReadings_41 (v := nI 4) (by decide) ?_
        refine z_icmp_ge C dX8_findReadings_42 (tgt := 129) (by decide) (fun h42 => ?_) (fun h42 => absurd (Int32.le_refl _) h42)
        refine z_iinc C dX8_findReadings_129 (q := 1) rfl (v := nI (w + 1)) (nI_1 _) (by decide) (lv' := [(3, Value.int (nI (w + 1))), (4, Value.int (nI 4)), (0, Value.ref (a 300)), (1, Value.int (nI sh)), (2, Value.int which)]) rfl ?_
        refine z_goto C dX8_findReadings_132 (tgt := 17) (by decide) ?_
        refine z_sub [0, 2, 3, 4] (lv' := [(3, Value.int (nI (w + 1))), (0, Value.ref (a 300)), (1, Value.int (nI sh)), (2, Value.int which)]) rfl ?_
        exact ihw c1 ⟨hvb.1, by rw [rd_fit e25]; exact hvb.2.2.1, by rw [hvb.2.2.2.1]; exact fwC_end e25, by rw [rd_fit e25]; exact hvb.2.2.2.2⟩
      · intro b c1 hlb hb hvb ihb
        have hol := outC_le d sh (layC d x w) b
        have hm : b * nn d 3 1 ≤ 4 * 60 := Nat.mul_le_mul (by omega) hS.2
        refine z_iload C dX8_findReadings_39 (q := 0) rfl ?_
        refine z_iconst C dX8_findReadings_41 (v := nI 4) (by decide) ?_
        refine z_icmp_ge C dX8_findReadings_42 (tgt := 129) (by decide) (fun h42 => absurd h42 (nI_ge hb (by omega))) (fun h42 => ?_)
        refine z_iconst C dX8_findReadings_45 (v := nI 0) (by decide) ?_
        refine z_istore C dX8_findReadings_46 (by decide) (lv' := [(5, Value.int (nI 0)), (4, Value.int (nI b)), (3, Value.int (nI w)), (0, Value.ref (a 300)), (1, Value.int (nI sh)), (2, Value.int which)]) rfl ?_
        refine z_forI (fun t c1 => FrR c c1 ∧ (∀ q, q < 60 → c1 311 q = nI (layC d x w q) ∧ layC d x w q ≤ 31) ∧ c1 300 12 = nI (sumF (rdC d x sh) w + outC d sh (layC d x w) b + inC d sh (layC d x w) b t) ∧ c1 300 13 = fwC d x sh w (outC d sh (layC d x w) b + inC d sh (layC d x w) b t) ∧ FND d x sh which (sumF (rdC d x sh) w + outC d sh (layC d x w) b + inC d sh (layC d x w) b t) (c1 300 11)) 0 ((nn d 3 1)) (Nat.zero_le _) (fun t => [(5, Value.int (nI t)), (4, Value.int (nI b)), (3, Value.int (nI w)), (0, Value.ref (a 300)), (1, Value.int (nI sh)), (2, Value.int which)]) ?_ ?_ (⟨hvb.1, hvb.2.1, hvb.2.2.1, hvb.2.2.2.1, hvb.2.2.2.2⟩)
        · intro c1 hvt
          have hK1 := LK_s (FrR_lks hvt.1) hK
          refine z_iload C dX8_findReadings_48 (q := 0) rfl ?_
          refine z_aload_n C dX8_findReadings_50 rfl (q := 3) rfl ?_
          refine zg_X8_slots C (k := 300) (hL _ (by unfold live; omega)) (by rfl) i8 (by decide +kernel) (v := nI (nn d 3 1)) (LK_S hK1 hI) dX8_findReadings_51 ?_
          refine z_icmp_ge C dX8_findReadings_54 (tgt := 123) (by decide) (fun h54 => ?_) (fun h54 => absurd (Int32.le_refl _) h54)
          refine z_iinc C dX8_findReadings_123 (q := 1) rfl (v := nI (b + 1)) (nI_1 _) (by decide) (lv' := [(4, Value.int (nI (b + 1))), (5, Value.int (nI (nn d 3 1))), (3, Value.int (nI w)), (0, Value.ref (a 300)), (1, Value.int (nI sh)), (2, Value.int which)]) rfl ?_
          refine z_goto C dX8_findReadings_126 (tgt := 39) (by decide) ?_
          refine z_sub [0, 2, 3, 4, 5] (lv' := [(4, Value.int (nI (b + 1))), (3, Value.int (nI w)), (0, Value.ref (a 300)), (1, Value.int (nI sh)), (2, Value.int which)]) rfl ?_
          exact ihb c1 (by rw [Nat.add_assoc] at hvt; exact hvt)
        · intro t c1 hlt ht hvt iht
          have hK1 := LK_s (FrR_lks hvt.1) hK
          have hil := inC_le d sh (layC d x w) b t
          have hcb : sumF (rdC d x sh) w + outC d sh (layC d x w) b + inC d sh (layC d x w) b t < 2 ^ 31 := by omega
          refine z_iload C dX8_findReadings_48 (q := 0) rfl ?_
          refine z_aload_n C dX8_findReadings_50 rfl (q := 3) rfl ?_
          refine zg_X8_slots C (k := 300) (hL _ (by unfold live; omega)) (by rfl) i8 (by decide +kernel) (v := nI (nn d 3 1)) (LK_S hK1 hI) dX8_findReadings_51 ?_
          refine z_icmp_ge C dX8_findReadings_54 (tgt := 123) (by decide) (fun h54 => absurd h54 (nI_ge ht (by omega))) (fun h54 => ?_)
          refine z_aload_n C dX8_findReadings_57 rfl (q := 3) rfl ?_
          refine z_iload_n C dX8_findReadings_58 rfl (q := 4) rfl ?_
          refine z_iload C dX8_findReadings_59 (q := 0) rfl ?_
          refine z_iload C dX8_findReadings_61 (q := 1) rfl ?_
          refine z_pI C (z_runV C (As := [Value.int (nI sh), Value.int (nI t), Value.int (nI b)]) (rest := []) (c_X8_isReading l D cy a L c1 g r nl nk hL hM d hI x hX hK1 (layC d x w) hvt.2.1 sh (by omega) t b (by omega) (by omega)) (cwV 3 C.2.2.2.2.2.1 gX8_findReadings_X8_isReading rfl rfl rfl (by decide +kernel) ⟨Nat.le_of_ble_eq_true rfl, Nat.le_of_ble_eq_true rfl⟩) (hL _ (by unfold live; omega)) (zF_k8 (by rfl)) rfl rfl rfl rfl (Nat.le_of_ble_eq_true rfl) dX8_findReadings_63 ⟨Nat.zero_le _, Nat.zero_le _⟩) (fun v63 e63 => ?_)
          rcases e63 with ⟨rfl, e63⟩ | ⟨rfl, e63⟩
          · refine z_if_eq C dX8_findReadings_66 (tgt := 117) (by decide) (fun h66 => absurd h66 (by decide)) (fun h66 => ?_)
            refine z_aload_n C dX8_findReadings_69 rfl (q := 3) rfl ?_
            refine zg_X8_foundMany C (k := 300) (hL _ (by unfold live; omega)) (by rfl) i8 (by decide +kernel) (v := nI (sumF (rdC d x sh) w + outC d sh (layC d x w) b + inC d sh (layC d x w) b t)) hvt.2.2.1 dX8_findReadings_70 ?_
            refine z_iload_n C dX8_findReadings_73 rfl (q := 5) rfl ?_
            refine z_icmp_ne C dX8_findReadings_74 (tgt := 95) (by decide) (fun h74 => ?_) (fun h74 => ?_)
            · refine z_aload_n C dX8_findReadings_95 rfl (q := 3) rfl ?_
              refine z_dup C dX8_findReadings_96 rfl ?_
              refine zg_X8_foundMany C (k := 300) (hL _ (by unfold live; omega)) (by rfl) i8 (by decide +kernel) (v := nI (sumF (rdC d x sh) w + outC d sh (layC d x w) b + inC d sh (layC d x w) b t)) hvt.2.2.1 dX8_findReadings_97 ?_
              refine z_iconst C dX8_findReadings_100 (v := 1) (by decide) ?_
              refine z_iadd C dX8_findReadings_101 (v := nI (sumF (rdC d x sh) w + outC d sh (layC d x w) b + inC d sh (layC d x w) b t + 1)) (nI_1 _) ?_
              refine zp_X8_foundMany C (k := 300) (hL _ (by unfold live; omega)) (by rfl) i8 (by decide +kernel) dX8_findReadings_102 ?_
              refine z_aload_n C dX8_findReadings_105 rfl (q := 3) rfl ?_
              refine z_dup C dX8_findReadings_106 rfl ?_
              refine zg_X8_foundWords C (k := 300) (hL _ (by unfold live; omega)) (by rfl) i8 (by decide +kernel) (v := fwC d x sh w (outC d sh (layC d x w) b + inC d sh (layC d x w) b t)) (by rw [up2_i _ _ _ _ (by decide)]; exact hvt.2.2.2.1) dX8_findReadings_107 ?_
              refine z_iconst C dX8_findReadings_110 (v := 1) (by decide) ?_
              refine z_iload_n C dX8_findReadings_111 rfl (q := 2) rfl ?_
              refine z_ishl C dX8_findReadings_112 (v := 1 <<< ((nI w) &&& 31)) rfl ?_
              refine z_ior C dX8_findReadings_113 (v := (fwC d x sh w (outC d sh (layC d x w) b + inC d sh (layC d x w) b t)) ||| (1 <<< ((nI w) &&& 31))) rfl ?_
              refine zp_X8_foundWords C (k := 300) (hL _ (by unfold live; omega)) (by rfl) i8 (by decide +kernel) dX8_findReadings_114 ?_
              refine z_iinc C dX8_findReadings_117 (q := 0) rfl (v := nI (t + 1)) (nI_1 _) (by decide) (lv' := [(5, Value.int (nI (t + 1))), (4, Value.int (nI b)), (3, Value.int (nI w)), (0, Value.ref (a 300)), (1, Value.int (nI sh)), (2, Value.int which)]) rfl ?_
              refine z_goto C dX8_findReadings_120 (tgt := 48) (by decide) ?_
              rw [inC_yes e63] at iht
              exact iht _ ⟨FrR_put (FrR_put hvt.1 (Or.inr (Or.inl rfl)) _) (Or.inr (Or.inr rfl)) _, fun q hq => by rw [up2_row _ _ _ (by decide), up2_row _ _ _ (by decide)]; exact hvt.2.1 q hq, by rw [up2_i _ _ _ _ (by decide), up2_self]; rfl, by rw [up2_self, fwC_hit]; rfl, by rw [up2_i _ _ _ _ (by decide), up2_i _ _ _ _ (by decide)]; exact FND_no h74 hvt.2.2.2.2⟩
            · refine z_aload_n C dX8_findReadings_77 rfl (q := 3) rfl ?_
              refine z_sipush C dX8_findReadings_78 (v := nI 1000) (by decide) ?_
              refine z_iload_n C dX8_findReadings_81 rfl (q := 2) rfl ?_
              refine z_imul C dX8_findReadings_82 (v := nI (1000 * w)) (pk_mul 1000 w) ?_
              refine z_bipush C dX8_findReadings_83 (v := nI 100) (by decide) ?_
              refine z_iload C dX8_findReadings_85 (q := 1) rfl ?_
              refine z_imul C dX8_findReadings_87 (v := nI (100 * b)) (pk_mul 100 b) ?_
              refine z_iadd C dX8_findReadings_88 (v := nI ((1000 * w) + (100 * b))) (nI_add (1000 * w) (100 * b)) ?_
              refine z_iload C dX8_findReadings_89 (q := 0) rfl ?_
              refine z_iadd C dX8_findReadings_91 (v := nI (((1000 * w) + (100 * b)) + t)) (nI_add ((1000 * w) + (100 * b)) t) ?_
              refine zp_X8_found C (k := 300) (hL _ (by unfold live; omega)) (by rfl) i8 (by decide +kernel) dX8_findReadings_92 ?_
              refine z_aload_n C dX8_findReadings_95 rfl (q := 3) rfl ?_
              refine z_dup C dX8_findReadings_96 rfl ?_
              refine zg_X8_foundMany C (k := 300) (hL _ (by unfold live; omega)) (by rfl) i8 (by decide +kernel) (v := nI (sumF (rdC d x sh) w + outC d sh (layC d x w) b + inC d sh (layC d x w) b t)) (by rw [up2_i _ _ _ _ (by decide)]; exact hvt.2.2.1) dX8_findReadings_97 ?_
              refine z_iconst C dX8_findReadings_100 (v := 1) (by decide) ?_
              refine z_iadd C dX8_findReadings_101 (v := nI (sumF (rdC d x sh) w + outC d sh (layC d x w) b + inC d sh (layC d x w) b t + 1)) (nI_1 _) ?_
              refine zp_X8_foundMany C (k := 300) (hL _ (by unfold live; omega)) (by rfl) i8 (by decide +kernel) dX8_findReadings_102 ?_
              refine z_aload_n C dX8_findReadings_105 rfl (q := 3) rfl ?_
              refine z_dup C dX8_findReadings_106 rfl ?_
              refine zg_X8_foundWords C (k := 300) (hL _ (by unfold live; omega)) (by rfl) i8 (by decide +kernel) (v := fwC d x sh w (outC d sh (layC d x w) b + inC d sh (layC d x w) b t)) (by rw [up2_i _ _ _ _ (by decide), up2_i _ _ _ _ (by decide)]; exact hvt.2.2.2.1) dX8_findReadings_107 ?_
              refine z_iconst C dX8_findReadings_110 (v := 1) (by decide) ?_
              refine z_iload_n C dX8_findReadings_111 rfl (q := 2) rfl ?_
              refine z_ishl C dX8_findReadings_112 (v := 1 <<< ((nI w) &&& 31)) rfl ?_
              refine z_ior C dX8_findReadings_113 (v := (fwC d x sh w (outC d sh (layC d x w) b + inC d sh (layC d x w) b t)) ||| (1 <<< ((nI w) &&& 31))) rfl ?_
              refine zp_X8_foundWords C (k := 300) (hL _ (by unfold live; omega)) (by rfl) i8 (by decide +kernel) dX8_findReadings_114 ?_
              refine z_iinc C dX8_findReadings_117 (q := 0) rfl (v := nI (t + 1)) (nI_1 _) (by decide) (lv' := [(5, Value.int (nI (t + 1))), (4, Value.int (nI b)), (3, Value.int (nI w)), (0, Value.ref (a 300)), (1, Value.int (nI sh)), (2, Value.int which)]) rfl ?_
              refine z_goto C dX8_findReadings_120 (tgt := 48) (by decide) ?_
              rw [inC_yes e63] at iht
              exact iht _ ⟨FrR_put (FrR_put (FrR_put hvt.1 (Or.inl rfl) _) (Or.inr (Or.inl rfl)) _) (Or.inr (Or.inr rfl)) _, fun q hq => by rw [up2_row _ _ _ (by decide), up2_row _ _ _ (by decide), up2_row _ _ _ (by decide)]; exact hvt.2.1 q hq, by rw [up2_i _ _ _ _ (by decide), up2_self]; rfl, by rw [up2_self, fwC_hit]; rfl, by rw [up2_i _ _ _ _ (by decide), up2_i _ _ _ _ (by decide), up2_self]; exact FND_hit hcb h74 ⟨hw, hb, ht, e25, e63, rfl⟩⟩
          · refine z_if_eq C dX8_findReadings_66 (tgt := 117) (by decide) (fun h66 => ?_) (fun h66 => absurd h66 (by decide))
            refine z_iinc C dX8_findReadings_117 (q := 0) rfl (v := nI (t + 1)) (nI_1 _) (by decide) (lv' := [(5, Value.int (nI (t + 1))), (4, Value.int (nI b)), (3, Value.int (nI w)), (0, Value.ref (a 300)), (1, Value.int (nI sh)), (2, Value.int which)]) rfl ?_
            refine z_goto C dX8_findReadings_120 (tgt := 48) (by decide) ?_
            rw [inC_no e63] at iht
            exact iht c1 hvt
    · refine z_if_eq C dX8_findReadings_28 (tgt := 129) (by decide) (fun h28 => ?_) (fun h28 => absurd h28 (by decide))
      refine z_iinc C dX8_findReadings_129 (q := 0) rfl (v := nI (w + 1)) (nI_1 _) (by decide) (lv' := [(3, Value.int (nI (w + 1))), (0, Value.ref (a 300)), (1, Value.int (nI sh)), (2, Value.int which)]) rfl ?_
      refine z_goto C dX8_findReadings_132 (tgt := 17) (by decide) ?_
      exact ihw c1 ⟨hvw.1, by rw [(bit_no e25).2]; exact hvw.2.1, by rw [(bit_no e25).1]; exact hvw.2.2.1, by rw [(bit_no e25).2]; exact hvw.2.2.2⟩

set_option maxHeartbeats 4000000 in
set_option maxRecDepth 100000 in
theorem c_X8_readings (l : Launch) (D : va_G) (cy : Nat → ClassId) (a : Nat → Nat) (L : List Nat) (c : Nat → Nat → Int32) (g : Nat → Nat → Int64) (r : Nat → Nat → Option Nat) (nl nk : Nat) (hL : zLv L nl nk) (hM : RM r) (d : Nat → Nat → Int32) (hI : CI d nl nk) (x : Nat → Nat → Nat) (hX : XL d nl x) (hK : LK d c nl nk x) (sheet : Int32) : zCI l yX8_readings wsX8_readings { frames := 4, cells := 0, slots := 0, locals := 97 } D cy a L c g r [Value.ref (a 300), Value.int sheet] (fun v c' => ((¬ (0 ≤ sheet.toInt ∧ sheet.toInt ≤ 3) ∧ v = -2 ∧ c' = c) ∨ ((0 ≤ sheet.toInt ∧ sheet.toInt ≤ 3) ∧ nn d (40 + tn sheet) 1 = 1 ∧ v = -11 ∧ c' = up2 c 300 27 1)) ∨ (((0 ≤ sheet.toInt ∧ sheet.toInt ≤ 3) ∧ nn d (40 + tn sheet) 1 = 0) ∧ FrR c c' ∧ v = nI (sumF (rdC d x (tn sheet)) 8))) := by
  refine z_enter cX8_readings 3 (some .int) (by decide) (Nat.le_of_ble_eq_true rfl) ?_
  intro p e s m below meth co C hin
  have C : zC p s m _ meth co D cy _ cX8_readings 3 (some .int) wsX8_readings RX8 := C
  have i8 : ∀ w ∈ wsX80, w ∈ wsX8_readings := by decide +kernel
  refine z_aload_n C dX8_readings_0 rfl (q := 0) rfl ?_
  refine z_iload_n C dX8_readings_1 rfl (q := 1) rfl ?_
  refine z_cI C (z_runV C (As := [Value.int sheet]) (rest := []) (c_X8_lacks l D cy a L c g r nl nk hL hM d hI x hX hK sheet) (cwV 1 C.2.2.2.2.2.1 gX8_readings_X8_lacks rfl rfl rfl (by decide +kernel) ⟨Nat.le_of_ble_eq_true rfl, Nat.le_of_ble_eq_true rfl⟩) (hL _ (by unfold live; omega)) (zF_k8 (by rfl)) rfl rfl rfl rfl (Nat.le_of_ble_eq_true rfl) dX8_readings_2 ⟨Nat.zero_le _, Nat.zero_le _⟩) (fun v2 c2 e2 => ?_)
  rcases e2 with ⟨hts, rfl, hc⟩ | ⟨hts, htl, rfl, rfl⟩ | ⟨hts, htl, rfl, hc⟩
  · have hc := hc.symm
    subst hc
    refine z_istore_n C dX8_readings_5 rfl (by decide) (lv' := [(2, Value.int (-2)), (0, Value.ref (a 300)), (1, Value.int sheet)]) rfl ?_
    refine z_iload_n C dX8_readings_6 rfl (q := 0) rfl ?_
    refine z_if_eq C dX8_readings_7 (tgt := 12) (by decide) (fun h7 => absurd h7 (by decide)) (fun h7 => ?_)
    refine z_iload_n C dX8_readings_10 rfl (q := 0) rfl ?_
    exact z_iret C rfl (Nat.le_refl _) (Nat.le_refl _) dX8_readings_11 ⟨_, rfl, Or.inl (Or.inl ⟨hts, rfl, rfl⟩)⟩
  · refine z_istore_n C dX8_readings_5 rfl (by decide) (lv' := [(2, Value.int (-11)), (0, Value.ref (a 300)), (1, Value.int sheet)]) rfl ?_
    refine z_iload_n C dX8_readings_6 rfl (q := 0) rfl ?_
    refine z_if_eq C dX8_readings_7 (tgt := 12) (by decide) (fun h7 => absurd h7 (by decide)) (fun h7 => ?_)
    refine z_iload_n C dX8_readings_10 rfl (q := 0) rfl ?_
    exact z_iret C rfl (Nat.le_refl _) (Nat.le_refl _) dX8_readings_11 ⟨_, rfl, Or.inl (Or.inr ⟨hts, htl, rfl, rfl⟩)⟩
  · have hc := hc.symm
    subst hc
    obtain ⟨sh, hsh, rfl⟩ := arg_nI (b := 3) hts
    have tsh := nI_toInt (n := sh) (by omega)
    have ush := tn_nI (j := sh) (by omega)
    rw [ush] at htl
    refine z_istore_n C dX8_readings_5 rfl (by decide) (lv' := [(2, Value.int 0), (0, Value.ref (a 300)), (1, Value.int (nI sh))]) rfl ?_
    refine z_iload_n C dX8_readings_6 rfl (q := 0) rfl ?_
    refine z_if_eq C dX8_readings_7 (tgt := 12) (by decide) (fun h7 => ?_) (fun h7 => absurd h7 (by decide))
    refine z_aload_n C dX8_readings_12 rfl (q := 1) rfl ?_
    refine z_iload_n C dX8_readings_13 rfl (q := 2) rfl ?_
    refine z_iconst C dX8_readings_14 (v := -1) (by decide) ?_
    refine z_cV C (z_runV C (As := [Value.int (nI sh), Value.int (-1)]) (rest := []) (c_X8_findReadings l D cy a L c g r nl nk hL hM d hI x hX hK sh (by omega) (-1)) (cwV 2 C.2.2.2.2.2.1 gX8_readings_X8_findReadings rfl rfl rfl (by decide +kernel) ⟨Nat.le_of_ble_eq_true rfl, Nat.le_of_ble_eq_true rfl⟩) (hL _ (by unfold live; omega)) (zF_k8 (by rfl)) rfl rfl rfl rfl (Nat.le_of_ble_eq_true rfl) dX8_readings_15 ⟨Nat.zero_le _, Nat.zero_le _⟩) (fun c15 e15 => ?_)
    refine z_aload_n C dX8_readings_18 rfl (q := 1) rfl ?_
    refine zg_X8_foundMany C (k := 300) (hL _ (by unfold live; omega)) (by rfl) i8 (by decide +kernel) (v := c15 300 12) rfl dX8_readings_19 ?_
    exact z_iret C rfl (Nat.le_refl _) (Nat.le_refl _) dX8_readings_22 ⟨_, rfl, Or.inr ⟨⟨by omega, by rw [ush]; exact htl⟩, e15.1, by rw [ush]; exact e15.2.1⟩⟩

set_option maxHeartbeats 4000000 in
set_option maxRecDepth 100000 in
theorem c_X8_words (l : Launch) (D : va_G) (cy : Nat → ClassId) (a : Nat → Nat) (L : List Nat) (c : Nat → Nat → Int32) (g : Nat → Nat → Int64) (r : Nat → Nat → Option Nat) (nl nk : Nat) (hL : zLv L nl nk) (hM : RM r) (d : Nat → Nat → Int32) (hI : CI d nl nk) (x : Nat → Nat → Nat) (hX : XL d nl x) (hK : LK d c nl nk x) (sheet : Int32) : zCI l yX8_words wsX8_words { frames := 4, cells := 0, slots := 0, locals := 97 } D cy a L c g r [Value.ref (a 300), Value.int sheet] (fun v c' => ((¬ (0 ≤ sheet.toInt ∧ sheet.toInt ≤ 3) ∧ v = -2 ∧ c' = c) ∨ ((0 ≤ sheet.toInt ∧ sheet.toInt ≤ 3) ∧ nn d (40 + tn sheet) 1 = 1 ∧ v = -11 ∧ c' = up2 c 300 27 1)) ∨ (((0 ≤ sheet.toInt ∧ sheet.toInt ≤ 3) ∧ nn d (40 + tn sheet) 1 = 0) ∧ FrR c c' ∧ v = bitC d x (tn sheet) 8)) := by
  refine z_enter cX8_words 3 (some .int) (by decide) (Nat.le_of_ble_eq_true rfl) ?_
  intro p e s m below meth co C hin
  have C : zC p s m _ meth co D cy _ cX8_words 3 (some .int) wsX8_words RX8 := C
  have i8 : ∀ w ∈ wsX80, w ∈ wsX8_words := by decide +kernel
  refine z_aload_n C dX8_words_0 rfl (q := 0) rfl ?_
  refine z_iload_n C dX8_words_1 rfl (q := 1) rfl ?_
  refine z_cI C (z_runV C (As := [Value.int sheet]) (rest := []) (c_X8_lacks l D cy a L c g r nl nk hL hM d hI x hX hK sheet) (cwV 1 C.2.2.2.2.2.1 gX8_words_X8_lacks rfl rfl rfl (by decide +kernel) ⟨Nat.le_of_ble_eq_true rfl, Nat.le_of_ble_eq_true rfl⟩) (hL _ (by unfold live; omega)) (zF_k8 (by rfl)) rfl rfl rfl rfl (Nat.le_of_ble_eq_true rfl) dX8_words_2 ⟨Nat.zero_le _, Nat.zero_le _⟩) (fun v2 c2 e2 => ?_)
  rcases e2 with ⟨hts, rfl, hc⟩ | ⟨hts, htl, rfl, rfl⟩ | ⟨hts, htl, rfl, hc⟩
  · have hc := hc.symm
    subst hc
    refine z_istore_n C dX8_words_5 rfl (by decide) (lv' := [(2, Value.int (-2)), (0, Value.ref (a 300)), (1, Value.int sheet)]) rfl ?_
    refine z_iload_n C dX8_words_6 rfl (q := 0) rfl ?_
    refine z_if_eq C dX8_words_7 (tgt := 12) (by decide) (fun h7 => absurd h7 (by decide)) (fun h7 => ?_)
    refine z_iload_n C dX8_words_10 rfl (q := 0) rfl ?_
    exact z_iret C rfl (Nat.le_refl _) (Nat.le_refl _) dX8_words_11 ⟨_, rfl, Or.inl (Or.inl ⟨hts, rfl, rfl⟩)⟩
  · refine z_istore_n C dX8_words_5 rfl (by decide) (lv' := [(2, Value.int (-11)), (0, Value.ref (a 300)), (1, Value.int sheet)]) rfl ?_
    refine z_iload_n C dX8_words_6 rfl (q := 0) rfl ?_
    refine z_if_eq C dX8_words_7 (tgt := 12) (by decide) (fun h7 => absurd h7 (by decide)) (fun h7 => ?_)
    refine z_iload_n C dX8_words_10 rfl (q := 0) rfl ?_
    exact z_iret C rfl (Nat.le_refl _) (Nat.le_refl _) dX8_words_11 ⟨_, rfl, Or.inl (Or.inr ⟨hts, htl, rfl, rfl⟩)⟩
  · have hc := hc.symm
    subst hc
    obtain ⟨sh, hsh, rfl⟩ := arg_nI (b := 3) hts
    have tsh := nI_toInt (n := sh) (by omega)
    have ush := tn_nI (j := sh) (by omega)
    rw [ush] at htl
    refine z_istore_n C dX8_words_5 rfl (by decide) (lv' := [(2, Value.int 0), (0, Value.ref (a 300)), (1, Value.int (nI sh))]) rfl ?_
    refine z_iload_n C dX8_words_6 rfl (q := 0) rfl ?_
    refine z_if_eq C dX8_words_7 (tgt := 12) (by decide) (fun h7 => ?_) (fun h7 => absurd h7 (by decide))
    refine z_aload_n C dX8_words_12 rfl (q := 1) rfl ?_
    refine z_iload_n C dX8_words_13 rfl (q := 2) rfl ?_
    refine z_iconst C dX8_words_14 (v := -1) (by decide) ?_
    refine z_cV C (z_runV C (As := [Value.int (nI sh), Value.int (-1)]) (rest := []) (c_X8_findReadings l D cy a L c g r nl nk hL hM d hI x hX hK sh (by omega) (-1)) (cwV 2 C.2.2.2.2.2.1 gX8_words_X8_findReadings rfl rfl rfl (by decide +kernel) ⟨Nat.le_of_ble_eq_true rfl, Nat.le_of_ble_eq_true rfl⟩) (hL _ (by unfold live; omega)) (zF_k8 (by rfl)) rfl rfl rfl rfl (Nat.le_of_ble_eq_true rfl) dX8_words_15 ⟨Nat.zero_le _, Nat.zero_le _⟩) (fun c15 e15 => ?_)
    refine z_aload_n C dX8_words_18 rfl (q := 1) rfl ?_
    refine zg_X8_foundWords C (k := 300) (hL _ (by unfold live; omega)) (by rfl) i8 (by decide +kernel) (v := c15 300 13) rfl dX8_words_19 ?_
    exact z_iret C rfl (Nat.le_refl _) (Nat.le_refl _) dX8_words_22 ⟨_, rfl, Or.inr ⟨⟨by omega, by rw [ush]; exact htl⟩, e15.1, by rw [ush]; exact e15.2.2.1⟩⟩

set_option maxHeartbeats 4000000 in
set_option maxRecDepth 100000 in
theorem c_X8_reading (l : Launch) (D : va_G) (cy : Nat → ClassId) (a : Nat → Nat) (L : List Nat) (c : Nat → Nat → Int32) (g : Nat → Nat → Int64) (r : Nat → Nat → Option Nat) (nl nk : Nat) (hL : zLv L nl nk) (hM : RM r) (d : Nat → Nat → Int32) (hI : CI d nl nk) (x : Nat → Nat → Nat) (hX : XL d nl x) (hK : LK d c nl nk x) (sheet i : Int32) : zCI l yX8_reading wsX8_reading { frames := 4, cells := 0, slots := 0, locals := 97 } D cy a L c g r [Value.ref (a 300), Value.int sheet, Value.int i] (fun v c' => (i.toInt < 0 ∧ v = -2 ∧ c' = c) ∨ (0 ≤ i.toInt ∧ ((¬ (0 ≤ sheet.toInt ∧ sheet.toInt ≤ 3) ∧ v = -2 ∧ c' = c) ∨ ((0 ≤ sheet.toInt ∧ sheet.toInt ≤ 3) ∧ nn d (40 + tn sheet) 1 = 1 ∧ v = -11 ∧ c' = up2 c 300 27 1))) ∨ (0 ≤ i.toInt ∧ ((0 ≤ sheet.toInt ∧ sheet.toInt ≤ 3) ∧ nn d (40 + tn sheet) 1 = 0) ∧ FrR c c' ∧ FND d x (tn sheet) i (sumF (rdC d x (tn sheet)) 8) v)) := by
  refine z_enter cX8_reading 4 (some .int) (by decide) (Nat.le_of_ble_eq_true rfl) ?_
  intro p e s m below meth co C hin
  have C : zC p s m _ meth co D cy _ cX8_reading 4 (some .int) wsX8_reading RX8 := C
  have i8 : ∀ w ∈ wsX80, w ∈ wsX8_reading := by decide +kernel
  refine z_iload_n C dX8_reading_0 rfl (q := 2) rfl ?_
  refine z_if_ge C dX8_reading_1 (tgt := 7) (by decide) (fun h1 => ?_) (fun h1 => ?_)
  · have q1 := iv_le (show (0 : Int32).toInt = 0 from by decide) rfl h1
    refine z_aload_n C dX8_reading_7 rfl (q := 0) rfl ?_
    refine z_iload_n C dX8_reading_8 rfl (q := 1) rfl ?_
    refine z_cI C (z_runV C (As := [Value.int sheet]) (rest := []) (c_X8_lacks l D cy a L c g r nl nk hL hM d hI x hX hK sheet) (cwV 1 C.2.2.2.2.2.1 gX8_reading_X8_lacks rfl rfl rfl (by decide +kernel) ⟨Nat.le_of_ble_eq_true rfl, Nat.le_of_ble_eq_true rfl⟩) (hL _ (by unfold live; omega)) (zF_k8 (by rfl)) rfl rfl rfl rfl (Nat.le_of_ble_eq_true rfl) dX8_reading_9 ⟨Nat.zero_le _, Nat.zero_le _⟩) (fun v9 c9 e9 => ?_)
    rcases e9 with ⟨hts, rfl, hc⟩ | ⟨hts, htl, rfl, rfl⟩ | ⟨hts, htl, rfl, hc⟩
    · have hc := hc.symm
      subst hc
      refine z_istore_n C dX8_reading_12 rfl (by decide) (lv' := [(3, Value.int (-2)), (0, Value.ref (a 300)), (1, Value.int sheet), (2, Value.int i)]) rfl ?_
      refine z_iload_n C dX8_reading_13 rfl (q := 0) rfl ?_
      refine z_if_eq C dX8_reading_14 (tgt := 19) (by decide) (fun h14 => absurd h14 (by decide)) (fun h14 => ?_)
      refine z_iload_n C dX8_reading_17 rfl (q := 0) rfl ?_
      exact z_iret C rfl (Nat.le_refl _) (Nat.le_refl _) dX8_reading_18 ⟨_, rfl, Or.inr (Or.inl ⟨by omega, Or.inl ⟨hts, rfl, rfl⟩⟩)⟩
    · refine z_istore_n C dX8_reading_12 rfl (by decide) (lv' := [(3, Value.int (-11)), (0, Value.ref (a 300)), (1, Value.int sheet), (2, Value.int i)]) rfl ?_
      refine z_iload_n C dX8_reading_13 rfl (q := 0) rfl ?_
      refine z_if_eq C dX8_reading_14 (tgt := 19) (by decide) (fun h14 => absurd h14 (by decide)) (fun h14 => ?_)
      refine z_iload_n C dX8_reading_17 rfl (q := 0) rfl ?_
      exact z_iret C rfl (Nat.le_refl _) (Nat.le_refl _) dX8_reading_18 ⟨_, rfl, Or.inr (Or.inl ⟨by omega, Or.inr ⟨hts, htl, rfl, rfl⟩⟩)⟩
    · have hc := hc.symm
      subst hc
      obtain ⟨sh, hsh, rfl⟩ := arg_nI (b := 3) hts
      have tsh := nI_toInt (n := sh) (by omega)
      have ush := tn_nI (j := sh) (by omega)
      rw [ush] at htl
      refine z_istore_n C dX8_reading_12 rfl (by decide) (lv' := [(3, Value.int 0), (0, Value.ref (a 300)), (1, Value.int (nI sh)), (2, Value.int i)]) rfl ?_
      refine z_iload_n C dX8_reading_13 rfl (q := 0) rfl ?_
      refine z_if_eq C dX8_reading_14 (tgt := 19) (by decide) (fun h14 => ?_) (fun h14 => absurd h14 (by decide))
      refine z_aload_n C dX8_reading_19 rfl (q := 1) rfl ?_
      refine z_iload_n C dX8_reading_20 rfl (q := 2) rfl ?_
      refine z_iload_n C dX8_reading_21 rfl (q := 3) rfl ?_
      refine z_cV C (z_runV C (As := [Value.int (nI sh), Value.int i]) (rest := []) (c_X8_findReadings l D cy a L c g r nl nk hL hM d hI x hX hK sh (by omega) i) (cwV 2 C.2.2.2.2.2.1 gX8_reading_X8_findReadings rfl rfl rfl (by decide +kernel) ⟨Nat.le_of_ble_eq_true rfl, Nat.le_of_ble_eq_true rfl⟩) (hL _ (by unfold live; omega)) (zF_k8 (by rfl)) rfl rfl rfl rfl (Nat.le_of_ble_eq_true rfl) dX8_reading_22 ⟨Nat.zero_le _, Nat.zero_le _⟩) (fun c22 e22 => ?_)
      refine z_aload_n C dX8_reading_25 rfl (q := 1) rfl ?_
      refine zg_X8_found C (k := 300) (hL _ (by unfold live; omega)) (by rfl) i8 (by decide +kernel) (v := c22 300 11) rfl dX8_reading_26 ?_
      exact z_iret C rfl (Nat.le_refl _) (Nat.le_refl _) dX8_reading_29 ⟨_, rfl, Or.inr (Or.inr ⟨by omega, ⟨by omega, by rw [ush]; exact htl⟩, e22.1, by rw [ush]; exact e22.2.2.2⟩)⟩
  · have q1 := iv_nle (show (0 : Int32).toInt = 0 from by decide) rfl h1
    refine z_bipush C dX8_reading_4 (v := -2) (by decide) ?_
    exact z_iret C rfl (Nat.le_refl _) (Nat.le_refl _) dX8_reading_6 ⟨_, rfl, Or.inl ⟨by omega, rfl, rfl⟩⟩
