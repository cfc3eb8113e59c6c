theorem sumF_monoA {f g : Nat → Nat} : ∀ {n : Nat}, (∀ i, i < n → f i ≤ g i) → sumF f n ≤ sumF g n
  | 0, _ => Nat.le_refl 0
  | n + 1, h => by
    have h1 := sumF_monoA (n := n) (fun i hi => h i (by omega))
    have h2 := h n (by omega)
    rw [sumF, sumF]; omega
theorem sumF_lt {f g : Nat → Nat} {a : Nat} : ∀ {n : Nat}, (∀ i, i < n → f i ≤ g i) → a < n → f a < g a → sumF f n < sumF g n
  | 0, _, h, _ => absurd h (Nat.not_lt_zero a)
  | n + 1, h, ha, hv => by
    have h2 := h n (by omega)
    rw [sumF, sumF]
    by_cases e : a = n
    · subst e
      have h1 := sumF_monoA (n := a) (fun i hi => h i (by omega))
      omega
    · have h1 := sumF_lt (n := n) (fun i hi => h i (by omega)) (show a < n by omega) hv
      omega
theorem sumF_pt {f g : Nat → Nat} {a v : Nat} : ∀ {n : Nat}, a < n → g a = f a + v → (∀ q, q < n → q ≠ a → g q = f q) → sumF g n = sumF f n + v
  | 0, h, _, _ => absurd h (Nat.not_lt_zero a)
  | n + 1, ha, hv, h => by
    rw [sumF, sumF]
    by_cases e : a = n
    · subst e
      rw [sumF_congr (n := a) (fun i hi => h i (by omega) (by omega)), hv]; omega
    · rw [sumF_pt (n := n) (by omega) hv (fun q hq hne => h q (by omega) hne), h n (by omega) (by omega)]; omega
theorem maxF_congr {f f' : Nat → Nat} : ∀ {n : Nat}, (∀ i, i < n → f i = f' i) → maxF f n = maxF f' n
  | 0, _ => rfl
  | n + 1, h => by rw [maxF, maxF, maxF_congr (n := n) (fun i hi => h i (by omega)), h n (by omega)]
theorem maxF_pt {f g : Nat → Nat} {a v : Nat} : ∀ {n : Nat}, a < n → f a = 0 → g a = v → (∀ q, q < n → q ≠ a → g q = f q) → maxF g n = max (maxF f n) v
  | 0, h, _, _, _ => absurd h (Nat.not_lt_zero a)
  | n + 1, ha, h0, hv, h => by
    rw [maxF, maxF]
    by_cases e : a = n
    · subst e
      rw [maxF_congr (n := a) (fun i hi => h i (by omega) (by omega)), hv, h0]; omega
    · rw [maxF_pt (n := n) (by omega) h0 hv (fun q hq hne => h q (by omega) hne), h n (by omega) (by omega)]; omega
theorem sumF_1 : ∀ n, sumF (fun _ => 1) n = n
  | 0 => rfl
  | n + 1 => by rw [sumF, sumF_1 n]
theorem one_mono {P Q : Prop} (h : P → Q) : one P ≤ one Q := by
  rcases Classical.em P with hp | hp
  · rw [one_pos hp, one_pos (h hp)]; exact Nat.le_refl 1
  · rw [one_neg hp]; exact Nat.zero_le _
section BEF
variable {d : Nat → Nat → Int32} {x : Nat → Nat → Nat} {w p q : Nat}
theorem bef_irr : ¬ befC d x w p p := by unfold befC; omega
theorem bef_tr {r : Nat} (h1 : befC d x w p q) (h2 : befC d x w q r) : befC d x w p r := by unfold befC at *; omega
theorem bef_tot (h : ¬ befC d x w q p) : p = q ∨ befC d x w p q := by unfold befC at *; omega
theorem rank_lt {n : Nat} (hq : q < n) (h : befC d x w q p) : rankC d x w q n < rankC d x w p n := sumF_lt (fun i _ => one_mono (fun h1 => bef_tr h1 h)) hq (by rw [one_neg bef_irr, one_pos h]; decide)
theorem rank_ge (n : Nat) (h : ¬ befC d x w q p) : rankC d x w p n ≤ rankC d x w q n := by
  rcases bef_tot h with e | e
  · subst e; exact Nat.le_refl _
  · exact sumF_monoA (fun i _ => one_mono (fun h1 => bef_tr h1 e))
theorem rank_iff {n : Nat} (hq : q < n) : befC d x w q p ↔ rankC d x w q n < rankC d x w p n := ⟨rank_lt hq, fun h => Classical.byContradiction (fun hn => by have := rank_ge n hn; omega)⟩
theorem rank_n {n : Nat} (hp : p < n) : rankC d x w p n < n := by
  have h : rankC d x w p n < sumF (fun _ => 1) n := sumF_lt (fun _ _ => one_le _) hp (by rw [one_neg bef_irr]; decide)
  rw [sumF_1] at h; exact h
theorem rank_inj {n : Nat} (hp : p < n) (hq : q < n) (h : rankC d x w p n = rankC d x w q n) : p = q := by
  rcases bef_tot (mt (rank_lt hq) (show ¬ rankC d x w q n < rankC d x w p n by omega)) with e | e
  · exact e
  · have := rank_lt hp e; omega
end BEF
/-- F lists the first k places in their order -/
def ORDF (d : Nat → Nat → Int32) (x : Nat → Nat → Nat) (w k : Nat) (F : Nat → Int32) : Prop := ∀ p, p < k → ∃ q, q < k ∧ F p = nI q ∧ rankC d x w q k = p
theorem ORD_step {d : Nat → Nat → Int32} {x : Nat → Nat → Nat} {w k : Nat} {F : Nat → Int32} (h : ORDF d x w k F) : ORDF d x w (k + 1) (fun p => if p = rankC d x w k k then nI k else if rankC d x w k k < p ∧ p ≤ k then F (p - 1) else F p) := by
  intro p hp
  have hR := rankC_le d x w k k
  by_cases e : p = rankC d x w k k
  · exact ⟨k, by omega, if_pos e, by rw [rankC_no bef_irr]; exact e.symm⟩
  · by_cases e2 : rankC d x w k k < p
    · obtain ⟨q, hq, h1, h2⟩ := h (p - 1) (by omega)
      refine ⟨q, by omega, by simp only [if_neg e]; rw [if_pos (by omega)]; exact h1, ?_⟩
      have hnb : ¬ befC d x w q k := fun hb => by have := rank_lt hq hb; omega
      rw [rankC_yes ((bef_tot hnb).resolve_left (by omega)), h2]; omega
    · obtain ⟨q, hq, h1, h2⟩ := h p (by omega)
      refine ⟨q, by omega, by simp only [if_neg e]; rw [if_neg (by omega)]; exact h1, ?_⟩
      have hb : befC d x w q k := (rank_iff hq).mpr (by omega)
      rw [rankC_no (fun h3 => bef_irr (bef_tr h3 hb)), h2]
theorem sh_0 (c : Nat → Nat → Int32) (k : Nat) : up1 c 315 (fun p => if k - 0 < p ∧ p ≤ k then c 315 (p - 1) else c 315 p) = c := by
  funext k' q; unfold up1; split
  · rename_i h; subst h; exact if_neg (by omega)
  · rfl
theorem sh_step (c : Nat → Nat → Int32) {k u : Nat} (hu : u < k) : up2 (up1 c 315 (fun p => if k - u < p ∧ p ≤ k then c 315 (p - 1) else c 315 p)) 315 (k - u) (c 315 (k - u - 1)) = up1 c 315 (fun p => if k - (u + 1) < p ∧ p ≤ k then c 315 (p - 1) else c 315 p) := by
  funext k' q; unfold up2 up1
  by_cases hk : k' = 315
  · subst hk
    simp only [if_true]
    by_cases hq : q = k - u
    · subst hq; rw [if_pos rfl, if_pos (by omega)]
    · rw [if_neg hq]
      by_cases h2 : k - u < q ∧ q ≤ k
      · rw [if_pos h2, if_pos (by omega)]
      · rw [if_neg h2, if_neg (by omega)]
  · simp [hk]
theorem sh_fin {d : Nat → Nat → Int32} {x : Nat → Nat → Nat} {w k : Nat} {c : Nat → Nat → Int32} (h : ORDF d x w k (c 315)) : ORDF d x w (k + 1) (up2 (up1 c 315 (fun p => if k - (k - rankC d x w k k) < p ∧ p ≤ k then c 315 (p - 1) else c 315 p)) 315 (k - (k - rankC d x w k k)) (nI k) 315) := by
  have hR := rankC_le d x w k k
  have e : k - (k - rankC d x w k k) = rankC d x w k k := by omega
  rw [e]
  have h2 := ORD_step h
  have e2 : up2 (up1 c 315 (fun p => if rankC d x w k k < p ∧ p ≤ k then c 315 (p - 1) else c 315 p)) 315 (rankC d x w k k) (nI k) 315 = (fun p => if p = rankC d x w k k then nI k else if rankC d x w k k < p ∧ p ≤ k then c 315 (p - 1) else c 315 p) := by
    funext p; simp [up2, up1]
  rw [e2]; exact h2
noncomputable def tmF (d : Nat → Nat → Int32) (x : Nat → Nat → Nat) (w k q : Nat) : Nat := one (rankC d x w q (nn d (20 + w) 1) < k) * nn d (100 + x w q) 1
noncomputable def laF (d : Nat → Nat → Int32) (x : Nat → Nat → Nat) (w k q : Nat) : Nat := one (rankC d x w q (nn d (20 + w) 1) < k) * lateN d x w q
noncomputable def spF (d : Nat → Nat → Int32) (x : Nat → Nat → Nat) (w k q : Nat) : Nat := one (rankC d x w q (nn d (20 + w) 1) < k) * one (0 < lateN d x w q)
section RK
variable {d : Nat → Nat → Int32} {x : Nat → Nat → Nat} {w k q : Nat}
theorem rk_at (h : rankC d x w q (nn d (20 + w) 1) = k) (v : Nat) : one (rankC d x w q (nn d (20 + w) 1) < k) * v = 0 ∧ one (rankC d x w q (nn d (20 + w) 1) < k + 1) * v = v := by
  rw [one_neg (by omega), one_pos (by omega), Nat.zero_mul, Nat.one_mul]; exact ⟨rfl, rfl⟩
theorem rk_off (hq : q < nn d (20 + w) 1) (h : rankC d x w q (nn d (20 + w) 1) = k) {j : Nat} (hj : j < nn d (20 + w) 1) (hne : j ≠ q) : one (rankC d x w j (nn d (20 + w) 1) < k + 1) = one (rankC d x w j (nn d (20 + w) 1) < k) := one_congr ⟨fun h1 => by
    have : rankC d x w j (nn d (20 + w) 1) ≠ k := fun e => hne (rank_inj hj hq (e.trans h.symm))
    omega, fun h1 => by omega⟩
theorem tm_step (hq : q < nn d (20 + w) 1) (h : rankC d x w q (nn d (20 + w) 1) = k) : sumF (tmF d x w (k + 1)) (nn d (20 + w) 1) = sumF (tmF d x w k) (nn d (20 + w) 1) + nn d (100 + x w q) 1 := sumF_pt hq (by unfold tmF; rw [(rk_at h _).1, (rk_at h _).2, Nat.zero_add]) (fun j hj hne => by unfold tmF; rw [rk_off hq h hj hne])
theorem tm_end (hq : q < nn d (20 + w) 1) (h : rankC d x w q (nn d (20 + w) 1) = k) : sumF (tmF d x w (k + 1)) (nn d (20 + w) 1) = endC d x w q (nn d (20 + w) 1) := by
  rw [tm_step hq h, endC, Nat.add_comm]
  congr 1
  exact sumF_congr (fun j hj => by unfold tmF; rw [one_congr (show rankC d x w j (nn d (20 + w) 1) < k ↔ befC d x w j q from ⟨fun h1 => (rank_iff hj).mpr (by omega), fun h1 => by have := rank_lt hj h1; omega⟩)])
theorem la_step (hq : q < nn d (20 + w) 1) (h : rankC d x w q (nn d (20 + w) 1) = k) : maxF (laF d x w (k + 1)) (nn d (20 + w) 1) = max (maxF (laF d x w k) (nn d (20 + w) 1)) (lateN d x w q) := maxF_pt hq (by unfold laF; exact (rk_at h _).1) (by unfold laF; exact (rk_at h _).2) (fun j hj hne => by unfold laF; rw [rk_off hq h hj hne])
theorem sp_step (hq : q < nn d (20 + w) 1) (h : rankC d x w q (nn d (20 + w) 1) = k) : sumF (spF d x w (k + 1)) (nn d (20 + w) 1) = sumF (spF d x w k) (nn d (20 + w) 1) + one (0 < lateN d x w q) := sumF_pt hq (by unfold spF; rw [(rk_at h _).1, (rk_at h _).2, Nat.zero_add]) (fun j hj hne => by unfold spF; rw [rk_off hq h hj hne])
theorem tm_0 : sumF (tmF d x w 0) (nn d (20 + w) 1) = 0 := Nat.le_zero.mp (by have := sumF_le (f := tmF d x w 0) (b := 0) (n := nn d (20 + w) 1) (fun i _ => by unfold tmF; rw [one_neg (by omega)]; omega); omega)
theorem la_0 : maxF (laF d x w 0) (nn d (20 + w) 1) = 0 := Nat.le_zero.mp (maxF_le (fun i _ => by unfold laF; rw [one_neg (by omega)]; omega))
theorem sp_0 : sumF (spF d x w 0) (nn d (20 + w) 1) = 0 := Nat.le_zero.mp (by have := sumF_le (f := spF d x w 0) (b := 0) (n := nn d (20 + w) 1) (fun i _ => by unfold spF; rw [one_neg (by omega)]; omega); omega)
theorem la_n : maxF (laF d x w (nn d (20 + w) 1)) (nn d (20 + w) 1) = maxF (lateN d x w) (nn d (20 + w) 1) := maxF_congr (fun i hi => by unfold laF; rw [one_pos (rank_n hi), Nat.one_mul])
theorem sp_n : sumF (spF d x w (nn d (20 + w) 1)) (nn d (20 + w) 1) = spoilC d x w := sumF_congr (fun i hi => by unfold spF; rw [one_pos (rank_n hi), Nat.one_mul])
theorem endD_le {nl nk : Nat} (hI : CI d nl nk) (hX : XL d nl x) (hw : w < 8) (hp : q < nn d (20 + w) 1) : endC d x w q (nn d (20 + w) 1) ≤ 99 := by
  have h1 := (CI_sz hI hw).2.2
  have h2 := (CI_mi hI (hX w hw q hp)).2.2
  have h3 : sumF (fun j => one (befC d x w j q) * nn d (100 + x w j) 1) (nn d (20 + w) 1) ≤ nn d (20 + w) 1 * 9 := sumF_le (fun i hi => by
    have h4 := (CI_mi hI (hX w hw i hi)).2.2
    rcases Classical.em (befC d x w i q) with h | h
    · rw [one_pos h]; omega
    · rw [one_neg h]; omega)
  unfold endC; omega
theorem la_le {nl nk : Nat} (hI : CI d nl nk) (hX : XL d nl x) (hw : w < 8) : maxF (laF d x w k) (nn d (20 + w) 1) ≤ 99 := maxF_le (fun i hi => by
  have h1 := endD_le hI hX hw hi
  have h2 : lateN d x w i ≤ 99 := by unfold lateN; omega
  unfold laF
  rcases Classical.em (rankC d x w i (nn d (20 + w) 1) < k) with h | h
  · rw [one_pos h]; omega
  · rw [one_neg h]; omega)
theorem sp_le : sumF (spF d x w k) (nn d (20 + w) 1) ≤ nn d (20 + w) 1 := sumF_le1 (fun i _ => by
  unfold spF
  have h1 := one_le (0 < lateN d x w i)
  rcases Classical.em (rankC d x w i (nn d (20 + w) 1) < k) with h | h
  · rw [one_pos h]; omega
  · rw [one_neg h]; omega)
end RK
/-- the same but for the reference's scratch of orders -/
def FrO (c c1 : Nat → Nat → Int32) : Prop := (∀ k, k ≠ 300 → k ≠ 315 → c1 k = c k) ∧ ∀ j, j ≠ 15 → j ≠ 16 → c1 300 j = c 300 j
theorem FrO_rf (c : Nat → Nat → Int32) : FrO c c := ⟨fun _ _ _ => rfl, fun _ _ _ => rfl⟩
theorem FrO_put {c c1 : Nat → Nat → Int32} (h : FrO c c1) {j : Nat} (hj : j = 15 ∨ j = 16) (v : Int32) : FrO c (up2 c1 300 j v) := ⟨fun k h1 h2 => (up2_row c1 j v h1).trans (h.1 k h1 h2), fun i h1 h2 => (up2_i c1 300 300 v (by omega)).trans (h.2 i h1 h2)⟩
theorem FrO_row {c c1 : Nat → Nat → Int32} (h : FrO c c1) (f : Nat → Int32) : FrO c (up1 c1 315 f) := ⟨fun k h1 h2 => (up1_k c1 f h2).trans (h.1 k h1 h2), fun i h1 h2 => by rw [up1_k c1 f (by decide)]; exact h.2 i h1 h2⟩
theorem FrO_el {c c1 : Nat → Nat → Int32} (h : FrO c c1) (i : Nat) (v : Int32) : FrO c (up2 c1 315 i v) := ⟨fun k h1 h2 => (up2_row c1 i v h2).trans (h.1 k h1 h2), fun j h1 h2 => by rw [up2_row c1 i v (by decide)]; exact h.2 j h1 h2⟩
theorem FrO_lks {c c1 : Nat → Nat → Int32} (h : FrO c c1) : lks c c1 := ⟨fun k hk => h.1 k (by unfold lkr at hk; omega) (by unfold lkr at hk; omega), fun j hj => h.2 j (by unfold lkf at hj; omega) (by unfold lkf at hj; omega)⟩

set_option maxHeartbeats 4000000 in
set_option maxRecDepth 100000 in
theorem c_X8_findOrder (l : Launch) (D : va_G) (cy : Nat → ClassId) (a : Nat → Nat) (L : List Nat) (c : Nat → Nat → Int32) (g : Nat → Nat → Int64) (r : Nat → Nat → Option Nat) (nl nk : Nat) (hL : zLv L nl nk) (hM : RM r) (d : Nat → Nat → Int32) (hI : CI d nl nk) (x : Nat → Nat → Nat) (hX : XL d nl x) (hK : LK d c nl nk x) (w : Nat) (hw : w < 8) : zCV l yX8_findOrder wsX8_findOrder { frames := 0, cells := 0, slots := 0, locals := 0 } D cy a L c g r [Value.ref (a 300), Value.int (nI w)] (fun c' => FrO c c' ∧ ORDF d x w (nn d (20 + w) 1) (c' 315) ∧ c' 300 15 = nI (maxF (lateN d x w) (nn d (20 + w) 1)) ∧ c' 300 16 = nI (spoilC d x w)) := by
  refine z_enter cX8_findOrder 6 none (by decide) (Nat.le_of_ble_eq_true rfl) ?_
  intro p e s m below meth co C hin
  have C : zC p s m _ meth co D cy _ cX8_findOrder 6 none wsX8_findOrder RX8 := C
  have i8 : ∀ w ∈ wsX80, w ∈ wsX8_findOrder := by decide +kernel
  have h16 := CI_nl16 hI
  have hz := (CI_sz hI hw).2
  refine z_iconst C dX8_findOrder_0 (v := nI 0) (by decide) ?_
  refine z_istore_n C dX8_findOrder_1 rfl (by decide) (lv' := [(2, Value.int (nI 0)), (0, Value.ref (a 300)), (1, Value.int (nI w))]) rfl ?_
  refine z_forI (fun k c1 => FrO c c1 ∧ ORDF d x w k (c1 315)) 0 ((nn d (20 + w) 1)) (Nat.zero_le _) (fun k => [(2, Value.int (nI k)), (0, Value.ref (a 300)), (1, Value.int (nI w))]) ?_ ?_ (⟨FrO_rf c, fun p h => absurd h (Nat.not_lt_zero p)⟩)
  · intro c1 hvk
    have hK1 := LK_s (FrO_lks hvk.1) hK
    refine z_iload_n C dX8_findOrder_2 rfl (q := 0) rfl ?_
    refine z_aload_n C dX8_findOrder_3 rfl (q := 1) rfl ?_
    refine zg_X8_spelled C (k := 300) (hL _ (by unfold live; omega)) (by rfl) i8 (by decide +kernel) (k' := 307) (RM_spelled hM) dX8_findOrder_4 ?_
    refine z_iload_n C dX8_findOrder_7 rfl (q := 2) rfl ?_
    refine z_iaload C (k := 307) (hL _ (by unfold live; omega)) (by rfl) (j := w) rfl (by rw [show ln 307 = 8 from rfl]; omega) (by rw [show ln 307 = 8 from rfl]; decide) (v := nI (nn d (20 + w) 1)) (LK_sz hK1 hI hw) dX8_findOrder_8 ?_
    refine z_icmp_ge C dX8_findOrder_9 (tgt := 93) (by decide) (fun h9 => ?_) (fun h9 => absurd (Int32.le_refl _) h9)
    refine z_aload_n C dX8_findOrder_93 rfl (q := 1) rfl ?_
    refine z_iconst C dX8_findOrder_94 (v := 0) (by decide) ?_
    refine zp_X8_worst C (k := 300) (hL _ (by unfold live; omega)) (by rfl) i8 (by decide +kernel) dX8_findOrder_95 ?_
    refine z_aload_n C dX8_findOrder_98 rfl (q := 1) rfl ?_
    refine z_iconst C dX8_findOrder_99 (v := 0) (by decide) ?_
    refine zp_X8_lateMany C (k := 300) (hL _ (by unfold live; omega)) (by rfl) i8 (by decide +kernel) dX8_findOrder_100 ?_
    refine z_iconst C dX8_findOrder_103 (v := nI 0) (by decide) ?_
    refine z_istore_n C dX8_findOrder_104 rfl (by decide) (lv' := [(2, Value.int (nI 0)), (0, Value.ref (a 300)), (1, Value.int (nI w))]) rfl ?_
    refine z_iconst C dX8_findOrder_105 (v := nI 0) (by decide) ?_
    refine z_istore_n C dX8_findOrder_106 rfl (by decide) (lv' := [(3, Value.int (nI 0)), (2, Value.int (nI 0)), (0, Value.ref (a 300)), (1, Value.int (nI w))]) rfl ?_
    refine z_lveq (lv' := [(3, Value.int (nI 0)), (2, Value.int (nI (sumF (tmF d x w 0) (nn d (20 + w) 1)))), (0, Value.ref (a 300)), (1, Value.int (nI w))]) (by rw [tm_0]) ?_
    refine z_forI (fun j c1 => FrO c c1 ∧ ORDF d x w (nn d (20 + w) 1) (c1 315) ∧ c1 300 15 = nI (maxF (laF d x w j) (nn d (20 + w) 1)) ∧ c1 300 16 = nI (sumF (spF d x w j) (nn d (20 + w) 1))) 0 ((nn d (20 + w) 1)) (Nat.zero_le _) (fun j => [(3, Value.int (nI j)), (2, Value.int (nI (sumF (tmF d x w j) (nn d (20 + w) 1)))), (0, Value.ref (a 300)), (1, Value.int (nI w))]) ?_ ?_ (⟨FrO_put (FrO_put hvk.1 (Or.inl rfl) _) (Or.inr rfl) _, by rw [up2_row _ _ _ (by decide), up2_row _ _ _ (by decide)]; exact hvk.2, by rw [up2_i _ _ _ _ (by decide), up2_self, la_0]; rfl, by rw [up2_self, sp_0]; rfl⟩)
    · intro c1 hvj
      have hK1 := LK_s (FrO_lks hvj.1) hK
      refine z_iload_n C dX8_findOrder_107 rfl (q := 0) rfl ?_
      refine z_aload_n C dX8_findOrder_108 rfl (q := 2) rfl ?_
      refine zg_X8_spelled C (k := 300) (hL _ (by unfold live; omega)) (by rfl) i8 (by decide +kernel) (k' := 307) (RM_spelled hM) dX8_findOrder_109 ?_
      refine z_iload_n C dX8_findOrder_112 rfl (q := 3) rfl ?_
      refine z_iaload C (k := 307) (hL _ (by unfold live; omega)) (by rfl) (j := w) rfl (by rw [show ln 307 = 8 from rfl]; omega) (by rw [show ln 307 = 8 from rfl]; decide) (v := nI (nn d (20 + w) 1)) (LK_sz hK1 hI hw) dX8_findOrder_113 ?_
      refine z_icmp_ge C dX8_findOrder_114 (tgt := 203) (by decide) (fun h114 => ?_) (fun h114 => absurd (Int32.le_refl _) h114)
      exact z_vret C rfl (Nat.le_refl _) (Nat.le_refl _) dX8_findOrder_203 ⟨_, rfl, hvj.1, hvj.2.1, by rw [hvj.2.2.1, la_n], by rw [hvj.2.2.2, sp_n]⟩
    · intro j c1 hlj hj hvj ihj
      have hK1 := LK_s (FrO_lks hvj.1) hK
      obtain ⟨q, hq, hoq, hrq⟩ := hvj.2.1 j hj
      have hxq := hX w hw q hq
      have hsq := (CI_so hI hxq).2
      have hen := endD_le hI hX hw hq
      have hte : sumF (tmF d x w (j + 1)) (nn d (20 + w) 1) = endC d x w q (nn d (20 + w) 1) := tm_end hq hrq
      have hla : lateN d x w q = sumF (tmF d x w (j + 1)) (nn d (20 + w) 1) - nn d (100 + x w q) 2 := by unfold lateN; rw [hte]
      have hml := la_le (k := j) hI hX hw
      have hsl := sp_le (d := d) (x := x) (w := w) (k := j)
      refine z_iload_n C dX8_findOrder_107 rfl (q := 0) rfl ?_
      refine z_aload_n C dX8_findOrder_108 rfl (q := 2) rfl ?_
      refine zg_X8_spelled C (k := 300) (hL _ (by unfold live; omega)) (by rfl) i8 (by decide +kernel) (k' := 307) (RM_spelled hM) dX8_findOrder_109 ?_
      refine z_iload_n C dX8_findOrder_112 rfl (q := 3) rfl ?_
      refine z_iaload C (k := 307) (hL _ (by unfold live; omega)) (by rfl) (j := w) rfl (by rw [show ln 307 = 8 from rfl]; omega) (by rw [show ln 307 = 8 from rfl]; decide) (v := nI (nn d (20 + w) 1)) (LK_sz hK1 hI hw) dX8_findOrder_113 ?_
      refine z_icmp_ge C dX8_findOrder_114 (tgt := 203) (by decide) (fun h114 => absurd h114 (nI_ge hj (by omega))) (fun h114 => ?_)
      refine z_aload_n C dX8_findOrder_117 rfl (q := 2) rfl ?_
      refine zg_X8_words C (k := 300) (hL _ (by unfold live; omega)) (by rfl) i8 (by decide +kernel) (k' := 308) (RM_words hM) dX8_findOrder_118 ?_
      refine z_bipush C dX8_findOrder_121 (v := 10) (by decide) ?_
      refine z_iload_n C dX8_findOrder_123 rfl (q := 3) rfl ?_
      refine z_imul C dX8_findOrder_124 (v := nI (10 * w)) (pk_mul 10 w) ?_
      refine z_aload_n C dX8_findOrder_125 rfl (q := 2) rfl ?_
      refine zg_X8_order C (k := 300) (hL _ (by unfold live; omega)) (by rfl) i8 (by decide +kernel) (k' := 315) (RM_order hM) dX8_findOrder_126 ?_
      refine z_iload_n C dX8_findOrder_129 rfl (q := 0) rfl ?_
      refine z_iaload C (k := 315) (hL _ (by unfold live; omega)) (by rfl) (j := j) rfl (by rw [show ln 315 = 10 from rfl]; omega) (by rw [show ln 315 = 10 from rfl]; decide) (v := nI q) hoq dX8_findOrder_130 ?_
      refine z_iadd C dX8_findOrder_131 (v := nI ((10 * w) + q)) (nI_add (10 * w) q) ?_
      refine z_iaload C (k := 308) (hL _ (by unfold live; omega)) (by rfl) (j := ((10 * w) + q)) rfl (by rw [show ln 308 = 80 from rfl]; omega) (by rw [show ln 308 = 80 from rfl]; decide) (v := nI (x w q)) (LK_x hK1 hw hq) dX8_findOrder_132 ?_
      refine z_istore C dX8_findOrder_133 (by decide) (lv' := [(4, Value.int (nI (x w q))), (3, Value.int (nI j)), (2, Value.int (nI (sumF (tmF d x w j) (nn d (20 + w) 1)))), (0, Value.ref (a 300)), (1, Value.int (nI w))]) rfl ?_
      refine z_iload_n C dX8_findOrder_135 rfl (q := 2) rfl ?_
      refine z_aload_n C dX8_findOrder_136 rfl (q := 3) rfl ?_
      refine zg_X8_minutes C (k := 300) (hL _ (by unfold live; omega)) (by rfl) i8 (by decide +kernel) (k' := 304) (RM_minutes hM) dX8_findOrder_137 ?_
      refine z_iload C dX8_findOrder_140 (q := 0) rfl ?_
      refine z_iaload C (k := 304) (hL _ (by unfold live; omega)) (by rfl) (j := (x w q)) rfl (by rw [show ln 304 = 16 from rfl]; omega) (by rw [show ln 304 = 16 from rfl]; decide) (v := nI (nn d (100 + x w q) 1)) (LK_mi hK1 hI hxq) dX8_findOrder_142 ?_
      refine z_iadd C dX8_findOrder_143 (v := nI (sumF (tmF d x w (j + 1)) (nn d (20 + w) 1))) (by rw [nI_add, tm_step hq hrq]) ?_
      refine z_istore_n C dX8_findOrder_144 rfl (by decide) (lv' := [(2, Value.int (nI (sumF (tmF d x w (j + 1)) (nn d (20 + w) 1)))), (4, Value.int (nI (x w q))), (3, Value.int (nI j)), (0, Value.ref (a 300)), (1, Value.int (nI w))]) rfl ?_
      refine z_iload_n C dX8_findOrder_145 rfl (q := 0) rfl ?_
      refine z_aload_n C dX8_findOrder_146 rfl (q := 3) rfl ?_
      refine zg_X8_soft C (k := 300) (hL _ (by unfold live; omega)) (by rfl) i8 (by decide +kernel) (k' := 305) (RM_soft hM) dX8_findOrder_147 ?_
      refine z_iload C dX8_findOrder_150 (q := 1) rfl ?_
      refine z_iaload C (k := 305) (hL _ (by unfold live; omega)) (by rfl) (j := (x w q)) rfl (by rw [show ln 305 = 16 from rfl]; omega) (by rw [show ln 305 = 16 from rfl]; decide) (v := nI (nn d (100 + x w q) 2)) (LK_so hK1 hI hxq) dX8_findOrder_152 ?_
      refine z_isub C dX8_findOrder_153 (v := (nI (sumF (tmF d x w (j + 1)) (nn d (20 + w) 1))) - (nI (nn d (100 + x w q) 2))) rfl ?_
      refine z_istore C dX8_findOrder_154 (by decide) (lv' := [(5, Value.int ((nI (sumF (tmF d x w (j + 1)) (nn d (20 + w) 1))) - (nI (nn d (100 + x w q) 2)))), (2, Value.int (nI (sumF (tmF d x w (j + 1)) (nn d (20 + w) 1)))), (4, Value.int (nI (x w q))), (3, Value.int (nI j)), (0, Value.ref (a 300)), (1, Value.int (nI w))]) rfl ?_
      refine z_aload_n C dX8_findOrder_156 rfl (q := 4) rfl ?_
      refine z_iload C dX8_findOrder_157 (q := 0) rfl ?_
      refine z_aload_n C dX8_findOrder_159 rfl (q := 4) rfl ?_
      refine zg_X8_worst C (k := 300) (hL _ (by unfold live; omega)) (by rfl) i8 (by decide +kernel) (v := nI (maxF (laF d x w j) (nn d (20 + w) 1))) hvj.2.2.1 dX8_findOrder_160 ?_
      refine z_icmp_le C dX8_findOrder_163 (tgt := 171) (by decide) (fun h163 => ?_) (fun h163 => ?_)
      · have q163 := iv_le (tI_sub (by omega) (by omega)) (nI_toInt (by omega)) h163
        refine z_aload_n C dX8_findOrder_171 rfl (q := 4) rfl ?_
        refine zg_X8_worst C (k := 300) (hL _ (by unfold live; omega)) (by rfl) i8 (by decide +kernel) (v := nI (maxF (laF d x w j) (nn d (20 + w) 1))) hvj.2.2.1 dX8_findOrder_172 ?_
        refine zp_X8_worst C (k := 300) (hL _ (by unfold live; omega)) (by rfl) i8 (by decide +kernel) dX8_findOrder_175 ?_
        refine z_aload_n C dX8_findOrder_178 rfl (q := 4) rfl ?_
        refine z_dup C dX8_findOrder_179 rfl ?_
        refine zg_X8_lateMany C (k := 300) (hL _ (by unfold live; omega)) (by rfl) i8 (by decide +kernel) (v := nI (sumF (spF d x w j) (nn d (20 + w) 1))) (by rw [up2_i _ _ _ _ (by decide)]; exact hvj.2.2.2) dX8_findOrder_180 ?_
        refine z_iload C dX8_findOrder_183 (q := 0) rfl ?_
        refine z_if_le C dX8_findOrder_185 (tgt := 192) (by decide) (fun h185 => ?_) (fun h185 => ?_)
        · have q185 := iv_le (tI_sub (by omega) (by omega)) (show (0 : Int32).toInt = 0 from by decide) h185
          refine z_iconst C dX8_findOrder_192 (v := nI 0) (by decide) ?_
          refine z_iadd C dX8_findOrder_193 (v := nI ((sumF (spF d x w j) (nn d (20 + w) 1)) + 0)) (nI_add (sumF (spF d x w j) (nn d (20 + w) 1)) 0) ?_
          refine zp_X8_lateMany C (k := 300) (hL _ (by unfold live; omega)) (by rfl) i8 (by decide +kernel) dX8_findOrder_194 ?_
          refine z_iinc C dX8_findOrder_197 (q := 3) rfl (v := nI (j + 1)) (nI_1 _) (by decide) (lv' := [(3, Value.int (nI (j + 1))), (5, Value.int ((nI (sumF (tmF d x w (j + 1)) (nn d (20 + w) 1))) - (nI (nn d (100 + x w q) 2)))), (2, Value.int (nI (sumF (tmF d x w (j + 1)) (nn d (20 + w) 1)))), (4, Value.int (nI (x w q))), (0, Value.ref (a 300)), (1, Value.int (nI w))]) rfl ?_
          refine z_goto C dX8_findOrder_200 (tgt := 107) (by decide) ?_
          refine z_sub [0, 2, 4, 5] (lv' := [(3, Value.int (nI (j + 1))), (2, Value.int (nI (sumF (tmF d x w (j + 1)) (nn d (20 + w) 1)))), (0, Value.ref (a 300)), (1, Value.int (nI w))]) rfl ?_
          exact ihj _ ⟨FrO_put (FrO_put hvj.1 (Or.inl rfl) _) (Or.inr rfl) _, by rw [up2_row _ _ _ (by decide), up2_row _ _ _ (by decide)]; exact hvj.2.1, by rw [up2_i _ _ _ _ (by decide), up2_self, la_step hq hrq, hla, Nat.max_eq_left (by omega)], by rw [up2_self, sp_step hq hrq, one_neg (by omega)]⟩
        · have q185 := iv_nle (tI_sub (by omega) (by omega)) (show (0 : Int32).toInt = 0 from by decide) h185
          refine z_iconst C dX8_findOrder_188 (v := nI 1) (by decide) ?_
          refine z_goto C dX8_findOrder_189 (tgt := 193) (by decide) ?_
          refine z_iadd C dX8_findOrder_193 (v := nI ((sumF (spF d x w j) (nn d (20 + w) 1)) + 1)) (nI_add (sumF (spF d x w j) (nn d (20 + w) 1)) 1) ?_
          refine zp_X8_lateMany C (k := 300) (hL _ (by unfold live; omega)) (by rfl) i8 (by decide +kernel) dX8_findOrder_194 ?_
          refine z_iinc C dX8_findOrder_197 (q := 3) rfl (v := nI (j + 1)) (nI_1 _) (by decide) (lv' := [(3, Value.int (nI (j + 1))), (5, Value.int ((nI (sumF (tmF d x w (j + 1)) (nn d (20 + w) 1))) - (nI (nn d (100 + x w q) 2)))), (2, Value.int (nI (sumF (tmF d x w (j + 1)) (nn d (20 + w) 1)))), (4, Value.int (nI (x w q))), (0, Value.ref (a 300)), (1, Value.int (nI w))]) rfl ?_
          refine z_goto C dX8_findOrder_200 (tgt := 107) (by decide) ?_
          refine z_sub [0, 2, 4, 5] (lv' := [(3, Value.int (nI (j + 1))), (2, Value.int (nI (sumF (tmF d x w (j + 1)) (nn d (20 + w) 1)))), (0, Value.ref (a 300)), (1, Value.int (nI w))]) rfl ?_
          exact ihj _ ⟨FrO_put (FrO_put hvj.1 (Or.inl rfl) _) (Or.inr rfl) _, by rw [up2_row _ _ _ (by decide), up2_row _ _ _ (by decide)]; exact hvj.2.1, by rw [up2_i _ _ _ _ (by decide), up2_self, la_step hq hrq, hla, Nat.max_eq_left (by omega)], by rw [up2_self, sp_step hq hrq, one_pos (by omega)]⟩
      · have q163 := iv_nle (tI_sub (by omega) (by omega)) (nI_toInt (by omega)) h163
        refine z_iload C dX8_findOrder_166 (q := 0) rfl ?_
        refine z_goto C dX8_findOrder_168 (tgt := 175) (by decide) ?_
        refine zp_X8_worst C (k := 300) (hL _ (by unfold live; omega)) (by rfl) i8 (by decide +kernel) dX8_findOrder_175 ?_
        refine z_aload_n C dX8_findOrder_178 rfl (q := 4) rfl ?_
        refine z_dup C dX8_findOrder_179 rfl ?_
        refine zg_X8_lateMany C (k := 300) (hL _ (by unfold live; omega)) (by rfl) i8 (by decide +kernel) (v := nI (sumF (spF d x w j) (nn d (20 + w) 1))) (by rw [up2_i _ _ _ _ (by decide)]; exact hvj.2.2.2) dX8_findOrder_180 ?_
        refine z_iload C dX8_findOrder_183 (q := 0) rfl ?_
        refine z_if_le C dX8_findOrder_185 (tgt := 192) (by decide) (fun h185 => ?_) (fun h185 => ?_)
        · have q185 := iv_le (tI_sub (by omega) (by omega)) (show (0 : Int32).toInt = 0 from by decide) h185
          refine z_iconst C dX8_findOrder_192 (v := nI 0) (by decide) ?_
          refine z_iadd C dX8_findOrder_193 (v := nI ((sumF (spF d x w j) (nn d (20 + w) 1)) + 0)) (nI_add (sumF (spF d x w j) (nn d (20 + w) 1)) 0) ?_
          refine zp_X8_lateMany C (k := 300) (hL _ (by unfold live; omega)) (by rfl) i8 (by decide +kernel) dX8_findOrder_194 ?_
          refine z_iinc C dX8_findOrder_197 (q := 3) rfl (v := nI (j + 1)) (nI_1 _) (by decide) (lv' := [(3, Value.int (nI (j + 1))), (5, Value.int ((nI (sumF (tmF d x w (j + 1)) (nn d (20 + w) 1))) - (nI (nn d (100 + x w q) 2)))), (2, Value.int (nI (sumF (tmF d x w (j + 1)) (nn d (20 + w) 1)))), (4, Value.int (nI (x w q))), (0, Value.ref (a 300)), (1, Value.int (nI w))]) rfl ?_
          refine z_goto C dX8_findOrder_200 (tgt := 107) (by decide) ?_
          refine z_sub [0, 2, 4, 5] (lv' := [(3, Value.int (nI (j + 1))), (2, Value.int (nI (sumF (tmF d x w (j + 1)) (nn d (20 + w) 1)))), (0, Value.ref (a 300)), (1, Value.int (nI w))]) rfl ?_
          exact ihj _ ⟨FrO_put (FrO_put hvj.1 (Or.inl rfl) _) (Or.inr rfl) _, by rw [up2_row _ _ _ (by decide), up2_row _ _ _ (by decide)]; exact hvj.2.1, by rw [up2_i _ _ _ _ (by decide), up2_self, la_step hq hrq, hla, pk_sub (by omega)]; congr 1; omega, by rw [up2_self, sp_step hq hrq, one_neg (by omega)]⟩
        · have q185 := iv_nle (tI_sub (by omega) (by omega)) (show (0 : Int32).toInt = 0 from by decide) h185
          refine z_iconst C dX8_findOrder_188 (v := nI 1) (by decide) ?_
          refine z_goto C dX8_findOrder_189 (tgt := 193) (by decide) ?_
          refine z_iadd C dX8_findOrder_193 (v := nI ((sumF (spF d x w j) (nn d (20 + w) 1)) + 1)) (nI_add (sumF (spF d x w j) (nn d (20 + w) 1)) 1) ?_
          refine zp_X8_lateMany C (k := 300) (hL _ (by unfold live; omega)) (by rfl) i8 (by decide +kernel) dX8_findOrder_194 ?_
          refine z_iinc C dX8_findOrder_197 (q := 3) rfl (v := nI (j + 1)) (nI_1 _) (by decide) (lv' := [(3, Value.int (nI (j + 1))), (5, Value.int ((nI (sumF (tmF d x w (j + 1)) (nn d (20 + w) 1))) - (nI (nn d (100 + x w q) 2)))), (2, Value.int (nI (sumF (tmF d x w (j + 1)) (nn d (20 + w) 1)))), (4, Value.int (nI (x w q))), (0, Value.ref (a 300)), (1, Value.int (nI w))]) rfl ?_
          refine z_goto C dX8_findOrder_200 (tgt := 107) (by decide) ?_
          refine z_sub [0, 2, 4, 5] (lv' := [(3, Value.int (nI (j + 1))), (2, Value.int (nI (sumF (tmF d x w (j + 1)) (nn d (20 + w) 1)))), (0, Value.ref (a 300)), (1, Value.int (nI w))]) rfl ?_
          exact ihj _ ⟨FrO_put (FrO_put hvj.1 (Or.inl rfl) _) (Or.inr rfl) _, by rw [up2_row _ _ _ (by decide), up2_row _ _ _ (by decide)]; exact hvj.2.1, by rw [up2_i _ _ _ _ (by decide), up2_self, la_step hq hrq, hla, pk_sub (by omega)]; congr 1; omega, by rw [up2_self, sp_step hq hrq, one_pos (by omega)]⟩
  · intro k c1 hlk hk hvk ihk
    have hK1 := LK_s (FrO_lks hvk.1) hK
    have hxk := hX w hw k hk
    have hsk := (CI_so hI hxk).2
    have hR := rankC_le d x w k k
    refine z_iload_n C dX8_findOrder_2 rfl (q := 0) rfl ?_
    refine z_aload_n C dX8_findOrder_3 rfl (q := 1) rfl ?_
    refine zg_X8_spelled C (k := 300) (hL _ (by unfold live; omega)) (by rfl) i8 (by decide +kernel) (k' := 307) (RM_spelled hM) dX8_findOrder_4 ?_
    refine z_iload_n C dX8_findOrder_7 rfl (q := 2) rfl ?_
    refine z_iaload C (k := 307) (hL _ (by unfold live; omega)) (by rfl) (j := w) rfl (by rw [show ln 307 = 8 from rfl]; omega) (by rw [show ln 307 = 8 from rfl]; decide) (v := nI (nn d (20 + w) 1)) (LK_sz hK1 hI hw) dX8_findOrder_8 ?_
    refine z_icmp_ge C dX8_findOrder_9 (tgt := 93) (by decide) (fun h9 => absurd h9 (nI_ge hk (by omega))) (fun h9 => ?_)
    refine z_iload_n C dX8_findOrder_12 rfl (q := 0) rfl ?_
    refine z_istore_n C dX8_findOrder_13 rfl (by decide) (lv' := [(3, Value.int (nI k)), (2, Value.int (nI k)), (0, Value.ref (a 300)), (1, Value.int (nI w))]) rfl ?_
    refine z_lveq (lv' := [(3, Value.int (nI (k - 0))), (2, Value.int (nI k)), (0, Value.ref (a 300)), (1, Value.int (nI w))]) rfl ?_
    refine z_ceq (sh_0 c1 k) ?_
    refine z_for 0 ((k - rankC d x w k k)) (Nat.zero_le _) (fun u => [(3, Value.int (nI (k - u))), (2, Value.int (nI k)), (0, Value.ref (a 300)), (1, Value.int (nI w))]) (fun u => up1 c1 315 (fun p => if k - u < p ∧ p ≤ k then c1 315 (p - 1) else c1 315 p)) (fun u => g) ?_ ?_
    · refine z_iload_n C dX8_findOrder_14 rfl (q := 0) rfl ?_
      refine z_if_le C dX8_findOrder_15 (tgt := 80) (by decide) (fun h15 => ?_) (fun h15 => ?_)
      · have q15 := iv_le (nI_toInt (by omega)) (show (0 : Int32).toInt = 0 from by decide) h15
        refine z_aload_n C dX8_findOrder_80 rfl (q := 2) rfl ?_
        refine zg_X8_order C (k := 300) (hL _ (by unfold live; omega)) (by rfl) i8 (by decide +kernel) (k' := 315) (RM_order hM) dX8_findOrder_81 ?_
        refine z_iload_n C dX8_findOrder_84 rfl (q := 0) rfl ?_
        refine z_iload_n C dX8_findOrder_85 rfl (q := 1) rfl ?_
        refine z_iastore C (k := 315) (hL _ (by unfold live; omega)) (by rfl) (j := (k - (k - rankC d x w k k))) rfl (by rw [show ln 315 = 10 from rfl]; omega) (by rw [show ln 315 = 10 from rfl]; decide) dX8_findOrder_86 ?_
        refine z_iinc C dX8_findOrder_87 (q := 1) rfl (v := nI (k + 1)) (nI_1 _) (by decide) (lv' := [(2, Value.int (nI (k + 1))), (3, Value.int (nI (k - (k - rankC d x w k k)))), (0, Value.ref (a 300)), (1, Value.int (nI w))]) rfl ?_
        refine z_goto C dX8_findOrder_90 (tgt := 2) (by decide) ?_
        refine z_sub [0, 2, 3] (lv' := [(2, Value.int (nI (k + 1))), (0, Value.ref (a 300)), (1, Value.int (nI w))]) rfl ?_
        exact ihk _ ⟨FrO_el (FrO_row hvk.1 _) _ _, sh_fin hvk.2⟩
      · have q15 := iv_nle (nI_toInt (by omega)) (show (0 : Int32).toInt = 0 from by decide) h15
        obtain ⟨q, hq, hoq, hrq⟩ := hvk.2 (k - (k - rankC d x w k k) - 1) (by omega)
        have hxq := hX w hw q (by omega)
        have hsq := (CI_so hI hxq).2
        have hb : befC d x w q k := (rank_iff hq).mpr (by omega)
        have hso : nn d (100 + x w q) 2 ≤ nn d (100 + x w k) 2 := by unfold befC at hb; omega
        refine z_aload_n C dX8_findOrder_18 rfl (q := 2) rfl ?_
        refine zg_X8_soft C (k := 300) (hL _ (by unfold live; omega)) (by rfl) i8 (by decide +kernel) (k' := 305) (RM_soft hM) dX8_findOrder_19 ?_
        refine z_aload_n C dX8_findOrder_22 rfl (q := 2) rfl ?_
        refine zg_X8_words C (k := 300) (hL _ (by unfold live; omega)) (by rfl) i8 (by decide +kernel) (k' := 308) (RM_words hM) dX8_findOrder_23 ?_
        refine z_bipush C dX8_findOrder_26 (v := 10) (by decide) ?_
        refine z_iload_n C dX8_findOrder_28 rfl (q := 3) rfl ?_
        refine z_imul C dX8_findOrder_29 (v := nI (10 * w)) (pk_mul 10 w) ?_
        refine z_aload_n C dX8_findOrder_30 rfl (q := 2) rfl ?_
        refine zg_X8_order C (k := 300) (hL _ (by unfold live; omega)) (by rfl) i8 (by decide +kernel) (k' := 315) (RM_order hM) dX8_findOrder_31 ?_
        refine z_iload_n C dX8_findOrder_34 rfl (q := 0) rfl ?_
        refine z_iconst C dX8_findOrder_35 (v := 1) (by decide) ?_
        refine z_isub C dX8_findOrder_36 (v := nI (k - (k - rankC d x w k k) - 1)) (by rw [show (1 : Int32) = nI 1 from rfl, pk_sub (by omega)]) ?_
        refine z_iaload C (k := 315) (hL _ (by unfold live; omega)) (by rfl) (j := (k - (k - rankC d x w k k) - 1)) rfl (by rw [show ln 315 = 10 from rfl]; omega) (by rw [show ln 315 = 10 from rfl]; decide) (v := nI q) (by rw [up1_self, if_neg (by omega)]; exact hoq) dX8_findOrder_37 ?_
        refine z_iadd C dX8_findOrder_38 (v := nI ((10 * w) + q)) (nI_add (10 * w) q) ?_
        refine z_iaload C (k := 308) (hL _ (by unfold live; omega)) (by rfl) (j := ((10 * w) + q)) rfl (by rw [show ln 308 = 80 from rfl]; omega) (by rw [show ln 308 = 80 from rfl]; decide) (v := nI (x w q)) (LK_x (LK_s (lks_row (by unfold lkr; omega) (by decide) _) hK1) hw (by omega)) dX8_findOrder_39 ?_
        refine z_iaload C (k := 305) (hL _ (by unfold live; omega)) (by rfl) (j := (x w q)) rfl (by rw [show ln 305 = 16 from rfl]; omega) (by rw [show ln 305 = 16 from rfl]; decide) (v := nI (nn d (100 + x w q) 2)) (LK_so (LK_s (lks_row (by unfold lkr; omega) (by decide) _) hK1) hI hxq) dX8_findOrder_40 ?_
        refine z_aload_n C dX8_findOrder_41 rfl (q := 2) rfl ?_
        refine zg_X8_soft C (k := 300) (hL _ (by unfold live; omega)) (by rfl) i8 (by decide +kernel) (k' := 305) (RM_soft hM) dX8_findOrder_42 ?_
        refine z_aload_n C dX8_findOrder_45 rfl (q := 2) rfl ?_
        refine zg_X8_words C (k := 300) (hL _ (by unfold live; omega)) (by rfl) i8 (by decide +kernel) (k' := 308) (RM_words hM) dX8_findOrder_46 ?_
        refine z_bipush C dX8_findOrder_49 (v := 10) (by decide) ?_
        refine z_iload_n C dX8_findOrder_51 rfl (q := 3) rfl ?_
        refine z_imul C dX8_findOrder_52 (v := nI (10 * w)) (pk_mul 10 w) ?_
        refine z_iload_n C dX8_findOrder_53 rfl (q := 1) rfl ?_
        refine z_iadd C dX8_findOrder_54 (v := nI ((10 * w) + k)) (nI_add (10 * w) k) ?_
        refine z_iaload C (k := 308) (hL _ (by unfold live; omega)) (by rfl) (j := ((10 * w) + k)) rfl (by rw [show ln 308 = 80 from rfl]; omega) (by rw [show ln 308 = 80 from rfl]; decide) (v := nI (x w k)) (LK_x (LK_s (lks_row (by unfold lkr; omega) (by decide) _) hK1) hw (by omega)) dX8_findOrder_55 ?_
        refine z_iaload C (k := 305) (hL _ (by unfold live; omega)) (by rfl) (j := (x w k)) rfl (by rw [show ln 305 = 16 from rfl]; omega) (by rw [show ln 305 = 16 from rfl]; decide) (v := nI (nn d (100 + x w k) 2)) (LK_so (LK_s (lks_row (by unfold lkr; omega) (by decide) _) hK1) hI hxk) dX8_findOrder_56 ?_
        refine z_icmp_le C dX8_findOrder_57 (tgt := 80) (by decide) (fun h57 => ?_) (fun h57 => absurd (nI_le (by omega) (by omega)) h57)
        refine z_aload_n C dX8_findOrder_80 rfl (q := 2) rfl ?_
        refine zg_X8_order C (k := 300) (hL _ (by unfold live; omega)) (by rfl) i8 (by decide +kernel) (k' := 315) (RM_order hM) dX8_findOrder_81 ?_
        refine z_iload_n C dX8_findOrder_84 rfl (q := 0) rfl ?_
        refine z_iload_n C dX8_findOrder_85 rfl (q := 1) rfl ?_
        refine z_iastore C (k := 315) (hL _ (by unfold live; omega)) (by rfl) (j := (k - (k - rankC d x w k k))) rfl (by rw [show ln 315 = 10 from rfl]; omega) (by rw [show ln 315 = 10 from rfl]; decide) dX8_findOrder_86 ?_
        refine z_iinc C dX8_findOrder_87 (q := 1) rfl (v := nI (k + 1)) (nI_1 _) (by decide) (lv' := [(2, Value.int (nI (k + 1))), (3, Value.int (nI (k - (k - rankC d x w k k)))), (0, Value.ref (a 300)), (1, Value.int (nI w))]) rfl ?_
        refine z_goto C dX8_findOrder_90 (tgt := 2) (by decide) ?_
        refine z_sub [0, 2, 3] (lv' := [(2, Value.int (nI (k + 1))), (0, Value.ref (a 300)), (1, Value.int (nI w))]) rfl ?_
        exact ihk _ ⟨FrO_el (FrO_row hvk.1 _) _ _, sh_fin hvk.2⟩
    · intro u hlu hu ihu
      obtain ⟨q, hq, hoq, hrq⟩ := hvk.2 (k - u - 1) (by omega)
      have hxq := hX w hw q (by omega)
      have hsq := (CI_so hI hxq).2
      have hnb : ¬ befC d x w q k := fun hb => by have := rank_lt hq hb; omega
      have hso : nn d (100 + x w k) 2 < nn d (100 + x w q) 2 := by unfold befC at hnb; omega
      refine z_iload_n C dX8_findOrder_14 rfl (q := 0) rfl ?_
      refine z_if_le C dX8_findOrder_15 (tgt := 80) (by decide) (fun h15 => absurd h15 (fun z => by have := iv_le (nI_toInt (by omega)) (show (0 : Int32).toInt = 0 from by decide) z; omega)) (fun h15 => ?_)
      refine z_aload_n C dX8_findOrder_18 rfl (q := 2) rfl ?_
      refine zg_X8_soft C (k := 300) (hL _ (by unfold live; omega)) (by rfl) i8 (by decide +kernel) (k' := 305) (RM_soft hM) dX8_findOrder_19 ?_
      refine z_aload_n C dX8_findOrder_22 rfl (q := 2) rfl ?_
      refine zg_X8_words C (k := 300) (hL _ (by unfold live; omega)) (by rfl) i8 (by decide +kernel) (k' := 308) (RM_words hM) dX8_findOrder_23 ?_
      refine z_bipush C dX8_findOrder_26 (v := 10) (by decide) ?_
      refine z_iload_n C dX8_findOrder_28 rfl (q := 3) rfl ?_
      refine z_imul C dX8_findOrder_29 (v := nI (10 * w)) (pk_mul 10 w) ?_
      refine z_aload_n C dX8_findOrder_30 rfl (q := 2) rfl ?_
      refine zg_X8_order C (k := 300) (hL _ (by unfold live; omega)) (by rfl) i8 (by decide +kernel) (k' := 315) (RM_order hM) dX8_findOrder_31 ?_
      refine z_iload_n C dX8_findOrder_34 rfl (q := 0) rfl ?_
      refine z_iconst C dX8_findOrder_35 (v := 1) (by decide) ?_
      refine z_isub C dX8_findOrder_36 (v := nI (k - u - 1)) (by rw [show (1 : Int32) = nI 1 from rfl, pk_sub (by omega)]) ?_
      refine z_iaload C (k := 315) (hL _ (by unfold live; omega)) (by rfl) (j := (k - u - 1)) rfl (by rw [show ln 315 = 10 from rfl]; omega) (by rw [show ln 315 = 10 from rfl]; decide) (v := nI q) (by rw [up1_self, if_neg (by omega)]; exact hoq) dX8_findOrder_37 ?_
      refine z_iadd C dX8_findOrder_38 (v := nI ((10 * w) + q)) (nI_add (10 * w) q) ?_
      refine z_iaload C (k := 308) (hL _ (by unfold live; omega)) (by rfl) (j := ((10 * w) + q)) rfl (by rw [show ln 308 = 80 from rfl]; omega) (by rw [show ln 308 = 80 from rfl]; decide) (v := nI (x w q)) (LK_x (LK_s (lks_row (by unfold lkr; omega) (by decide) _) hK1) hw (by omega)) dX8_findOrder_39 ?_
      refine z_iaload C (k := 305) (hL _ (by unfold live; omega)) (by rfl) (j := (x w q)) rfl (by rw [show ln 305 = 16 from rfl]; omega) (by rw [show ln 305 = 16 from rfl]; decide) (v := nI (nn d (100 + x w q) 2)) (LK_so (LK_s (lks_row (by unfold lkr; omega) (by decide) _) hK1) hI hxq) dX8_findOrder_40 ?_
      refine z_aload_n C dX8_findOrder_41 rfl (q := 2) rfl ?_
      refine zg_X8_soft C (k := 300) (hL _ (by unfold live; omega)) (by rfl) i8 (by decide +kernel) (k' := 305) (RM_soft hM) dX8_findOrder_42 ?_
      refine z_aload_n C dX8_findOrder_45 rfl (q := 2) rfl ?_
      refine zg_X8_words C (k := 300) (hL _ (by unfold live; omega)) (by rfl) i8 (by decide +kernel) (k' := 308) (RM_words hM) dX8_findOrder_46 ?_
      refine z_bipush C dX8_findOrder_49 (v := 10) (by decide) ?_
      refine z_iload_n C dX8_findOrder_51 rfl (q := 3) rfl ?_
      refine z_imul C dX8_findOrder_52 (v := nI (10 * w)) (pk_mul 10 w) ?_
      refine z_iload_n C dX8_findOrder_53 rfl (q := 1) rfl ?_
      refine z_iadd C dX8_findOrder_54 (v := nI ((10 * w) + k)) (nI_add (10 * w) k) ?_
      refine z_iaload C (k := 308) (hL _ (by unfold live; omega)) (by rfl) (j := ((10 * w) + k)) rfl (by rw [show ln 308 = 80 from rfl]; omega) (by rw [show ln 308 = 80 from rfl]; decide) (v := nI (x w k)) (LK_x (LK_s (lks_row (by unfold lkr; omega) (by decide) _) hK1) hw (by omega)) dX8_findOrder_55 ?_
      refine z_iaload C (k := 305) (hL _ (by unfold live; omega)) (by rfl) (j := (x w k)) rfl (by rw [show ln 305 = 16 from rfl]; omega) (by rw [show ln 305 = 16 from rfl]; decide) (v := nI (nn d (100 + x w k) 2)) (LK_so (LK_s (lks_row (by unfold lkr; omega) (by decide) _) hK1) hI hxk) dX8_findOrder_56 ?_
      refine z_icmp_le C dX8_findOrder_57 (tgt := 80) (by decide) (fun h57 => absurd h57 (fun z => by have := iv_le (nI_toInt (by omega)) (nI_toInt (by omega)) z; omega)) (fun h57 => ?_)
      refine z_aload_n C dX8_findOrder_60 rfl (q := 2) rfl ?_
      refine zg_X8_order C (k := 300) (hL _ (by unfold live; omega)) (by rfl) i8 (by decide +kernel) (k' := 315) (RM_order hM) dX8_findOrder_61 ?_
      refine z_iload_n C dX8_findOrder_64 rfl (q := 0) rfl ?_
      refine z_aload_n C dX8_findOrder_65 rfl (q := 2) rfl ?_
      refine zg_X8_order C (k := 300) (hL _ (by unfold live; omega)) (by rfl) i8 (by decide +kernel) (k' := 315) (RM_order hM) dX8_findOrder_66 ?_
      refine z_iload_n C dX8_findOrder_69 rfl (q := 0) rfl ?_
      refine z_iconst C dX8_findOrder_70 (v := 1) (by decide) ?_
      refine z_isub C dX8_findOrder_71 (v := nI (k - u - 1)) (by rw [show (1 : Int32) = nI 1 from rfl, pk_sub (by omega)]) ?_
      refine z_iaload C (k := 315) (hL _ (by unfold live; omega)) (by rfl) (j := (k - u - 1)) rfl (by rw [show ln 315 = 10 from rfl]; omega) (by rw [show ln 315 = 10 from rfl]; decide) (v := c1 315 (k - u - 1)) (by rw [up1_self, if_neg (by omega)]) dX8_findOrder_72 ?_
      refine z_iastore C (k := 315) (hL _ (by unfold live; omega)) (by rfl) (j := (k - u)) rfl (by rw [show ln 315 = 10 from rfl]; omega) (by rw [show ln 315 = 10 from rfl]; decide) dX8_findOrder_73 ?_
      refine z_iinc C dX8_findOrder_74 (q := 0) rfl (v := nI (k - (u + 1))) (by rw [show Int32.ofInt (-1) = - nI 1 from by decide, ← Int32.sub_eq_add_neg, pk_sub (by omega)]; rfl) (by decide) (lv' := [(3, Value.int (nI (k - (u + 1)))), (2, Value.int (nI k)), (0, Value.ref (a 300)), (1, Value.int (nI w))]) rfl ?_
      refine z_goto C dX8_findOrder_77 (tgt := 14) (by decide) ?_
      refine z_ceq (sh_step c1 (by omega)).symm ?_
      exact ihu

set_option maxHeartbeats 4000000 in
set_option maxRecDepth 100000 in
theorem c_X8_late (l : Launch) (D : va_G) (cy : Nat → ClassId) (a : Nat → Nat) (L : List Nat) (c : Nat → Nat → Int32) (g : Nat → Nat → Int64) (r : Nat → Nat → Option Nat) (nl nk : Nat) (hL : zLv L nl nk) (hM : RM r) (d : Nat → Nat → Int32) (hI : CI d nl nk) (x : Nat → Nat → Nat) (hX : XL d nl x) (hK : LK d c nl nk x) (word : Int32) : zCI l yX8_late wsX8_late { frames := 2, cells := 0, slots := 0, locals := 45 } D cy a L c g r [Value.ref (a 300), Value.int word] (fun v c' => (¬ (0 ≤ word.toInt ∧ word.toInt < 8) ∧ v = -2 ∧ c' = c) ∨ ((0 ≤ word.toInt ∧ word.toInt < 8) ∧ FrO c c' ∧ v = nI (maxF (lateN d x (tn word)) (nn d (20 + tn word) 1)))) := by
  refine z_enter cX8_late 2 (some .int) (by decide) (Nat.le_of_ble_eq_true rfl) ?_
  intro p e s m below meth co C hin
  have C : zC p s m _ meth co D cy _ cX8_late 2 (some .int) wsX8_late RX8 := C
  have i8 : ∀ w ∈ wsX80, w ∈ wsX8_late := by decide +kernel
  refine z_iload_n C dX8_late_0 rfl (q := 1) rfl ?_
  refine z_pI C (z_runS C (As := [Value.int word]) (rest := []) (c_X8_isWord l D cy a L c g r word) (va_cwS 1 C.2.2.2.2.2.1 gX8_late_X8_isWord rfl rfl rfl (by decide +kernel) ⟨Nat.le_of_ble_eq_true rfl, Nat.le_of_ble_eq_true rfl⟩) rfl rfl (Nat.le_of_ble_eq_true rfl) dX8_late_1 ⟨Nat.zero_le _, Nat.zero_le _⟩) (fun v1 e1 => ?_)
  rcases e1 with ⟨rfl, e1⟩ | ⟨rfl, e1⟩
  · obtain ⟨w, hw, rfl⟩ := arg_nI (b := 7) e1
    have tw := nI_toInt (n := w) (by omega)
    have uw := tn_nI (j := w) (by omega)
    refine z_if_ne C dX8_late_4 (tgt := 10) (by decide) (fun h4 => ?_) (fun h4 => absurd h4 (by decide))
    refine z_aload_n C dX8_late_10 rfl (q := 0) rfl ?_
    refine z_iload_n C dX8_late_11 rfl (q := 1) rfl ?_
    refine z_cV C (z_runV C (As := [Value.int (nI w)]) (rest := []) (c_X8_findOrder l D cy a L c g r nl nk hL hM d hI x hX hK w (by omega)) (cwV 1 C.2.2.2.2.2.1 gX8_late_X8_findOrder rfl rfl rfl (by decide +kernel) ⟨Nat.le_of_ble_eq_true rfl, Nat.le_of_ble_eq_true rfl⟩) (hL _ (by unfold live; omega)) (zF_k8 (by rfl)) rfl rfl rfl rfl (Nat.le_of_ble_eq_true rfl) dX8_late_12 ⟨Nat.zero_le _, Nat.zero_le _⟩) (fun c12 e12 => ?_)
    refine z_aload_n C dX8_late_15 rfl (q := 0) rfl ?_
    refine zg_X8_worst C (k := 300) (hL _ (by unfold live; omega)) (by rfl) i8 (by decide +kernel) (v := c12 300 15) rfl dX8_late_16 ?_
    exact z_iret C rfl (Nat.le_refl _) (Nat.le_refl _) dX8_late_19 ⟨_, rfl, Or.inr ⟨by omega, e12.1, by rw [uw]; exact e12.2.2.1⟩⟩
  · refine z_if_ne C dX8_late_4 (tgt := 10) (by decide) (fun h4 => absurd h4 (by decide)) (fun h4 => ?_)
    refine z_bipush C dX8_late_7 (v := -2) (by decide) ?_
    exact z_iret C rfl (Nat.le_refl _) (Nat.le_refl _) dX8_late_9 ⟨_, rfl, Or.inl ⟨by omega, rfl, rfl⟩⟩

set_option maxHeartbeats 4000000 in
set_option maxRecDepth 100000 in
theorem c_X8_spoiled (l : Launch) (D : va_G) (cy : Nat → ClassId) (a : Nat → Nat) (L : List Nat) (c : Nat → Nat → Int32) (g : Nat → Nat → Int64) (r : Nat → Nat → Option Nat) (nl nk : Nat) (hL : zLv L nl nk) (hM : RM r) (d : Nat → Nat → Int32) (hI : CI d nl nk) (x : Nat → Nat → Nat) (hX : XL d nl x) (hK : LK d c nl nk x) (word : Int32) : zCI l yX8_spoiled wsX8_spoiled { frames := 2, cells := 0, slots := 0, locals := 45 } D cy a L c g r [Value.ref (a 300), Value.int word] (fun v c' => (¬ (0 ≤ word.toInt ∧ word.toInt < 8) ∧ v = -2 ∧ c' = c) ∨ ((0 ≤ word.toInt ∧ word.toInt < 8) ∧ FrO c c' ∧ v = nI (spoilC d x (tn word)))) := by
  refine z_enter cX8_spoiled 2 (some .int) (by decide) (Nat.le_of_ble_eq_true rfl) ?_
  intro p e s m below meth co C hin
  have C : zC p s m _ meth co D cy _ cX8_spoiled 2 (some .int) wsX8_spoiled RX8 := C
  have i8 : ∀ w ∈ wsX80, w ∈ wsX8_spoiled := by decide +kernel
  refine z_iload_n C dX8_spoiled_0 rfl (q := 1) rfl ?_
  refine z_pI C (z_runS C (As := [Value.int word]) (rest := []) (c_X8_isWord l D cy a L c g r word) (va_cwS 1 C.2.2.2.2.2.1 gX8_spoiled_X8_isWord rfl rfl rfl (by decide +kernel) ⟨Nat.le_of_ble_eq_true rfl, Nat.le_of_ble_eq_true rfl⟩) rfl rfl (Nat.le_of_ble_eq_true rfl) dX8_spoiled_1 ⟨Nat.zero_le _, Nat.zero_le _⟩) (fun v1 e1 => ?_)
  rcases e1 with ⟨rfl, e1⟩ | ⟨rfl, e1⟩
  · obtain ⟨w, hw, rfl⟩ := arg_nI (b := 7) e1
    have tw := nI_toInt (n := w) (by omega)
    have uw := tn_nI (j := w) (by omega)
    refine z_if_ne C dX8_spoiled_4 (tgt := 10) (by decide) (fun h4 => ?_) (fun h4 => absurd h4 (by decide))
    refine z_aload_n C dX8_spoiled_10 rfl (q := 0) rfl ?_
    refine z_iload_n C dX8_spoiled_11 rfl (q := 1) rfl ?_
    refine z_cV C (z_runV C (As := [Value.int (nI w)]) (rest := []) (c_X8_findOrder l D cy a L c g r nl nk hL hM d hI x hX hK w (by omega)) (cwV 1 C.2.2.2.2.2.1 gX8_spoiled_X8_findOrder rfl rfl rfl (by decide +kernel) ⟨Nat.le_of_ble_eq_true rfl, Nat.le_of_ble_eq_true rfl⟩) (hL _ (by unfold live; omega)) (zF_k8 (by rfl)) rfl rfl rfl rfl (Nat.le_of_ble_eq_true rfl) dX8_spoiled_12 ⟨Nat.zero_le _, Nat.zero_le _⟩) (fun c12 e12 => ?_)
    refine z_aload_n C dX8_spoiled_15 rfl (q := 0) rfl ?_
    refine zg_X8_lateMany C (k := 300) (hL _ (by unfold live; omega)) (by rfl) i8 (by decide +kernel) (v := c12 300 16) rfl dX8_spoiled_16 ?_
    exact z_iret C rfl (Nat.le_refl _) (Nat.le_refl _) dX8_spoiled_19 ⟨_, rfl, Or.inr ⟨by omega, e12.1, by rw [uw]; exact e12.2.2.2⟩⟩
  · refine z_if_ne C dX8_spoiled_4 (tgt := 10) (by decide) (fun h4 => absurd h4 (by decide)) (fun h4 => ?_)
    refine z_bipush C dX8_spoiled_7 (v := -2) (by decide) ?_
    exact z_iret C rfl (Nat.le_refl _) (Nat.le_refl _) dX8_spoiled_9 ⟨_, rfl, Or.inl ⟨by omega, rfl, rfl⟩⟩

set_option maxHeartbeats 4000000 in
set_option maxRecDepth 100000 in
theorem c_X8_order (l : Launch) (D : va_G) (cy : Nat → ClassId) (a : Nat → Nat) (L : List Nat) (c : Nat → Nat → Int32) (g : Nat → Nat → Int64) (r : Nat → Nat → Option Nat) (nl nk : Nat) (hL : zLv L nl nk) (hM : RM r) (d : Nat → Nat → Int32) (hI : CI d nl nk) (x : Nat → Nat → Nat) (hX : XL d nl x) (hK : LK d c nl nk x) (word i : Int32) : zCI l yX8_order wsX8_order { frames := 2, cells := 0, slots := 0, locals := 45 } D cy a L c g r [Value.ref (a 300), Value.int word, Value.int i] (fun v c' => (¬ (0 ≤ word.toInt ∧ word.toInt < 8 ∧ 0 ≤ i.toInt ∧ i.toInt < (nn d (20 + tn word) 1 : Int)) ∧ v = -2 ∧ c' = c) ∨ ((0 ≤ word.toInt ∧ word.toInt < 8 ∧ 0 ≤ i.toInt ∧ i.toInt < (nn d (20 + tn word) 1 : Int)) ∧ FrO c c' ∧ ∃ q, q < nn d (20 + tn word) 1 ∧ v = nI q ∧ rankC d x (tn word) q (nn d (20 + tn word) 1) = tn i)) := by
  refine z_enter cX8_order 3 (some .int) (by decide) (Nat.le_of_ble_eq_true rfl) ?_
  intro p e s m below meth co C hin
  have C : zC p s m _ meth co D cy _ cX8_order 3 (some .int) wsX8_order RX8 := C
  have i8 : ∀ w ∈ wsX80, w ∈ wsX8_order := by decide +kernel
  refine z_iload_n C dX8_order_0 rfl (q := 1) rfl ?_
  refine z_pI C (z_runS C (As := [Value.int word]) (rest := []) (c_X8_isWord l D cy a L c g r word) (va_cwS 1 C.2.2.2.2.2.1 gX8_order_X8_isWord rfl rfl rfl (by decide +kernel) ⟨Nat.le_of_ble_eq_true rfl, Nat.le_of_ble_eq_true rfl⟩) rfl rfl (Nat.le_of_ble_eq_true rfl) dX8_order_1 ⟨Nat.zero_le _, Nat.zero_le _⟩) (fun v1 e1 => ?_)
  rcases e1 with ⟨rfl, e1⟩ | ⟨rfl, e1⟩
  · obtain ⟨w, hw, rfl⟩ := arg_nI (b := 7) e1
    have tw := nI_toInt (n := w) (by omega)
    have uw := tn_nI (j := w) (by omega)
    have hz := (CI_sz hI hw).2
    refine z_if_eq C dX8_order_4 (tgt := 25) (by decide) (fun h4 => absurd h4 (by decide)) (fun h4 => ?_)
    refine z_iload_n C dX8_order_7 rfl (q := 2) rfl ?_
    refine z_i2l C dX8_order_8 (v := i.toInt64) rfl ?_
    refine z_lconst C dX8_order_9 (v := 0) (by decide) ?_
    refine z_aload_n C dX8_order_10 rfl (q := 0) rfl ?_
    refine zg_X8_spelled C (k := 300) (hL _ (by unfold live; omega)) (by rfl) i8 (by decide +kernel) (k' := 307) (RM_spelled hM) dX8_order_11 ?_
    refine z_iload_n C dX8_order_14 rfl (q := 1) rfl ?_
    refine z_iaload C (k := 307) (hL _ (by unfold live; omega)) (by rfl) (j := w) rfl (by rw [show ln 307 = 8 from rfl]; omega) (by rw [show ln 307 = 8 from rfl]; decide) (v := nI (nn d (20 + w) 1)) (LK_sz hK hI hw) dX8_order_15 ?_
    refine z_iconst C dX8_order_16 (v := 1) (by decide) ?_
    refine z_isub C dX8_order_17 (v := (nI (nn d (20 + w) 1)) - 1) rfl ?_
    refine z_i2l C dX8_order_18 (v := ((nI (nn d (20 + w) 1)) - 1).toInt64) rfl ?_
    refine z_pI C (z_runS C (As := [Value.long (i.toInt64), Value.long 0, Value.long (((nI (nn d (20 + w) 1)) - 1).toInt64)]) (rest := []) (c_X8_in l D cy a L c g r i.toInt64 0 (((nI (nn d (20 + w) 1)) - 1).toInt64) (V := i.toInt) (LO := 0) (HI := ((nn d (20 + w) 1 : Nat) : Int) - 1) (tL rfl) (show (0 : Int64).toInt = 0 from by decide) (tL (tI_pred (by omega)))) (va_cwS 3 C.2.2.2.2.2.1 gX8_order_X8_in rfl rfl rfl (by decide +kernel) ⟨Nat.le_of_ble_eq_true rfl, Nat.le_of_ble_eq_true rfl⟩) rfl rfl (Nat.le_of_ble_eq_true rfl) dX8_order_19 ⟨Nat.zero_le _, Nat.zero_le _⟩) (fun v19 e19 => ?_)
    rcases e19 with ⟨rfl, e19⟩ | ⟨rfl, e19⟩
    · obtain ⟨ii, hii, rfl⟩ := arg_pr e19
      have tii := nI_toInt (n := ii) (by omega)
      have uii := tn_nI (j := ii) (by omega)
      refine z_if_ne C dX8_order_22 (tgt := 28) (by decide) (fun h22 => ?_) (fun h22 => absurd h22 (by decide))
      refine z_aload_n C dX8_order_28 rfl (q := 0) rfl ?_
      refine z_iload_n C dX8_order_29 rfl (q := 1) rfl ?_
      refine z_cV C (z_runV C (As := [Value.int (nI w)]) (rest := []) (c_X8_findOrder l D cy a L c g r nl nk hL hM d hI x hX hK w (by omega)) (cwV 1 C.2.2.2.2.2.1 gX8_order_X8_findOrder rfl rfl rfl (by decide +kernel) ⟨Nat.le_of_ble_eq_true rfl, Nat.le_of_ble_eq_true rfl⟩) (hL _ (by unfold live; omega)) (zF_k8 (by rfl)) rfl rfl rfl rfl (Nat.le_of_ble_eq_true rfl) dX8_order_30 ⟨Nat.zero_le _, Nat.zero_le _⟩) (fun c30 e30 => ?_)
      refine z_aload_n C dX8_order_33 rfl (q := 0) rfl ?_
      refine zg_X8_order C (k := 300) (hL _ (by unfold live; omega)) (by rfl) i8 (by decide +kernel) (k' := 315) (RM_order hM) dX8_order_34 ?_
      refine z_iload_n C dX8_order_37 rfl (q := 2) rfl ?_
      refine z_iaload C (k := 315) (hL _ (by unfold live; omega)) (by rfl) (j := ii) rfl (by rw [show ln 315 = 10 from rfl]; omega) (by rw [show ln 315 = 10 from rfl]; decide) (v := c30 315 ii) rfl dX8_order_38 ?_
      obtain ⟨q, hq, hoq, hrq⟩ := e30.2.1 ii (by omega)
      exact z_iret C rfl (Nat.le_refl _) (Nat.le_refl _) dX8_order_39 ⟨_, rfl, Or.inr ⟨by rw [uw]; omega, e30.1, q, by rw [uw]; exact hq, hoq, by rw [uw, uii]; exact hrq⟩⟩
    · refine z_if_ne C dX8_order_22 (tgt := 28) (by decide) (fun h22 => absurd h22 (by decide)) (fun h22 => ?_)
      refine z_bipush C dX8_order_25 (v := -2) (by decide) ?_
      exact z_iret C rfl (Nat.le_refl _) (Nat.le_refl _) dX8_order_27 ⟨_, rfl, Or.inl ⟨by rw [uw]; omega, rfl, rfl⟩⟩
  · refine z_if_eq C dX8_order_4 (tgt := 25) (by decide) (fun h4 => ?_) (fun h4 => absurd h4 (by decide))
    refine z_bipush C dX8_order_25 (v := -2) (by decide) ?_
    exact z_iret C rfl (Nat.le_refl _) (Nat.le_refl _) dX8_order_27 ⟨_, rfl, Or.inl ⟨by omega, rfl, rfl⟩⟩
