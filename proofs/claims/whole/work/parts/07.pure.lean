/-! ===== PURE: what the calls compute ===== -/
noncomputable def one (P : Prop) : Nat := @ite Nat P (Classical.propDecidable P) 1 0
theorem one_pos {P : Prop} (h : P) : one P = 1 := by unfold one; exact @if_pos _ (Classical.propDecidable P) h _ _ _
theorem one_neg {P : Prop} (h : ¬ P) : one P = 0 := by unfold one; exact @if_neg _ (Classical.propDecidable P) h _ _ _
theorem one_le (P : Prop) : one P ≤ 1 := by
  rcases Classical.em P with h | h
  · rw [one_pos h]; exact Nat.le_refl 1
  · rw [one_neg h]; exact Nat.zero_le 1
theorem one_congr {P Q : Prop} (h : P ↔ Q) : one P = one Q := by rw [propext h]
theorem nI_sub_add {t i S : Nat} (h : i ≤ t + S) : nI t - nI i + nI S = nI (t + S - i) := by
  rw [← pk_sub h, ← nI_add, Int32.sub_eq_add_neg, Int32.sub_eq_add_neg, Int32.add_assoc, Int32.add_comm (-nI i) (nI S), ← Int32.add_assoc]
theorem nI_min {x y : Nat} (hx : x < 2 ^ 31) (hy : y < 2 ^ 31) : (if nI y < nI x then nI y else nI x) = nI (min x y) := by
  by_cases h : y < x
  · rw [if_pos (nI_lt h hx), Nat.min_eq_right (by omega)]
  · rw [if_neg (nI_nlt (by omega) hy), Nat.min_eq_left (by omega)]
theorem nI_max {x y : Nat} (hx : x < 2 ^ 31) (hy : y < 2 ^ 31) : (if nI x < nI y then nI y else nI x) = nI (max x y) := by
  by_cases h : x < y
  · rw [if_pos (nI_lt h hy), Nat.max_eq_right (by omega)]
  · rw [if_neg (nI_nlt (by omega) hx), Nat.max_eq_left (by omega)]
theorem nI_maxs {x y z : Nat} (hx : x < 2 ^ 30) (hy : y < 2 ^ 30) (hz : z < 2 ^ 30) : (if nI x < nI y - nI z then nI y - nI z else nI x) = nI (max x (y - z)) := by
  by_cases h : z ≤ y
  · rw [pk_sub h]; exact nI_max (by omega) (by omega)
  · have h1 : ¬ nI x < nI y - nI z := by
      rw [tI_lt, tI_sub hy hz, nI_toInt (by omega)]; omega
    rw [if_neg h1, Nat.max_eq_left (by omega)]
/-- the slot that is seen -/
def slotV (S t lk i : Nat) : Nat := if lk % 2 = 1 then (if i ≤ t then t - i else t + S - i) else (if t + i < S then t + i else t + i - S)
theorem slotV_lt {S t lk i : Nat} (ht : t < S) (hi : i < S) : slotV S t lk i < S := by
  unfold slotV; split
  · split <;> omega
  · split <;> omega
def upC (s : Int32) : Nat → Int32
  | 0 => nI 0
  | b + 1 => (upC s b <<< (1 &&& 31)) ||| ((s >>> (nI b &&& 31)) &&& 1)
def flip5 (v : Nat) : Nat := (upC (nI v) 5).toNatClampNeg
theorem flip5_ok : ∀ v, v < 32 → upC (nI v) 5 = nI (flip5 v) ∧ flip5 v < 32 := by decide +kernel
theorem and2_ok : ∀ v, v < 4 → nI v &&& 2 = nI (2 * (v / 2)) := by decide +kernel
/-- what is seen at place i, the slots being as lay says -/
def seenV (S : Nat) (lay : Nat → Nat) (t lk i : Nat) : Nat := if lk / 2 = 0 then lay (slotV S t lk i) else flip5 (lay (slotV S t lk i))
/-- what lies in a slot behind the first letters of a word -/
def layV (wid : Nat → Nat) (G : Nat) (sp : Nat → Nat → Nat) : Nat → Nat → Nat
  | 0, _ => 0
  | i + 1, q => if sumF (fun j => wid j + G) i ≤ q ∧ q < sumF (fun j => wid j + G) i + wid i then sp i (q - sumF (fun j => wid j + G) i) else layV wid G sp i q
theorem layV_le {wid : Nat → Nat} {G : Nat} {sp : Nat → Nat → Nat} {b : Nat} : ∀ {n : Nat}, (∀ i, i < n → ∀ k, k < wid i → sp i k ≤ b) → ∀ q, layV wid G sp n q ≤ b
  | 0, _, q => by simp [layV]
  | n + 1, h, q => by
    rw [layV]; split
    · rename_i hq; exact h n (by omega) _ (by omega)
    · exact layV_le (fun i hi => h i (by omega)) q
theorem layV_congr {wid wid' : Nat → Nat} {G : Nat} {sp sp' : Nat → Nat → Nat} : ∀ {n : Nat}, (∀ i, i < n → wid i = wid' i ∧ ∀ k, k < wid i → sp i k = sp' i k) → ∀ q, layV wid G sp n q = layV wid' G sp' n q
  | 0, _, q => rfl
  | n + 1, h, q => by
    have e : sumF (fun j => wid j + G) n = sumF (fun j => wid' j + G) n := sumF_congr (fun i hi => by rw [(h i (by omega)).1])
    have hn := h n (by omega)
    rw [layV, layV, ← e, ← hn.1, layV_congr (fun i hi => h i (by omega)) q]
    split
    · rename_i hq; exact hn.2 _ (by omega)
    · rfl
/-- does an item of a sheet allow what is seen there -/
def okI (v : Int32) (n : Nat) : Prop := (0 ≤ v.toInt ∧ v.toInt ≤ 31) → v = nI n
theorem sumF_le1 {f : Nat → Nat} {n : Nat} (h : ∀ i, i < n → f i ≤ 1) : sumF f n ≤ n := by
  have := sumF_le h; omega
def maxF (f : Nat → Nat) : Nat → Nat
  | 0 => 0
  | n + 1 => max (maxF f n) (f n)
theorem maxF_le {f : Nat → Nat} {b : Nat} : ∀ {n : Nat}, (∀ i, i < n → f i ≤ b) → maxF f n ≤ b
  | 0, _ => Nat.zero_le _
  | n + 1, h => by
    have h1 := maxF_le (n := n) (fun i hi => h i (by omega))
    have h2 := h n (by omega)
    rw [maxF]; omega
/-- an int as a natural number -/
def tn (x : Int32) : Nat := x.toInt.toNat
theorem tn_nI {j : Nat} (h : j < 2 ^ 31) : tn (nI j) = j := by unfold tn; rw [nI_toInt h]; omega
theorem arg_nI {v : Int32} {b : Nat} (h : 0 ≤ v.toInt ∧ v.toInt ≤ (b : Int)) : ∃ j, j < b + 1 ∧ v = nI j := ⟨v.toInt.toNat, by omega, tI_of h.1⟩
theorem arg_lt {v : Int32} {b : Nat} (h : 0 ≤ v.toInt ∧ v.toInt < (b : Int)) : ∃ j, j < b ∧ v = nI j := ⟨v.toInt.toNat, by omega, tI_of h.1⟩
theorem arg_pr {v : Int32} {b : Nat} (h : 0 ≤ v.toInt ∧ v.toInt ≤ (b : Int) - 1) : ∃ j, j < b ∧ v = nI j := ⟨v.toInt.toNat, by omega, tI_of h.1⟩
theorem nn_up (c : Nat → Nat → Int32) (k i k' i' : Nat) (v : Int32) : nn (up2 c k i v) k' i' = if k' = k ∧ i' = i then v.toNatClampNeg else nn c k' i' := by
  unfold nn up2
  by_cases h : k' = k
  · subst h
    by_cases h2 : i' = i
    · simp [h2]
    · simp [h2]
  · simp [h]
noncomputable def pick {α : Type} (P : Prop) (x y : α) : α := @ite α P (Classical.propDecidable P) x y
theorem pick_pos {α : Type} {P : Prop} {x y : α} (h : P) : pick P x y = x := by unfold pick; exact @if_pos _ (Classical.propDecidable P) h _ _ _
theorem pick_neg {α : Type} {P : Prop} {x y : α} (h : ¬ P) : pick P x y = y := by unfold pick; exact @if_neg _ (Classical.propDecidable P) h _ _ _
theorem pick_congr {α : Type} {P Q : Prop} {x y : α} (h : P ↔ Q) : pick P x y = pick Q x y := by rw [propext h]
def lo2i : Option Nat → Int32
  | none => -1
  | some b => nI b
