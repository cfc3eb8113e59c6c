/-! ===== BASE: one world for class and reference: cells by CODE (a number of mine for each role), a : code -> address ===== -/
/-- the kind of the cell with code k: 0..8 the classes of vwCl, 9 int[], 10 boolean[], 11 Letter[], 12 Lump[], 13 Sheet[], 14 Word[] -/
def kd (k : Nat) : Nat :=
  if k < 20 then [7, 11, 14, 3, 9, 9, 2, 12, 10, 9, 5, 13].getD k 9
  else if k < 30 then 6 else if k < 40 then 11 else if k < 50 then 4 else if k < 100 then 9
  else if k < 120 then 0 else if k < 200 then 9 else if k < 300 then 1 else if k = 300 then 8 else if k = 322 then 10 else 9
/-- its length, if it is an array -/
def ln (k : Nat) : Nat :=
  if k < 20 then [0, 16, 8, 0, 60, 4, 0, 40, 52, 52, 0, 4].getD k 0
  else if k < 30 then 0 else if k < 40 then 10 else if k < 50 then 0 else if k < 100 then 60
  else if k < 120 then 0 else if k < 200 then 5 else if k < 300 then 0
  else [0, 4, 0, 16, 16, 16, 80, 8, 80, 0, 0, 60, 0, 0, 0, 10, 0, 0, 0, 240, 0, 0, 52, 52, 4, 4, 240, 60].getD (k - 300) 0
abbrev Wo : Type := (Nat → Nat) × List Nat × (Nat → Nat → Int32) × (Nat → Nat → Int64) × (Nat → Nat → Option Nat)
def zr (a : Nat → Nat) (r : Nat → Nat → Option Nat) (k j : Nat) : Value := va_rf ((r k j).map a)
/-- what the cell with code k holds -/
def zF (cy : Nat → ClassId) (a : Nat → Nat) (c : Nat → Nat → Int32) (g : Nat → Nat → Int64) (r : Nat → Nat → Option Nat) (k : Nat) : va_E :=
  match kd k with
  | 0 => .inr (0, [.int (c k 0), .int (c k 1), .int (c k 2), zr a r k 3])
  | 1 => .inr (1, [.int (c k 0), .int (c k 1), .int (c k 2), .int (c k 3), .int (c k 4), .int (c k 5)])
  | 2 => .inr (2, [zr a r k 0, .int (c k 1), .int (c k 2), .int (c k 3)])
  | 3 => .inr (3, [zr a r k 0, .int (c k 1), .int (c k 2)])
  | 4 => .inr (4, [zr a r k 0, .int (c k 1), .int (c k 2), .int (c k 3)])
  | 5 => .inr (5, [.long (g k 0), .long (g k 1), .long (g k 2), .int (c k 3)])
  | 6 => .inr (6, [zr a r k 0, .int (c k 1)])
  | 7 => .inr (7, [zr a r k 0, .int (c k 1), zr a r k 2, zr a r k 3, zr a r k 4, zr a r k 5, zr a r k 6, zr a r k 7, zr a r k 8, zr a r k 9, .int (c k 10)])
  | 8 => .inr (8, [zr a r k 0, .int (c k 1), zr a r k 2, zr a r k 3, zr a r k 4, zr a r k 5, zr a r k 6, zr a r k 7, .int (c k 8), .int (c k 9), zr a r k 10, .int (c k 11), .int (c k 12), .int (c k 13), zr a r k 14, .int (c k 15), .int (c k 16), .int (c k 17), zr a r k 18, .int (c k 19), .int (c k 20), zr a r k 21, zr a r k 22, zr a r k 23, zr a r k 24, zr a r k 25, zr a r k 26, .int (c k 27)])
  | 9 => .inl (cy 9, ln k, .inl (c k))
  | 10 => .inl (cy 10, ln k, .inl (c k))
  | n => .inl (cy n, ln k, .inr (.inr (.inr (.inr (fun i => (r k i).map a)))))
/-- the world's list of cells -/
def wd (cy : Nat → ClassId) (a : Nat → Nat) (L : List Nat) (c : Nat → Nat → Int32) (g : Nat → Nat → Int64) (r : Nat → Nat → Option Nat) : va_W := L.map (fun k => (a k, zF cy a c g r k))
abbrev zT (cy : Nat → ClassId) : List (ClassId × FieldType) := [(cy 9, .int), (cy 10, .boolean), (cy 11, .object RX0), (cy 12, .object RX1), (cy 13, .object RX4), (cy 14, .object RX6)]
/-- the nest's words: private constructors and 'within' -/
def zN0 (U : State) : Prop := va_Nw (.methodLinkNest RX7 25 yX6_init RX7) U ∧ va_Nw (.methodLinkNest RX7 28 yX3_init RX7) U ∧ va_Nw (.methodLinkNest RX7 39 yX2_init RX7) U ∧ va_Nw (.methodLinkNest RX7 53 yX5_init RX7) U ∧ va_Nw (.methodLinkNest RX7 64 yX4_init RX7) U ∧ va_Nw (.methodLinkNest RX0 25 yX7_within RX7) U ∧ va_Nw (.methodLinkNest RX3 69 yX7_within RX7) U ∧ va_Nw (.methodLinkNest RX2 35 yX7_within RX7) U ∧ va_Nw (.methodLinkNest RX1 30 yX7_within RX7) U ∧ va_Nw (.methodLinkNest RX4 32 yX7_within RX7) U
theorem zN0.same {u U : State} (h : u.vm = U.vm) (hz : zN0 u) : zN0 U := by
  obtain ⟨h0, h1, h2, h3, h4, h5, h6, h7, h8, h9⟩ := hz
  exact ⟨h0.same rfl h, h1.same rfl h, h2.same rfl h, h3.same rfl h, h4.same rfl h, h5.same rfl h, h6.same rfl h, h7.same rfl h, h8.same rfl h, h9.same rfl h⟩
theorem zN0.warm {s U : State} (hW : s.WarmedH U.vm) (hz : zN0 s) : zN0 U := by
  obtain ⟨h0, h1, h2, h3, h4, h5, h6, h7, h8, h9⟩ := hz
  exact ⟨h0.warmM hW, h1.warmM hW, h2.warmM hW, h3.warmM hW, h4.warmM hW, h5.warmM hW, h6.warmM hW, h7.warmM hW, h8.warmM hW, h9.warmM hW⟩
/-- arrays over the class's own classes may be made -/
def zO (U : State) : Prop := va_AO RX0 U ∧ va_AO RX1 U ∧ va_AO RX4 U ∧ va_AO RX6 U
theorem zO.moved {u U : State} (h : u.vm.Alike U.vm) (hz : zO u) : zO U := ⟨hz.1.moved h, hz.2.1.moved h, hz.2.2.1.moved h, hz.2.2.2.moved h⟩
def zN (U : State) : Prop := zN0 U ∧ zO U
theorem zN.same {u U : State} (h : u.vm = U.vm) (hz : zN u) : zN U := ⟨hz.1.same h, hz.2.moved (by rw [h]; exact Vm.Alike.refl _)⟩
theorem zN.warm {s U : State} (hW : s.WarmedH U.vm) (hz : zN s) : zN U := ⟨hz.1.warm hW, hz.2.moved hW.alike⟩
def zK (D : va_G) (cy : Nat → ClassId) (U : State) : Prop := va_K D vwCl (zT cy) U ∧ zN U
theorem zK.warm {D : va_G} {cy : Nat → ClassId} {s U : State} (hW : s.WarmedH U.vm) (h : zK D cy s) : zK D cy U := ⟨va_K.moved hW.alike h.1, h.2.warm hW⟩
def zW (D : va_G) (cy : Nat → ClassId) (a : Nat → Nat) (L : List Nat) (c : Nat → Nat → Int32) (g : Nat → Nat → Int64) (r : Nat → Nat → Option Nat) (A : Nat → Prop) (H : Heap) : Prop := va_P D vwCl (wd cy a L c g r) H ∧ va_D A (wd cy a L c g r)
def zA (a : Nat → Nat) (L : List Nat) (sz : Nat) : Nat → Prop := fun q => (∃ k, k ∈ L ∧ q = a k) ∨ sz ≤ q
theorem wd_at (cy : Nat → ClassId) (a : Nat → Nat) {L : List Nat} (c : Nat → Nat → Int32) (g : Nat → Nat → Int64) (r : Nat → Nat → Option Nat) {q k : Nat} (h : L[q]? = some k) : (wd cy a L c g r)[q]? = some (a k, zF cy a c g r k) := by
  unfold wd
  rw [List.getElem?_map, h]; rfl
theorem wd_inv {cy : Nat → ClassId} {a : Nat → Nat} {L : List Nat} {c : Nat → Nat → Int32} {g : Nat → Nat → Int64} {r : Nat → Nat → Option Nat} {q : Nat} {x : Nat × va_E} (h : (wd cy a L c g r)[q]? = some x) : ∃ k, L[q]? = some k ∧ x = (a k, zF cy a c g r k) := by
  unfold wd at h
  rw [List.getElem?_map] at h
  cases hq : L[q]? with
  | none => rw [hq] at h; cases h
  | some k => rw [hq] at h; exact ⟨k, rfl, (Option.some.inj h).symm⟩
theorem zW.A {D : va_G} {cy : Nat → ClassId} {a : Nat → Nat} {L : List Nat} {c : Nat → Nat → Int32} {g : Nat → Nat → Int64} {r : Nat → Nat → Option Nat} {A : Nat → Prop} {H : Heap} (h : zW D cy a L c g r A H) {k : Nat} (hk : k ∈ L) : A (a k) := by
  obtain ⟨q, hq⟩ := List.getElem?_of_mem hk
  exact h.2.2 q _ (wd_at cy a c g r hq)
theorem zW.inj {D : va_G} {cy : Nat → ClassId} {a : Nat → Nat} {L : List Nat} {c : Nat → Nat → Int32} {g : Nat → Nat → Int64} {r : Nat → Nat → Option Nat} {A : Nat → Prop} {H : Heap} (h : zW D cy a L c g r A H) {i j : Nat} (hi : i ∈ L) (hj : j ∈ L) (e : a i = a j) : i = j := by
  obtain ⟨q, hq⟩ := List.getElem?_of_mem hi
  obtain ⟨q', hq'⟩ := List.getElem?_of_mem hj
  have := h.2.1 q q' _ _ (wd_at cy a c g r hq) (wd_at cy a c g r hq') e
  subst this
  rw [hq] at hq'; exact Option.some.inj hq'
/-- a world after a change of one cell's contents -/
theorem wd_set {D : va_G} {cy : Nat → ClassId} {a : Nat → Nat} {L : List Nat} {c c' : Nat → Nat → Int32} {g g' : Nat → Nat → Int64} {r r' : Nat → Nat → Option Nat} {A : Nat → Prop} {H : Heap} (h : zW D cy a L c g r A H) {q k : Nat} (hq : L[q]? = some k) {e : va_E} (he : zF cy a c' g' r' k = e) (ho : ∀ j, j ≠ k → zF cy a c' g' r' j = zF cy a c g r j) : (wd cy a L c g r).set q (a k, e) = wd cy a L c' g' r' := by
  apply List.ext_getElem?
  intro i
  by_cases hi : q = i
  · subst hi
    rw [List.getElem?_set_self (List.getElem?_eq_some_iff.mp (wd_at cy a c g r hq)).1, wd_at cy a c' g' r' hq, he]
  · rw [List.getElem?_set_ne hi]
    unfold wd
    rw [List.getElem?_map, List.getElem?_map]
    cases hx : L[i]? with
    | none => rfl
    | some j =>
      have hne : j ≠ k := by
        intro e1; subst e1
        exact hi (h.2.1 q i _ _ (wd_at cy a c g r hq) (wd_at cy a c g r hx) rfl)
      simp only [Option.map_some, ho j hne]
def up2 {α : Type} (c : Nat → Nat → α) (k i : Nat) (v : α) : Nat → Nat → α := fun k' i' => if k' = k then (if i' = i then v else c k i') else c k' i'
def up1 {α : Type} (c : Nat → Nat → α) (k : Nat) (f : Nat → α) : Nat → Nat → α := fun k' => if k' = k then f else c k'
theorem up2_self {α : Type} (c : Nat → Nat → α) (k i : Nat) (v : α) : up2 c k i v k i = v := by simp [up2]
theorem up2_k {α : Type} (c : Nat → Nat → α) {k k' : Nat} (i i' : Nat) (v : α) (h : k' ≠ k) : up2 c k i v k' i' = c k' i' := by simp [up2, h]
theorem up2_i {α : Type} (c : Nat → Nat → α) (k k' : Nat) {i i' : Nat} (v : α) (h : i' ≠ i) : up2 c k i v k' i' = c k' i' := by
  unfold up2
  split
  · rename_i e; subst e; simp [h]
  · rfl
theorem up2_row {α : Type} (c : Nat → Nat → α) {k k' : Nat} (i : Nat) (v : α) (h : k' ≠ k) : up2 c k i v k' = c k' := by funext i'; simp [up2, h]
theorem up1_self {α : Type} (c : Nat → Nat → α) (k : Nat) (f : Nat → α) : up1 c k f k = f := by simp [up1]
theorem up1_k {α : Type} (c : Nat → Nat → α) {k k' : Nat} (f : Nat → α) (h : k' ≠ k) : up1 c k f k' = c k' := by simp [up1, h]
theorem up2_upd (c : Nat → Nat → Int32) (k i : Nat) (v : Int32) : up2 c k i v k = upd (c k) i v := by funext j; simp [up2, upd]
theorem up2_vup {α : Type} (c : Nat → Nat → α) (k i : Nat) (v : α) : up2 c k i v k = va_up (c k) i v := by funext j; simp [up2, va_up]
theorem zF_c (cy : Nat → ClassId) (a : Nat → Nat) {c c' : Nat → Nat → Int32} (g : Nat → Nat → Int64) (r : Nat → Nat → Option Nat) {k : Nat} (h : c' k = c k) : zF cy a c' g r k = zF cy a c g r k := by
  unfold zF; rw [h]
theorem zF_g (cy : Nat → ClassId) (a : Nat → Nat) (c : Nat → Nat → Int32) {g g' : Nat → Nat → Int64} (r : Nat → Nat → Option Nat) {k : Nat} (h : g' k = g k) : zF cy a c g' r k = zF cy a c g r k := by
  unfold zF; rw [h]
theorem zF_r (cy : Nat → ClassId) (a : Nat → Nat) (c : Nat → Nat → Int32) (g : Nat → Nat → Int64) {r r' : Nat → Nat → Option Nat} {k : Nat} (h : r' k = r k) : zF cy a c g r' k = zF cy a c g r k := by
  unfold zF zr; rw [h]
section ZZ
variable {p : Program} {l : Launch} {e : Env} {R : Room} {s : State} {m : MethodId} {args : Array Value} {below : List Frame} {meth : Method} {co : Code}
variable {D : va_G} {cy : Nat → ClassId} {A : Nat → Prop} {cc : ByteArray} {nL : Nat} {ret : Option FieldType} {Ts : List Cond} {own : String}
variable {a : Nat → Nat} {L : List Nat} {c : Nat → Nat → Int32} {g : Nat → Nat → Int64} {r : Nat → Nat → Option Nat} {Q : State → Prop} {cells slots pc : Nat} {lv : List (Nat × Value)} {st : List Value}
/-- what stays the same throughout a method -/
def zC (p : Program) (s : State) (m : MethodId) (args : Array Value) (meth : Method) (co : Code) (D : va_G) (cy : Nat → ClassId) (A : Nat → Prop) (cc : ByteArray) (nL : Nat) (ret : Option FieldType) (Ts : List Cond) (own : String) : Prop :=
  p.tables.exec = Jvm.exec ∧ co.code = cc ∧ meth.sig.returnType = ret ∧ co.maxLocals = nL ∧ s.vm.findClass own = some m.cls ∧ (∀ w ∈ Ts, w.before args s = true) ∧ zK D cy s ∧ (∀ q : Nat, s.heap.size ≤ q → A q) ∧ meth.locks = false
/-- the judgement: at pc, with the world, the locals lv and the stack st, the machine comes to a state with Q -/
def zG (p : Program) (l : Launch) (e : Env) (R : Room) (s : State) (m : MethodId) (args : Array Value) (below : List Frame) (meth : Method) (co : Code) (D : va_G) (cy : Nat → ClassId) (A : Nat → Prop) (nL : Nat) (Q : State → Prop) (cells slots : Nat) (a : Nat → Nat) (L : List Nat) (c : Nat → Nat → Int32) (g : Nat → Nat → Int64) (r : Nat → Nat → Option Nat) (lv : List (Nat × Value)) (pc : Nat) (st : List Value) : Prop :=
  ∀ (H : Heap) (locs : List Loc) (ls : Array Slot), zW D cy a L c g r A H → va_S A s.heap H locs → lv_has ls nL lv → W p l e R s m args below meth co H locs cells slots Q (F0 m pc ls st)
end ZZ
