section ZNEW
variable {p : Program} {l : Launch} {e : Env} {R : Room} {s : State} {m : MethodId} {args : Array Value} {below : List Frame} {meth : Method} {co : Code}
variable {D : va_G} {cy : Nat → ClassId} {A : Nat → Prop} {cc : ByteArray} {nL : Nat} {ret : Option FieldType} {Ts : List Cond} {own : String}
variable {a : Nat → Nat} {L : List Nat} {c : Nat → Nat → Int32} {g : Nat → Nat → Int64} {r : Nat → Nat → Option Nat} {Q : State → Prop} {cells slots pc : Nat} {lv : List (Nat × Value)} {st : List Value}
theorem zF_a {a' : Nat → Nat} {k : Nat} (h : ∀ i x, r k i = some x → a' x = a x) : zF cy a' c g r k = zF cy a c g r k := by
  have e : ∀ i, (r k i).map a' = (r k i).map a := by
    intro i
    cases hx : r k i with
    | none => rfl
    | some x => simp only [Option.map_some, h i x hx]
  unfold zF zr; simp only [e]
theorem z_objInit (C : zC p s m args meth co D cy A cc nL ret Ts own) {b index : Nat} (hl1 : Cond.methodLink own index Lib.objectInit ∈ Ts) (hl2 : Cond.instanceMethod Lib.objectInit ∈ Ts) (hl3 : Cond.code Lib.objectInit ⟨#[0xb1]⟩ 1 none ∈ Ts) (hfr : 1 ≤ R.frames) (hlo : (st.map fun v => v.category).sum + 12 ≤ R.locals) (hd : decode cc pc = .ok (.invokespecial index, 3)) (kk : zG p l e R s m args below meth co D cy A nL Q cells slots a L c g r lv (pc + 3) st) : zG p l e R s m args below meth co D cy A nL Q cells slots a L c g r lv pc (.ref b :: st) := fun H locs ls hW hS hl =>
  W.objInit C.1 C.2.1 C.2.2.2.2.1 (C.2.2.2.2.2.1 _ hl1) (C.2.2.2.2.2.1 _ hl2) (C.2.2.2.2.2.1 _ hl3) rfl (by rw [C.2.2.2.1]; exact hl.1) rfl hd hfr (show 2 * 0 + _ + 12 ≤ _ by omega) (W.eq (g2 := F0 m (pc + 3) ls st) rfl (kk H locs ls hW hS hl))
theorem z_widen {k n : Nat} (h1 : cells ≤ k) (h2 : slots ≤ n) (kk : zG p l e R s m args below meth co D cy A nL Q k n a L c g r lv pc st) : zG p l e R s m args below meth co D cy A nL Q cells slots a L c g r lv pc st := fun H locs ls hW hS hl => W.widen h1 h2 (kk H locs ls hW hS hl)
/-- a world with one cell more -/
theorem wd_push {k q : Nat} {E : va_E} (hk : k ∉ L) (hcl : ∀ j i, r j i ≠ some k) (hF : ∀ a', zF cy a' (up1 c k (fun _ => 0)) (up1 g k (fun _ => 0)) (up1 r k (fun _ => none)) k = E) : wd cy a L c g r ++ [(q, E)] = wd cy (va_up a k q) (L ++ [k]) (up1 c k (fun _ => 0)) (up1 g k (fun _ => 0)) (up1 r k (fun _ => none)) := by
  unfold wd
  rw [List.map_append]
  congr 1
  · apply List.map_congr_left
    intro j hj
    have hne : j ≠ k := fun e => hk (e ▸ hj)
    have e1 : va_up a k q j = a j := by simp [va_up, hne]
    rw [e1, zF_c cy _ _ _ (up1_k c _ hne), zF_g cy _ _ _ (up1_k g _ hne), zF_r cy _ _ _ (up1_k r _ hne)]
    rw [zF_a (a := a) (a' := va_up a k q) (fun i x hx => by
      have : x ≠ k := fun e => hcl j i (e ▸ hx)
      simp [va_up, this])]
  · simp only [List.map_cons, List.map_nil, hF]
    simp [va_up]
theorem z_new (C : zC p s m args meth co D cy A cc nL ret Ts own) {k ci index : Nat} {Cn : String} {T : u_T} {N : Nat} (hin : ∀ w ∈ u_ws Cn T N, w ∈ Ts) (ty : Nat → FieldType) (hty : ∀ k, k < N → parseFieldDescriptor (T k).2.2.1 = some (ty k)) (hl1 : Cond.classLink own index Cn ∈ Ts) (hl2 : Cond.instantiable Cn N ∈ Ts) (hl3 : Cond.initialized Cn ∈ Ts) (hc : vwCl[ci]? = some (Cn, T, N)) {fs : List Value} (hfs : ∀ j, j < N → defaultValue (ty j) = vp_V fs j) (hcells : cells + 1 ≤ R.cells) (hslots : slots + N ≤ R.slots) (hk : k ∉ L) (hcl : ∀ j i, r j i ≠ some k) (hF : ∀ a', zF cy a' (up1 c k (fun _ => 0)) (up1 g k (fun _ => 0)) (up1 r k (fun _ => none)) k = .inr (ci, fs)) (hd : decode cc pc = .ok (.new index, 3)) (kk : ∀ a' : Nat → Nat, (∀ j, j ≠ k → a' j = a j) → zG p l e R s m args below meth co D cy A nL Q (cells + 1) (slots + N) a' (L ++ [k]) (up1 c k (fun _ => 0)) (up1 g k (fun _ => 0)) (up1 r k (fun _ => none)) lv (pc + 3) (.ref (a' k) :: st)) : zG p l e R s m args below meth co D cy A nL Q cells slots a L c g r lv pc st := by
  intro H locs ls hW hS hl
  refine va_new C.1 C.2.1 C.2.2.2.2.2.1 hin ty hty C.2.2.2.2.1 (C.2.2.2.2.2.1 _ hl1) (C.2.2.2.2.2.1 _ hl2) (C.2.2.2.2.2.1 _ hl3) C.2.2.2.2.2.2.1.1 hW.1 hW.2 hS C.2.2.2.2.2.2.2.1 hc hfs hcells hslots hd (fun q H1 h1 h2 h3 => ?_)
  rw [wd_push hk hcl hF] at h1 h2
  have := kk (va_up a k q) (fun j hj => by simp [va_up, hj]) H1 locs ls ⟨h1, h2⟩ h3 hl
  rw [show va_up a k q k = q from by simp [va_up]] at this
  exact this
theorem z_newi (C : zC p s m args meth co D cy A cc nL ret Ts own) {k N : Nat} (h9 : kd k = 9) (hN : ln k = N) (hlt : N < 2 ^ 26) (harr : Cond.arrayClass .int ∈ Ts) (hcells : cells + 1 ≤ R.cells) (hslots : slots + N ≤ R.slots) (hk : k ∉ L) (hcl : ∀ j i, r j i ≠ some k) (hd : decode cc pc = .ok (.newarray .int, 2)) (kk : ∀ a' : Nat → Nat, (∀ j, j ≠ k → a' j = a j) → zG p l e R s m args below meth co D cy A nL Q (cells + 1) (slots + N) a' (L ++ [k]) (up1 c k (fun _ => 0)) (up1 g k (fun _ => 0)) (up1 r k (fun _ => none)) lv (pc + 2) (.ref (a' k) :: st)) : zG p l e R s m args below meth co D cy A nL Q cells slots a L c g r lv pc (.int (nI N) :: st) := by
  intro H locs ls hW hS hl
  refine va_newa (atype := .int) (a0 := (N, .inl (fun _ => 0))) C.1 C.2.1 (C.2.2.2.2.2.1 _ harr) (ty := .int) rfl C.2.2.2.2.2.2.1.1 hW.1 hW.2 hS C.2.2.2.2.2.2.2.1 (fun _ => rfl) (nI_pos (by omega)) (nI_clamp (by omega)) (by show N * 4 ≤ 536870912; omega) hcells hslots hd (fun q cA H1 hK h1 h2 h3 => ?_)
  have e1 : s.vm.findClass ("[" ++ (FieldType.int).toString) = some cA := (hK.2 6 (cA, .int) rfl).2
  have e2 : s.vm.findClass ("[" ++ (FieldType.int).toString) = some (cy 9) := (C.2.2.2.2.2.2.1.1.2 0 (cy 9, .int) rfl).2
  have e3 : cA = cy 9 := Option.some.inj (e1.symm.trans e2)
  subst e3
  rw [wd_push hk hcl (fun a' => by rw [zF_int h9, hN, up1_self])] at h1 h2
  have := kk (va_up a k q) (fun j hj => by simp [va_up, hj]) H1 locs ls ⟨h1, h2⟩ h3 hl
  rw [show va_up a k q k = q from by simp [va_up]] at this
  exact this
theorem z_newb (C : zC p s m args meth co D cy A cc nL ret Ts own) {k N : Nat} (h9 : kd k = 10) (hN : ln k = N) (hlt : N < 2 ^ 26) (harr : Cond.arrayClass .boolean ∈ Ts) (hcells : cells + 1 ≤ R.cells) (hslots : slots + N ≤ R.slots) (hk : k ∉ L) (hcl : ∀ j i, r j i ≠ some k) (hd : decode cc pc = .ok (.newarray .boolean, 2)) (kk : ∀ a' : Nat → Nat, (∀ j, j ≠ k → a' j = a j) → zG p l e R s m args below meth co D cy A nL Q (cells + 1) (slots + N) a' (L ++ [k]) (up1 c k (fun _ => 0)) (up1 g k (fun _ => 0)) (up1 r k (fun _ => none)) lv (pc + 2) (.ref (a' k) :: st)) : zG p l e R s m args below meth co D cy A nL Q cells slots a L c g r lv pc (.int (nI N) :: st) := by
  intro H locs ls hW hS hl
  refine va_newa (atype := .boolean) (a0 := (N, .inl (fun _ => 0))) C.1 C.2.1 (C.2.2.2.2.2.1 _ harr) (ty := .boolean) rfl C.2.2.2.2.2.2.1.1 hW.1 hW.2 hS C.2.2.2.2.2.2.2.1 (fun _ => rfl) (nI_pos (by omega)) (nI_clamp (by omega)) (by show N * 1 ≤ 536870912; omega) hcells hslots hd (fun q cA H1 hK h1 h2 h3 => ?_)
  have e1 : s.vm.findClass ("[" ++ (FieldType.boolean).toString) = some cA := (hK.2 6 (cA, .boolean) rfl).2
  have e2 : s.vm.findClass ("[" ++ (FieldType.boolean).toString) = some (cy 10) := (C.2.2.2.2.2.2.1.1.2 1 (cy 10, .boolean) rfl).2
  have e3 : cA = cy 10 := Option.some.inj (e1.symm.trans e2)
  subst e3
  rw [wd_push hk hcl (fun a' => by rw [zF_bool h9, hN, up1_self])] at h1 h2
  have := kk (va_up a k q) (fun j hj => by simp [va_up, hj]) H1 locs ls ⟨h1, h2⟩ h3 hl
  rw [show va_up a k q k = q from by simp [va_up]] at this
  exact this
theorem z_newr (C : zC p s m args meth co D cy A cc nL ret Ts own) {k N n index : Nat} {Cn : String} (hn : (n = 11 ∧ Cn = RX0) ∨ (n = 12 ∧ Cn = RX1) ∨ (n = 13 ∧ Cn = RX4) ∨ (n = 14 ∧ Cn = RX6)) (h9 : kd k = n) (hN : ln k = N) (hlt : N < 2 ^ 26) (hl1 : Cond.classLink own index Cn ∈ Ts) (hcells : cells + 1 ≤ R.cells) (hslots : slots + N ≤ R.slots) (hk : k ∉ L) (hcl : ∀ j i, r j i ≠ some k) (hd : decode cc pc = .ok (.anewarray index, 3)) (kk : ∀ a' : Nat → Nat, (∀ j, j ≠ k → a' j = a j) → zG p l e R s m args below meth co D cy A nL Q (cells + 1) (slots + N) a' (L ++ [k]) (up1 c k (fun _ => 0)) (up1 g k (fun _ => 0)) (up1 r k (fun _ => none)) lv (pc + 3) (.ref (a' k) :: st)) : zG p l e R s m args below meth co D cy A nL Q cells slots a L c g r lv pc (.int (nI N) :: st) := by
  intro H locs ls hW hS hl
  have hAO : va_AO Cn s := by
    rcases hn with ⟨-, rfl⟩ | ⟨-, rfl⟩ | ⟨-, rfl⟩ | ⟨-, rfl⟩
    · exact C.2.2.2.2.2.2.1.2.2.1
    · exact C.2.2.2.2.2.2.1.2.2.2.1
    · exact C.2.2.2.2.2.2.1.2.2.2.2.1
    · exact C.2.2.2.2.2.2.1.2.2.2.2.2
  obtain ⟨t, ht⟩ := zT_ref (cy := cy) hn
  refine va_newq C.1 C.2.1 C.2.2.2.2.1 (C.2.2.2.2.2.1 _ hl1) hAO C.2.2.2.2.2.2.1.1 hW.1 hW.2 hS C.2.2.2.2.2.2.2.1 (nI_pos (by omega)) (nI_clamp (by omega)) (by omega) hcells hslots hd (fun q cA H1 hK h1 h2 h3 => ?_)
  obtain ⟨kA, comp, -, -, -, e1⟩ := (hK.2 6 (cA, .object Cn) rfl).2
  obtain ⟨kA', comp', -, -, -, e2⟩ := (C.2.2.2.2.2.2.1.1.2 t (cy n, .object Cn) ht).2
  have e3 : cA = cy n := Option.some.inj (e1.symm.trans e2)
  subst e3
  have hn1 : n = 11 ∨ n = 12 ∨ n = 13 ∨ n = 14 := by rcases hn with h | h | h | h <;> simp [h.1]
  rw [wd_push hk hcl (fun a' => by rw [zF_ref h9 hn1, hN]; simp only [up1_self, Option.map_none])] at h1 h2
  have := kk (va_up a k q) (fun j hj => by simp [va_up, hj]) H1 locs ls ⟨h1, h2⟩ h3 hl
  rw [show va_up a k q k = q from by simp [va_up]] at this
  exact this
end ZNEW
/-- every reference is to a cell that lives -/
def zR (L : List Nat) (r : Nat → Nat → Option Nat) : Prop := ∀ j i k, r j i = some k → k ∈ L
theorem zR_ne {L : List Nat} {r : Nat → Nat → Option Nat} (h : zR L r) {k : Nat} (hk : k ∉ L) : ∀ j i, r j i ≠ some k := fun j i e => hk (h j i k e)
theorem zR_new {L : List Nat} {r : Nat → Nat → Option Nat} (h : zR L r) (k : Nat) : zR (L ++ [k]) (up1 r k (fun _ => none)) := by
  intro j i k' e
  unfold up1 at e
  split at e
  · cases e
  · exact List.mem_append_left _ (h j i k' e)
theorem zR_put {L : List Nat} {r : Nat → Nat → Option Nat} (h : zR L r) (k i : Nat) {y : Nat} (hy : y ∈ L) : zR L (up2 r k i (some y)) := by
  intro j i' k' e
  unfold up2 at e
  split at e
  · split at e
    · cases e; exact hy
    · rename_i hj _; exact h k i' k' e
  · exact h j i' k' e
