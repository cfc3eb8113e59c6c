section ZST
variable {p : Program} {l : Launch} {e : Env} {R : Room} {s : State} {m : MethodId} {args : Array Value} {below : List Frame} {meth : Method} {co : Code}
variable {D : va_G} {cy : Nat → ClassId} {A : Nat → Prop} {cc : ByteArray} {nL : Nat} {ret : Option FieldType} {Ts : List Cond} {own : String}
variable {a : Nat → Nat} {L : List Nat} {c : Nat → Nat → Int32} {g : Nat → Nat → Int64} {r : Nat → Nat → Option Nat} {Q : State → Prop} {cells slots pc : Nat} {lv : List (Nat × Value)} {st : List Value}
theorem z_copy (C : zC p s m args meth co D cy A cc nL ret Ts own) {ks kt : Nat} (hks : ks ∈ L) (hkt : kt ∈ L) (ks9 : kd ks = 9) (kt9 : kd kt = 9) {sp dp n : Nat} (hb1 : ln ks < 2 ^ 31) (hb2 : ln kt < 2 ^ 31) (h4 : sp + n ≤ ln ks) (h5 : dp + n ≤ ln kt) {index : Nat} (hl1 : Cond.methodLink own index arraycopyName ∈ Ts) (hl2 : Cond.native arraycopyName ∈ Ts) (hl3 : Cond.static arraycopyName ∈ Ts) (hl4 : Cond.initialized "java/lang/System" ∈ Ts) (hfr : 1 ≤ R.frames) (hlo : (st.map fun v => v.category).sum + (nativeFrameWords "java/lang/System" "arraycopy" 5 + 11) ≤ R.locals) (hd : decode cc pc = .ok (.invokestatic index, 3)) (kk : zG p l e R s m args below meth co D cy A nL Q cells slots a L (up1 c kt (va_cpy (c ks) (c kt) sp dp n)) g r lv (pc + 3) st) : zG p l e R s m args below meth co D cy A nL Q cells slots a L c g r lv pc (.int (nI n) :: .int (nI dp) :: .ref (a kt) :: .int (nI sp) :: .ref (a ks) :: st) := by
  intro H locs ls hW hS hl
  obtain ⟨q, hq⟩ := List.getElem?_of_mem hks
  obtain ⟨q', hq'⟩ := List.getElem?_of_mem hkt
  have he := wd_at cy a c g r hq
  have he' := wd_at cy a c g r hq'
  rw [zF_int ks9] at he
  rw [zF_int kt9] at he'
  have e1 : (nI n).toNatClampNeg = n := nI_clamp (by omega)
  have e2 : (nI dp).toNatClampNeg = dp := nI_clamp (by omega)
  have e3 : (nI sp).toNatClampNeg = sp := nI_clamp (by omega)
  refine va_copyi C.1 C.2.1 (by rw [C.2.2.2.1]; exact hl.1.symm) C.2.2.2.2.1 (C.2.2.2.2.2.1 _ hl1) (C.2.2.2.2.2.1 _ hl2) (C.2.2.2.2.2.1 _ hl3) (C.2.2.2.2.2.1 _ hl4) C.2.2.2.2.2.2.1.1 hW.1 hW.2 hS q q' 0 0 he he' rfl rfl rfl (nI_pos (by omega)) (nI_pos (by omega)) (nI_pos (by omega)) (by rw [e1, e3]; exact h4) (by rw [e1, e2]; exact h5) (fun _ _ => rfl) hfr hlo hd (fun H1 locs1 h1 h2 h3 => ?_)
  rw [e1, e2, e3, wd_set (c' := up1 c kt (va_cpy (c ks) (c kt) sp dp n)) (g' := g) (r' := r) hW hq' (by rw [zF_int kt9, up1_self]) (fun i hi => zF_c cy a g r (up1_k c _ hi))] at h1 h2
  exact kk H1 locs1 ls ⟨h1, h2⟩ h3 hl
/-- the class's two static rows -/
def zSt (A : Nat → Prop) (U : State) (H : Heap) : Prop := (∃ t, va_Z "LetteredRock" "LEAST_SETTING" "[I" (.ref t) A U H ∧ va_T .int t 4 (fun j => .int (([10, 0, 1, 0] : List Int32).getD j 0)) A U H) ∧ (∃ t, va_Z "LetteredRock" "MOST_SETTING" "[I" (.ref t) A U H ∧ va_T .int t 4 (fun j => .int (([200, 1000, 1000, 100] : List Int32).getD j 0)) A U H)
theorem zSt.moved {u U : State} {H : Heap} (hvm : u.vm.Alike U.vm) (h : zSt A u H) : zSt A U H := by
  obtain ⟨⟨t, h1, h2⟩, t', h3, h4⟩ := h
  exact ⟨⟨t, h1.moved hvm, h2.moved hvm⟩, t', h3.moved hvm, h4.moved hvm⟩
theorem zSt.kept {U : State} {H H1 : Heap} (h : zSt A U H) (hq : ∀ a : Nat, a < H.size → ¬ A a → H1[a]? = H[a]?) : zSt A U H1 := by
  obtain ⟨⟨t, h1, h2⟩, t', h3, h4⟩ := h
  exact ⟨⟨t, h1.kept hq, h2.kept hq⟩, t', h3.kept hq, h4.kept hq⟩
theorem zSt.narrow {U : State} {H : Heap} {B : Nat → Prop} (h : zSt A U H) (hAB : ∀ q, B q → A q) : zSt B U H := by
  obtain ⟨⟨t, h1, h2⟩, t', h3, h4⟩ := h
  exact ⟨⟨t, h1.narrow hAB, h2.narrow hAB⟩, t', h3.narrow hAB, h4.narrow hAB⟩
/-- a contract that reads the static rows -/
def zMS (l : Launch) (y : MethodName) (ws : List Cond) (rm : Room) (D : va_G) (cy : Nat → ClassId) (a : Nat → Nat) (L : List Nat) (c : Nat → Nat → Int32) (g : Nat → Nat → Int64) (r : Nat → Nat → Option Nat) (av : List Value) (Qf : Nat → Qx) (mc ms : Nat) : Prop := ∀ sz, Met l y ws rm (va_Pc av (fun U => zPre D cy a L c g r sz U ∧ zSt (zA a L sz) U U.heap)) (Qf sz) mc ms (zA a L sz)
theorem z_enterS {y : MethodName} {ws' : List Cond} {rm : Room} {av : List Value} {Qf : Nat → Qx} {mc ms : Nat} (cc : ByteArray) (nL : Nat) (ret : Option FieldType) (hy : plainName y.cls = true) (hlen : (lg_sl av).length ≤ nL)
    (body : ∀ (p : Program) (e : Env) (s : State) (m : MethodId) (below : List Frame) (meth : Method) (co : Code), zC p s m av.toArray meth co D cy (zA a L s.heap.size) cc nL ret (Cond.code y cc nL ret :: ws') y.cls → zSt (zA a L s.heap.size) s s.heap → zG p l e rm s m av.toArray below meth co D cy (zA a L s.heap.size) nL (MQ below (Qf s.heap.size) av.toArray s mc ms (zA a L s.heap.size)) 0 0 a L c g r (lv_args 0 av) 0 []) : zMS l y (Cond.code y cc nL ret :: ws') rm D cy a L c g r av Qf mc ms := by
  intro sz
  refine Met.ofW (cc := cc) (maxL := nL) (ret := ret) hy rfl ?_
  intro p e s m args below meth co s₁ B hml hv
  obtain ⟨rfl, ⟨hsz, hW, hK⟩, hst⟩ := hv
  subst hsz
  have hown : s.vm.findClass y.cls = some m.cls := findClass_of_methodNamed B.named
  have hl := lv_entry av (n := nL) hlen
  rw [lg_entry_eq]
  refine body p e s m below meth co ⟨B.exec, B.bytes, B.returns, hml, hown, atoms_spec (ws := Cond.code y cc nL ret :: ws') B.pre, hK, fun q h => Or.inr h, B.notSynchronized⟩ hst s.heap [] _ ⟨hW.1, hW.2.1, fun k q hq => ?_⟩ va_S.rf hl
  obtain ⟨j, hj, rfl⟩ := wd_inv hq
  exact Or.inl ⟨j, List.mem_of_getElem? hj, rfl⟩
theorem z_runVS (C : zC p s m args meth co D cy A cc nL ret Ts own) (hst0 : zSt A s s.heap) {y : MethodName} {ws : List Cond} {rm : Room} {Qf : Nat → Qx} {mc ms n index maxL : Nat} {bytes : ByteArray} {rt : Option FieldType} {As rest : List Value} {Cn : String} {kb ci : Nat} {fs : List Value} {rc : vw_C} (hM : zMS l y ws rm D cy a L c g r (.ref (a kb) :: As) Qf mc ms) (cw : CallW R s args own Cn index y bytes maxL rt ws rm mc ms n) (hk : kb ∈ L) (hF : zF cy a c g r kb = .inr (ci, fs)) (hc : vwCl[ci]? = some rc) (hcn : rc.1 = Cn) (hn : As.length = n) (hst : st = As.reverse ++ .ref (a kb) :: rest) (hroom : (rest.map fun v => v.category).sum ≤ 8) (hd : decode cc pc = .ok (.invokevirtual index, 3)) (hf : cells + mc ≤ R.cells ∧ slots + ms ≤ R.slots) : zRun p l e R s m args below meth co D cy A nL cells slots a L c g r lv pc st rest Qf mc ms := by
  intro H locs ls hW hS hl
  obtain ⟨q, hq⟩ := List.getElem?_of_mem hk
  have he := wd_at cy a c g r hq
  rw [hF] at he
  subst hcn
  have hF2 := zA_in hW C.2.2.2.2.2.2.2.1 hS
  have hs2 : zSt (zA a L H.size) s H := (hst0.kept hS.2.1).narrow hF2
  exact ⟨_, va_runV (As := As) (rest := rest) ⟨C.1, C.2.1, C.2.2.2.1, C.2.2.2.2.1, C.2.2.2.2.2.1⟩ (hM H.size) cw ⟨fun a' U g' mk q => by
      obtain ⟨q0, ⟨q1, qW, qK⟩, qS⟩ := q
      exact ⟨q0, ⟨q1, qW, va_K.moved (u := U) (U := U.calling g' mk a') (Vm.Alike.refl U.vm) qK.1, qK.2.same rfl⟩, qS.moved (u := U) (U := U.calling g' mk a') (Vm.Alike.refl U.vm)⟩, va_recv C.2.2.2.2.2.2.1.1 hW.1 hc he, fun U hU hw => ⟨rfl, ⟨by rw [hU], by rw [hU]; exact ⟨hW.1, hW.2.weaken (fun _ _ _ _ => trivial)⟩, C.2.2.2.2.2.2.1.warm hw⟩, by rw [hU]; exact hs2.moved hw.alike⟩⟩ rfl hn hl.1 hst (lv_room hroom) hd hf⟩
theorem z_gets (C : zC p s m args meth co D cy A cc nL ret Ts own) {Cn nm ds : String} {v : Value} {index : Nat} (hZ : va_Z Cn nm ds v A s s.heap) (hlink : Cond.fieldLink own index Cn nm ds ∈ Ts) (hd : decode cc pc = .ok (.getstatic index, 3)) (kk : zG p l e R s m args below meth co D cy A nL Q cells slots a L c g r lv (pc + 3) (v :: st)) : zG p l e R s m args below meth co D cy A nL Q cells slots a L c g r lv pc st := fun H locs ls hW hS hl => va_gets C.1 C.2.1 hZ hS C.2.2.2.2.1 (C.2.2.2.2.2.1 _ hlink) (fun _ h => h) hd (kk H locs ls hW hS hl)
theorem z_sti (C : zC p s m args meth co D cy A cc nL ret Ts own) {t N : Nat} {f : Nat → Value} (hT : va_T .int t N f A s s.heap) (hN : N < 2 ^ 31) {j : Nat} (hj : j < N) {v : Value} (hv : f j = v) (hd : decode cc pc = .ok (.iaload, 1)) (kk : zG p l e R s m args below meth co D cy A nL Q cells slots a L c g r lv (pc + 1) (v :: st)) : zG p l e R s m args below meth co D cy A nL Q cells slots a L c g r lv pc (.int (nI j) :: .ref t :: st) := fun H locs ls hW hS hl => va_ti C.1 C.2.1 hT hS (vp_in_nI hj hN) (by rw [nI_clamp (by omega)]; exact hv) hd (kk H locs ls hW hS hl)
end ZST

def leV (j : Nat) : Int32 := ([10, 0, 1, 0] : List Int32).getD j 0
def moV (j : Nat) : Int32 := ([200, 1000, 1000, 100] : List Int32).getD j 0

set_option maxHeartbeats 4000000 in
set_option maxRecDepth 100000 in
theorem c_X7_set (l : Launch) (D : va_G) (cy : Nat → ClassId) (a : Nat → Nat) (L : List Nat) (c : Nat → Nat → Int32) (g : Nat → Nat → Int64) (r : Nat → Nat → Option Nat) (nl nk : Nat) (hL : zLv L nl nk) (hR : RC r nl nk) (hI : CI c nl nk) (what n : Int32) : zMS l yX7_set wsX7_set { frames := 1, cells := 0, slots := 0, locals := 22 } D cy a L c g r [Value.ref (a 0), Value.int what, Value.int n] (zQI D cy a L c g r (fun v ω => ∃ c', ω = (a, L, c', g, r) ∧ ((((0 ≤ what.toInt ∧ what.toInt ≤ 3) ∧ (leV (tn what)).toInt ≤ n.toInt ∧ n.toInt ≤ (moV (tn what)).toInt) ∧ v = c 5 (tn what) ∧ c' = up2 c 5 (tn what) n) ∨ (¬ ((0 ≤ what.toInt ∧ what.toInt ≤ 3) ∧ (leV (tn what)).toInt ≤ n.toInt ∧ n.toInt ≤ (moV (tn what)).toInt) ∧ v = -2 ∧ c' = c)))) 0 0 := by
  refine z_enterS cX7_set 4 (some .int) (by decide) (Nat.le_of_ble_eq_true rfl) ?_
  intro p e s m below meth co C hst
  have C : zC p s m _ meth co D cy _ cX7_set 4 (some .int) wsX7_set RX7 := C
  have i7 : ∀ w ∈ wsX70, w ∈ wsX7_set := by decide +kernel
  obtain ⟨⟨t1, hz1, hT1⟩, t2, hz2, hT2⟩ := hst
  refine z_iload_n C dX7_set_0 rfl (q := 1) rfl ?_
  refine z_iconst C dX7_set_1 (v := 0) (by decide) ?_
  refine z_iconst C dX7_set_2 (v := 3) (by decide) ?_
  refine z_pI C (z_runS C (As := [Value.int what, Value.int 0, Value.int 3]) (rest := []) (c_X7_within l D cy a L c g r what 0 3 (V := what.toInt) (LO := 0) (HI := 3) rfl (show (0 : Int32).toInt = 0 from by decide) (show (3 : Int32).toInt = 3 from by decide)) (va_cwS 3 C.2.2.2.2.2.1 gX7_set_X7_within rfl rfl rfl (by decide +kernel) ⟨Nat.le_of_ble_eq_true rfl, Nat.le_of_ble_eq_true rfl⟩) rfl rfl (Nat.le_of_ble_eq_true rfl) dX7_set_3 ⟨Nat.zero_le _, Nat.zero_le _⟩) (fun v3 e3 => ?_)
  rcases e3 with ⟨rfl, e3⟩ | ⟨rfl, e3⟩
  · obtain ⟨wh, hwh, rfl⟩ := arg_nI (b := 3) e3
    have twh := nI_toInt (n := wh) (by omega)
    have uwh := tn_nI (j := wh) (by omega)
    refine z_if_eq C dX7_set_6 (tgt := 26) (by decide) (fun h6 => absurd h6 (by decide)) (fun h6 => ?_)
    refine z_iload_n C dX7_set_9 rfl (q := 2) rfl ?_
    refine z_gets C hz1 (by decide +kernel) dX7_set_10 ?_
    refine z_iload_n C dX7_set_13 rfl (q := 1) rfl ?_
    refine z_sti C hT1 (by decide) (j := wh) (by omega) (v := Value.int (leV wh)) rfl dX7_set_14 ?_
    refine z_gets C hz2 (by decide +kernel) dX7_set_15 ?_
    refine z_iload_n C dX7_set_18 rfl (q := 1) rfl ?_
    refine z_sti C hT2 (by decide) (j := wh) (by omega) (v := Value.int (moV wh)) rfl dX7_set_19 ?_
    refine z_pI C (z_runS C (As := [Value.int n, Value.int (leV wh), Value.int (moV wh)]) (rest := []) (c_X7_within l D cy a L c g r n (leV wh) (moV wh) (V := n.toInt) (LO := (leV wh).toInt) (HI := (moV wh).toInt) rfl rfl rfl) (va_cwS 3 C.2.2.2.2.2.1 gX7_set_X7_within rfl rfl rfl (by decide +kernel) ⟨Nat.le_of_ble_eq_true rfl, Nat.le_of_ble_eq_true rfl⟩) rfl rfl (Nat.le_of_ble_eq_true rfl) dX7_set_20 ⟨Nat.zero_le _, Nat.zero_le _⟩) (fun v20 e20 => ?_)
    rcases e20 with ⟨rfl, e20⟩ | ⟨rfl, e20⟩
    · refine z_if_ne C dX7_set_23 (tgt := 29) (by decide) (fun h23 => ?_) (fun h23 => absurd h23 (by decide))
      refine z_aload_n C dX7_set_29 rfl (q := 0) rfl ?_
      refine zg_X7_settings C (k := 0) (hL _ (by unfold live; omega)) (by rfl) i7 (by decide +kernel) (k' := 5) (RC_settings hR) dX7_set_30 ?_
      refine z_iload_n C dX7_set_33 rfl (q := 1) rfl ?_
      refine z_iaload C (k := 5) (hL _ (by unfold live; omega)) (by rfl) (j := wh) rfl (by rw [show ln 5 = 4 from rfl]; omega) (by rw [show ln 5 = 4 from rfl]; decide) (v := c 5 wh) rfl dX7_set_34 ?_
      refine z_istore_n C dX7_set_35 rfl (by decide) (lv' := [(3, Value.int (c 5 wh)), (0, Value.ref (a 0)), (1, Value.int (nI wh)), (2, Value.int n)]) rfl ?_
      refine z_aload_n C dX7_set_36 rfl (q := 1) rfl ?_
      refine zg_X7_settings C (k := 0) (hL _ (by unfold live; omega)) (by rfl) i7 (by decide +kernel) (k' := 5) (RC_settings hR) dX7_set_37 ?_
      refine z_iload_n C dX7_set_40 rfl (q := 2) rfl ?_
      refine z_iload_n C dX7_set_41 rfl (q := 3) rfl ?_
      refine z_iastore C (k := 5) (hL _ (by unfold live; omega)) (by rfl) (j := wh) rfl (by rw [show ln 5 = 4 from rfl]; omega) (by rw [show ln 5 = 4 from rfl]; decide) dX7_set_42 ?_
      refine z_iload_n C dX7_set_43 rfl (q := 0) rfl ?_
      exact z_iret C rfl (Nat.le_refl _) (Nat.le_refl _) dX7_set_44 ⟨_, rfl, Or.inl ⟨by rw [uwh]; exact ⟨by omega, e20⟩, by rw [uwh], by rw [uwh]⟩⟩
    · refine z_if_ne C dX7_set_23 (tgt := 29) (by decide) (fun h23 => absurd h23 (by decide)) (fun h23 => ?_)
      refine z_bipush C dX7_set_26 (v := -2) (by decide) ?_
      exact z_iret C rfl (Nat.le_refl _) (Nat.le_refl _) dX7_set_28 ⟨_, rfl, Or.inr ⟨by rw [uwh]; omega, rfl, rfl⟩⟩
  · refine z_if_eq C dX7_set_6 (tgt := 26) (by decide) (fun h6 => ?_) (fun h6 => absurd h6 (by decide))
    refine z_bipush C dX7_set_26 (v := -2) (by decide) ?_
    exact z_iret C rfl (Nat.le_refl _) (Nat.le_refl _) dX7_set_28 ⟨_, rfl, Or.inr ⟨by omega, rfl, rfl⟩⟩
