/-- the letters of the words, as numbers -/
def XL (d : Nat → Nat → Int32) (nl : Nat) (x : Nat → Nat → Nat) : Prop := ∀ w, w < 8 → ∀ i, i < nn d (20 + w) 1 → x w i < nl
theorem XC_L {c : Nat → Nat → Int32} {r : Nat → Nat → Option Nat} {nl : Nat} {x : Nat → Nat → Nat} (h : XC c r nl x) : XL c nl x := fun w hw i hi => (h w hw i hi).2
/-- the link: the reference's cells in c hold what the class's cells in d hold -/
def LK (d c : Nat → Nat → Int32) (nl nk : Nat) (x : Nat → Nat → Nat) : Prop :=
  (c 300 1 = nI nl ∧ c 300 8 = d 3 1 ∧ c 300 9 = d 3 2 ∧ c 300 17 = nI nk ∧ c 300 19 = d 6 2 ∧ c 300 20 = d 6 3 ∧ c 300 27 = d 0 10)
  ∧ (∀ j, j < 4 → c 301 j = d 5 j)
  ∧ (∀ i, i < nl → c 303 i = d (100 + i) 0 ∧ c 304 i = d (100 + i) 1 ∧ c 305 i = d (100 + i) 2 ∧ ∀ j, j < 5 → c 306 (5 * i + j) = d (120 + i) j)
  ∧ (∀ i, nl ≤ i → i < 16 → ∀ j, j < 5 → c 306 (5 * i + j) = 0)
  ∧ (∀ w, w < 8 → c 307 w = d (20 + w) 1 ∧ ∀ i, i < nn d (20 + w) 1 → c 308 (10 * w + i) = nI (x w i))
  ∧ (∀ k, k < nk → ∀ j, j < 6 → c 319 (6 * k + j) = d (200 + k) j)
  ∧ (∀ w, w < 52 → c 322 w = d 8 w ∧ c 323 w = d 9 w)
  ∧ (∀ s, s < 4 → c 324 s = (if nn d (40 + s) 1 = 1 then -1 else d (40 + s) 2) ∧ c 325 s = d (40 + s) 3 ∧ ∀ i, i < nn d (40 + s) 3 → c 326 (60 * s + i) = d (50 + s) i)
/-- the reference's cells that the link speaks of -/
def lkr (k : Nat) : Prop := k = 301 ∨ (303 ≤ k ∧ k ≤ 308) ∨ k = 319 ∨ (322 ≤ k ∧ k ≤ 326)
def lkf (j : Nat) : Prop := j = 1 ∨ j = 8 ∨ j = 9 ∨ j = 17 ∨ j = 19 ∨ j = 20 ∨ j = 27
/-- the same for the link -/
def lks (c c' : Nat → Nat → Int32) : Prop := (∀ k, lkr k → c' k = c k) ∧ ∀ j, lkf j → c' 300 j = c 300 j
theorem lks_rf (c : Nat → Nat → Int32) : lks c c := ⟨fun _ _ => rfl, fun _ _ => rfl⟩
theorem lks_tr {c c1 c2 : Nat → Nat → Int32} (h : lks c c1) (h2 : lks c1 c2) : lks c c2 := ⟨fun k hk => (h2.1 k hk).trans (h.1 k hk), fun j hj => (h2.2 j hj).trans (h.2 j hj)⟩
theorem lks_row {c : Nat → Nat → Int32} {k : Nat} (h : ¬ lkr k) (h2 : k ≠ 300) (f : Nat → Int32) : lks c (up1 c k f) := ⟨fun k' hk => up1_k c f (fun e => h (e ▸ hk)), fun j _ => by rw [up1_k c f h2.symm]⟩
theorem lks_fld {c : Nat → Nat → Int32} {j : Nat} (h : ¬ lkf j) (v : Int32) : lks c (up2 c 300 j v) := ⟨fun k' hk => up2_row c j v (by unfold lkr at hk; omega), fun i hi => up2_i c 300 300 v (fun e => h (e ▸ hi))⟩
theorem LK_s {d c c' : Nat → Nat → Int32} {nl nk : Nat} {x : Nat → Nat → Nat} (h : lks c c') (hK : LK d c nl nk x) : LK d c' nl nk x := by
  obtain ⟨h1, h2⟩ := h
  obtain ⟨⟨a1, a2, a3, a4, a5, a6, a7⟩, b, e, f, g, i, j, k⟩ := hK
  have r1 := h1 301 (by unfold lkr; omega)
  have r3 := h1 303 (by unfold lkr; omega)
  have r4 := h1 304 (by unfold lkr; omega)
  have r5 := h1 305 (by unfold lkr; omega)
  have r6 := h1 306 (by unfold lkr; omega)
  have r7 := h1 307 (by unfold lkr; omega)
  have r8 := h1 308 (by unfold lkr; omega)
  have r9 := h1 319 (by unfold lkr; omega)
  have s2 := h1 322 (by unfold lkr; omega)
  have s3 := h1 323 (by unfold lkr; omega)
  have s4 := h1 324 (by unfold lkr; omega)
  have s5 := h1 325 (by unfold lkr; omega)
  have s6 := h1 326 (by unfold lkr; omega)
  unfold LK
  rw [r1, r3, r4, r5, r6, r7, r8, r9, s2, s3, s4, s5, s6, h2 1 (by unfold lkf; omega), h2 8 (by unfold lkf; omega), h2 9 (by unfold lkf; omega), h2 17 (by unfold lkf; omega), h2 19 (by unfold lkf; omega), h2 20 (by unfold lkf; omega), h2 27 (by unfold lkf; omega)]
  exact ⟨⟨a1, a2, a3, a4, a5, a6, a7⟩, b, e, f, g, i, j, k⟩
section LKS
variable {d c : Nat → Nat → Int32} {nl nk : Nat} {x : Nat → Nat → Nat}
theorem LK_nl (h : LK d c nl nk x) : c 300 1 = nI nl := h.1.1
theorem LK_S (h : LK d c nl nk x) (hI : CI d nl nk) : c 300 8 = nI (nn d 3 1) := h.1.2.1.trans (CI_S hI).1
theorem LK_G (h : LK d c nl nk x) (hI : CI d nl nk) : c 300 9 = nI (nn d 3 2) := h.1.2.2.1.trans (CI_G hI).1
theorem LK_nk (h : LK d c nl nk x) : c 300 17 = nI nk := h.1.2.2.2.1
theorem LK_st (h : LK d c nl nk x) (hI : CI d nl nk) : c 300 19 = nI (nn d 6 2) := h.1.2.2.2.2.1.trans (CI_tot hI).1.1
theorem LK_sc (h : LK d c nl nk x) (hI : CI d nl nk) : c 300 20 = nI (nn d 6 3) := h.1.2.2.2.2.2.1.trans (CI_tot hI).2.1
theorem LK_fi (h : LK d c nl nk x) : c 300 27 = d 0 10 := h.1.2.2.2.2.2.2
theorem LK_told (h : LK d c nl nk x) {j : Nat} (hj : j < 4) : c 301 j = d 5 j := h.2.1 j hj
theorem LK_wi (h : LK d c nl nk x) (hI : CI d nl nk) {i : Nat} (hi : i < nl) : c 303 i = nI (nn d (100 + i) 0) := (h.2.2.1 i hi).1.trans (CI_wi hI hi).1
theorem LK_mi (h : LK d c nl nk x) (hI : CI d nl nk) {i : Nat} (hi : i < nl) : c 304 i = nI (nn d (100 + i) 1) := (h.2.2.1 i hi).2.1.trans (CI_mi hI hi).1
theorem LK_so (h : LK d c nl nk x) (hI : CI d nl nk) {i : Nat} (hi : i < nl) : c 305 i = nI (nn d (100 + i) 2) := (h.2.2.1 i hi).2.2.1.trans (CI_so hI hi).1
theorem LK_sp (h : LK d c nl nk x) (hI : CI d nl nk) {i : Nat} (hi : i < nl) {j : Nat} (hj : j < 5) : c 306 (5 * i + j) = nI (nn d (120 + i) j) := ((h.2.2.1 i hi).2.2.2 j hj).trans (CI_st hI hi hj).1
theorem LK_sz (h : LK d c nl nk x) (hI : CI d nl nk) {w : Nat} (hw : w < 8) : c 307 w = nI (nn d (20 + w) 1) := (h.2.2.2.2.1 w hw).1.trans (CI_sz hI hw).1
theorem LK_x (h : LK d c nl nk x) {w : Nat} (hw : w < 8) {i : Nat} (hi : i < nn d (20 + w) 1) : c 308 (10 * w + i) = nI (x w i) := (h.2.2.2.2.1 w hw).2 i hi
theorem LK_lump (h : LK d c nl nk x) {k : Nat} (hk : k < nk) {j : Nat} (hj : j < 6) : c 319 (6 * k + j) = d (200 + k) j := h.2.2.2.2.2.1 k hk j hj
theorem LK_wk (h : LK d c nl nk x) {w : Nat} (hw : w < 52) : c 322 w = d 8 w ∧ c 323 w = d 9 w := h.2.2.2.2.2.2.1 w hw
theorem LK_fo (h : LK d c nl nk x) {s : Nat} (hs : s < 4) : c 324 s = (if nn d (40 + s) 1 = 1 then -1 else d (40 + s) 2) := (h.2.2.2.2.2.2.2 s hs).1
theorem LK_si (h : LK d c nl nk x) (hI : CI d nl nk) {s : Nat} (hs : s < 4) : c 325 s = nI (nn d (40 + s) 3) := (h.2.2.2.2.2.2.2 s hs).2.1.trans (CI_sh hI hs).2.2.1
theorem LK_it (h : LK d c nl nk x) {s : Nat} (hs : s < 4) {i : Nat} (hi : i < nn d (40 + s) 3) : c 326 (60 * s + i) = d (50 + s) i := (h.2.2.2.2.2.2.2 s hs).2.2 i hi
end LKS
theorem tL {x : Int32} {X : Int} (h : x.toInt = X) : x.toInt64.toInt = X := by rw [Int32.toInt_toInt64]; exact h

theorem iL_lt {x y : Int64} {X Y : Int} (hx : x.toInt = X) (hy : y.toInt = Y) (h : x < y) : X < Y := by rw [← hx, ← hy]; exact Int64.lt_iff_toInt_lt.mp h
theorem iL_nlt {x y : Int64} {X Y : Int} (hx : x.toInt = X) (hy : y.toInt = Y) (h : ¬ x < y) : Y ≤ X := by rw [← hx, ← hy]; rw [Int64.lt_iff_toInt_lt] at h; omega

set_option maxHeartbeats 4000000 in
set_option maxRecDepth 100000 in
theorem c_X8_in (l : Launch) (D : va_G) (cy : Nat → ClassId) (a : Nat → Nat) (L : List Nat) (c : Nat → Nat → Int32) (g : Nat → Nat → Int64) (r : Nat → Nat → Option Nat) (v lo hi : Int64) {V LO HI : Int} (hv : v.toInt = V) (hlo : lo.toInt = LO) (hhi : hi.toInt = HI) : zPI l yX8_in wsX8_in { frames := 0, cells := 0, slots := 0, locals := 0 } D cy a L c g r [Value.long v, Value.long lo, Value.long hi] (fun z => (z = 1 ∧ LO ≤ V ∧ V ≤ HI) ∨ (z = 0 ∧ ¬ (LO ≤ V ∧ V ≤ HI))) := by
  refine z_enter cX8_in 6 (some .boolean) (by decide) (Nat.le_of_ble_eq_true rfl) ?_
  intro p e s m below meth co C hin
  have C : zC p s m _ meth co D cy _ cX8_in 6 (some .boolean) wsX8_in RX8 := C
  refine z_lload_n C dX8_in_0 rfl (q := 0) rfl ?_
  refine z_lload_n C dX8_in_1 rfl (q := 1) rfl ?_
  refine z_lcmp C dX8_in_2 ?_
  refine z_if_lt C dX8_in_3 (tgt := 17) (by decide) (fun h3 => ?_) (fun h3 => ?_)
  · have q3 := lgc_lt.mp h3
    refine z_iconst C dX8_in_17 (v := 0) (by decide) ?_
    exact z_zret C rfl (Nat.le_refl _) (Nat.le_refl _) dX8_in_18 rfl ⟨rfl, Or.inr ⟨rfl, by have := iL_lt hv hlo q3; omega⟩⟩
  · have q3 := fun z => h3 (lgc_lt.mpr z)
    refine z_lload_n C dX8_in_6 rfl (q := 0) rfl ?_
    refine z_lload C dX8_in_7 (q := 2) rfl ?_
    refine z_lcmp C dX8_in_9 ?_
    refine z_if_gt C dX8_in_10 (tgt := 17) (by decide) (fun h10 => ?_) (fun h10 => ?_)
    · have q10 := lgc_gt.mp h10
      refine z_iconst C dX8_in_17 (v := 0) (by decide) ?_
      exact z_zret C rfl (Nat.le_refl _) (Nat.le_refl _) dX8_in_18 rfl ⟨rfl, Or.inr ⟨rfl, by have := iL_lt hhi hv q10; omega⟩⟩
    · have q10 := fun z => h10 (lgc_gt.mpr z)
      refine z_iconst C dX8_in_13 (v := 1) (by decide) ?_
      refine z_goto C dX8_in_14 (tgt := 18) (by decide) ?_
      exact z_zret C rfl (Nat.le_refl _) (Nat.le_refl _) dX8_in_18 rfl ⟨rfl, Or.inl ⟨rfl, by have h1 := iL_nlt hv hlo q3; have h2 := iL_nlt hhi hv q10; omega⟩⟩

set_option maxHeartbeats 4000000 in
set_option maxRecDepth 100000 in
theorem c_X8_isLetter (l : Launch) (D : va_G) (cy : Nat → ClassId) (a : Nat → Nat) (L : List Nat) (c : Nat → Nat → Int32) (g : Nat → Nat → Int64) (r : Nat → Nat → Option Nat) (nl nk : Nat) (hL : zLv L nl nk) (hM : RM r) (d : Nat → Nat → Int32) (hI : CI d nl nk) (x : Nat → Nat → Nat) (hX : XL d nl x) (hK : LK d c nl nk x) (v : Int32) : zPI l yX8_isLetter wsX8_isLetter { frames := 1, cells := 0, slots := 0, locals := 25 } D cy a L c g r [Value.ref (a 300), Value.int v] (fun z => (z = 1 ∧ (0 ≤ v.toInt ∧ v.toInt < (nl : Int))) ∨ (z = 0 ∧ ¬ (0 ≤ v.toInt ∧ v.toInt < (nl : Int)))) := by
  refine z_enter cX8_isLetter 2 (some .boolean) (by decide) (Nat.le_of_ble_eq_true rfl) ?_
  intro p e s m below meth co C hin
  have C : zC p s m _ meth co D cy _ cX8_isLetter 2 (some .boolean) wsX8_isLetter RX8 := C
  have i8 : ∀ w ∈ wsX80, w ∈ wsX8_isLetter := by decide +kernel
  have h16 := CI_nl16 hI
  refine z_iload_n C dX8_isLetter_0 rfl (q := 1) rfl ?_
  refine z_i2l C dX8_isLetter_1 (v := v.toInt64) rfl ?_
  refine z_lconst C dX8_isLetter_2 (v := 0) (by decide) ?_
  refine z_aload_n C dX8_isLetter_3 rfl (q := 0) rfl ?_
  refine zg_X8_letters C (k := 300) (hL _ (by unfold live; omega)) (by rfl) i8 (by decide +kernel) (v := nI nl) (LK_nl hK) dX8_isLetter_4 ?_
  refine z_iconst C dX8_isLetter_7 (v := 1) (by decide) ?_
  refine z_isub C dX8_isLetter_8 (v := (nI nl) - 1) rfl ?_
  refine z_i2l C dX8_isLetter_9 (v := ((nI nl) - 1).toInt64) rfl ?_
  refine z_pI C (z_runS C (As := [Value.long (v.toInt64), Value.long 0, Value.long (((nI nl) - 1).toInt64)]) (rest := []) (c_X8_in l D cy a L c g r v.toInt64 0 (((nI nl) - 1).toInt64) (V := v.toInt) (LO := 0) (HI := ((nl : Nat) : Int) - 1) (tL rfl) (show (0 : Int64).toInt = 0 from by decide) (tL (tI_pred (by omega)))) (va_cwS 3 C.2.2.2.2.2.1 gX8_isLetter_X8_in rfl rfl rfl (by decide +kernel) ⟨Nat.le_of_ble_eq_true rfl, Nat.le_of_ble_eq_true rfl⟩) rfl rfl (Nat.le_of_ble_eq_true rfl) dX8_isLetter_10 ⟨Nat.zero_le _, Nat.zero_le _⟩) (fun v10 e10 => ?_)
  rcases e10 with ⟨rfl, e10⟩ | ⟨rfl, e10⟩
  · exact z_zret C rfl (Nat.le_refl _) (Nat.le_refl _) dX8_isLetter_13 rfl ⟨rfl, Or.inl ⟨rfl, by omega⟩⟩
  · exact z_zret C rfl (Nat.le_refl _) (Nat.le_refl _) dX8_isLetter_13 rfl ⟨rfl, Or.inr ⟨rfl, by omega⟩⟩

set_option maxHeartbeats 4000000 in
set_option maxRecDepth 100000 in
theorem c_X8_isWord (l : Launch) (D : va_G) (cy : Nat → ClassId) (a : Nat → Nat) (L : List Nat) (c : Nat → Nat → Int32) (g : Nat → Nat → Int64) (r : Nat → Nat → Option Nat) (v : Int32) : zPI l yX8_isWord wsX8_isWord { frames := 1, cells := 0, slots := 0, locals := 25 } D cy a L c g r [Value.int v] (fun z => (z = 1 ∧ (0 ≤ v.toInt ∧ v.toInt ≤ 7)) ∨ (z = 0 ∧ ¬ (0 ≤ v.toInt ∧ v.toInt ≤ 7))) := by
  refine z_enter cX8_isWord 1 (some .boolean) (by decide) (Nat.le_of_ble_eq_true rfl) ?_
  intro p e s m below meth co C hin
  have C : zC p s m _ meth co D cy _ cX8_isWord 1 (some .boolean) wsX8_isWord RX8 := C
  refine z_iload_n C dX8_isWord_0 rfl (q := 0) rfl ?_
  refine z_i2l C dX8_isWord_1 (v := v.toInt64) rfl ?_
  refine z_lconst C dX8_isWord_2 (v := 0) (by decide) ?_
  refine z_ldc2 C dX8_isWord_3 (v := 7) (by decide +kernel) ?_
  refine z_pI C (z_runS C (As := [Value.long (v.toInt64), Value.long 0, Value.long 7]) (rest := []) (c_X8_in l D cy a L c g r v.toInt64 0 7 (V := v.toInt) (LO := 0) (HI := 7) (tL rfl) (show (0 : Int64).toInt = 0 from by decide) (show (7 : Int64).toInt = 7 from by decide)) (va_cwS 3 C.2.2.2.2.2.1 gX8_isWord_X8_in rfl rfl rfl (by decide +kernel) ⟨Nat.le_of_ble_eq_true rfl, Nat.le_of_ble_eq_true rfl⟩) rfl rfl (Nat.le_of_ble_eq_true rfl) dX8_isWord_6 ⟨Nat.zero_le _, Nat.zero_le _⟩) (fun v6 e6 => ?_)
  rcases e6 with ⟨rfl, e6⟩ | ⟨rfl, e6⟩
  · exact z_zret C rfl (Nat.le_refl _) (Nat.le_refl _) dX8_isWord_9 rfl ⟨rfl, Or.inl ⟨rfl, by omega⟩⟩
  · exact z_zret C rfl (Nat.le_refl _) (Nat.le_refl _) dX8_isWord_9 rfl ⟨rfl, Or.inr ⟨rfl, by omega⟩⟩

set_option maxHeartbeats 4000000 in
set_option maxRecDepth 100000 in
theorem c_X8_isWeek (l : Launch) (D : va_G) (cy : Nat → ClassId) (a : Nat → Nat) (L : List Nat) (c : Nat → Nat → Int32) (g : Nat → Nat → Int64) (r : Nat → Nat → Option Nat) (v : Int32) : zPI l yX8_isWeek wsX8_isWeek { frames := 1, cells := 0, slots := 0, locals := 25 } D cy a L c g r [Value.int v] (fun z => (z = 1 ∧ (0 ≤ v.toInt ∧ v.toInt ≤ 51)) ∨ (z = 0 ∧ ¬ (0 ≤ v.toInt ∧ v.toInt ≤ 51))) := by
  refine z_enter cX8_isWeek 1 (some .boolean) (by decide) (Nat.le_of_ble_eq_true rfl) ?_
  intro p e s m below meth co C hin
  have C : zC p s m _ meth co D cy _ cX8_isWeek 1 (some .boolean) wsX8_isWeek RX8 := C
  refine z_iload_n C dX8_isWeek_0 rfl (q := 0) rfl ?_
  refine z_i2l C dX8_isWeek_1 (v := v.toInt64) rfl ?_
  refine z_lconst C dX8_isWeek_2 (v := 0) (by decide) ?_
  refine z_ldc2 C dX8_isWeek_3 (v := 51) (by decide +kernel) ?_
  refine z_pI C (z_runS C (As := [Value.long (v.toInt64), Value.long 0, Value.long 51]) (rest := []) (c_X8_in l D cy a L c g r v.toInt64 0 51 (V := v.toInt) (LO := 0) (HI := 51) (tL rfl) (show (0 : Int64).toInt = 0 from by decide) (show (51 : Int64).toInt = 51 from by decide)) (va_cwS 3 C.2.2.2.2.2.1 gX8_isWeek_X8_in rfl rfl rfl (by decide +kernel) ⟨Nat.le_of_ble_eq_true rfl, Nat.le_of_ble_eq_true rfl⟩) rfl rfl (Nat.le_of_ble_eq_true rfl) dX8_isWeek_6 ⟨Nat.zero_le _, Nat.zero_le _⟩) (fun v6 e6 => ?_)
  rcases e6 with ⟨rfl, e6⟩ | ⟨rfl, e6⟩
  · exact z_zret C rfl (Nat.le_refl _) (Nat.le_refl _) dX8_isWeek_9 rfl ⟨rfl, Or.inl ⟨rfl, by omega⟩⟩
  · exact z_zret C rfl (Nat.le_refl _) (Nat.le_refl _) dX8_isWeek_9 rfl ⟨rfl, Or.inr ⟨rfl, by omega⟩⟩

set_option maxHeartbeats 4000000 in
set_option maxRecDepth 100000 in
theorem c_X8_isSheet (l : Launch) (D : va_G) (cy : Nat → ClassId) (a : Nat → Nat) (L : List Nat) (c : Nat → Nat → Int32) (g : Nat → Nat → Int64) (r : Nat → Nat → Option Nat) (v : Int32) : zPI l yX8_isSheet wsX8_isSheet { frames := 1, cells := 0, slots := 0, locals := 25 } D cy a L c g r [Value.int v] (fun z => (z = 1 ∧ (0 ≤ v.toInt ∧ v.toInt ≤ 3)) ∨ (z = 0 ∧ ¬ (0 ≤ v.toInt ∧ v.toInt ≤ 3))) := by
  refine z_enter cX8_isSheet 1 (some .boolean) (by decide) (Nat.le_of_ble_eq_true rfl) ?_
  intro p e s m below meth co C hin
  have C : zC p s m _ meth co D cy _ cX8_isSheet 1 (some .boolean) wsX8_isSheet RX8 := C
  refine z_iload_n C dX8_isSheet_0 rfl (q := 0) rfl ?_
  refine z_i2l C dX8_isSheet_1 (v := v.toInt64) rfl ?_
  refine z_lconst C dX8_isSheet_2 (v := 0) (by decide) ?_
  refine z_ldc2 C dX8_isSheet_3 (v := 3) (by decide +kernel) ?_
  refine z_pI C (z_runS C (As := [Value.long (v.toInt64), Value.long 0, Value.long 3]) (rest := []) (c_X8_in l D cy a L c g r v.toInt64 0 3 (V := v.toInt) (LO := 0) (HI := 3) (tL rfl) (show (0 : Int64).toInt = 0 from by decide) (show (3 : Int64).toInt = 3 from by decide)) (va_cwS 3 C.2.2.2.2.2.1 gX8_isSheet_X8_in rfl rfl rfl (by decide +kernel) ⟨Nat.le_of_ble_eq_true rfl, Nat.le_of_ble_eq_true rfl⟩) rfl rfl (Nat.le_of_ble_eq_true rfl) dX8_isSheet_6 ⟨Nat.zero_le _, Nat.zero_le _⟩) (fun v6 e6 => ?_)
  rcases e6 with ⟨rfl, e6⟩ | ⟨rfl, e6⟩
  · exact z_zret C rfl (Nat.le_refl _) (Nat.le_refl _) dX8_isSheet_9 rfl ⟨rfl, Or.inl ⟨rfl, by omega⟩⟩
  · exact z_zret C rfl (Nat.le_refl _) (Nat.le_refl _) dX8_isSheet_9 rfl ⟨rfl, Or.inr ⟨rfl, by omega⟩⟩

set_option maxHeartbeats 4000000 in
set_option maxRecDepth 100000 in
theorem c_X8_met (l : Launch) (D : va_G) (cy : Nat → ClassId) (a : Nat → Nat) (L : List Nat) (c : Nat → Nat → Int32) (g : Nat → Nat → Int64) (r : Nat → Nat → Option Nat) (nl nk : Nat) (hL : zLv L nl nk) (n : Int32) : zCI l yX8_met wsX8_met { frames := 0, cells := 0, slots := 0, locals := 0 } D cy a L c g r [Value.ref (a 300), Value.int n] (fun v c' => v = -10 - n ∧ c' = up2 c 300 27 n) := by
  refine z_enter cX8_met 2 (some .int) (by decide) (Nat.le_of_ble_eq_true rfl) ?_
  intro p e s m below meth co C hin
  have C : zC p s m _ meth co D cy _ cX8_met 2 (some .int) wsX8_met RX8 := C
  have i8 : ∀ w ∈ wsX80, w ∈ wsX8_met := by decide +kernel
  refine z_aload_n C dX8_met_0 rfl (q := 0) rfl ?_
  refine z_iload_n C dX8_met_1 rfl (q := 1) rfl ?_
  refine zp_X8_latest C (k := 300) (hL _ (by unfold live; omega)) (by rfl) i8 (by decide +kernel) dX8_met_2 ?_
  refine z_bipush C dX8_met_5 (v := -10) (by decide) ?_
  refine z_iload_n C dX8_met_7 rfl (q := 1) rfl ?_
  refine z_isub C dX8_met_8 (v := (-10) - n) rfl ?_
  exact z_iret C rfl (Nat.le_refl _) (Nat.le_refl _) dX8_met_9 ⟨_, rfl, rfl, rfl⟩

set_option maxHeartbeats 4000000 in
set_option maxRecDepth 100000 in
theorem c_X8_wideOf (l : Launch) (D : va_G) (cy : Nat → ClassId) (a : Nat → Nat) (L : List Nat) (c : Nat → Nat → Int32) (g : Nat → Nat → Int64) (r : Nat → Nat → Option Nat) (nl nk : Nat) (hL : zLv L nl nk) (hM : RM r) (d : Nat → Nat → Int32) (hI : CI d nl nk) (x : Nat → Nat → Nat) (hX : XL d nl x) (hK : LK d c nl nk x) (w : Nat) (hw : w < 8) : zPI l yX8_wideOf wsX8_wideOf { frames := 0, cells := 0, slots := 0, locals := 0 } D cy a L c g r [Value.ref (a 300), Value.int (nI w)] (fun v => v = nI (wideC d x w)) := by
  refine z_enter cX8_wideOf 4 (some .int) (by decide) (Nat.le_of_ble_eq_true rfl) ?_
  intro p e s m below meth co C hin
  have C : zC p s m _ meth co D cy _ cX8_wideOf 4 (some .int) wsX8_wideOf RX8 := C
  have i8 : ∀ w ∈ wsX80, w ∈ wsX8_wideOf := by decide +kernel
  have h16 := CI_nl16 hI
  have hz := (CI_sz hI hw).2
  refine z_iconst C dX8_wideOf_0 (v := nI 0) (by decide) ?_
  refine z_istore_n C dX8_wideOf_1 rfl (by decide) (lv' := [(2, Value.int (nI 0)), (0, Value.ref (a 300)), (1, Value.int (nI w))]) rfl ?_
  refine z_iconst C dX8_wideOf_2 (v := nI 0) (by decide) ?_
  refine z_istore_n C dX8_wideOf_3 rfl (by decide) (lv' := [(3, Value.int (nI 0)), (2, Value.int (nI 0)), (0, Value.ref (a 300)), (1, Value.int (nI w))]) rfl ?_
  refine z_for 0 ((nn d (20 + w) 1)) (Nat.zero_le _) (fun i => [(3, Value.int (nI i)), (2, Value.int (nI (sumF (fun i => nn d (100 + x w i) 0 + nn d 3 2) i))), (0, Value.ref (a 300)), (1, Value.int (nI w))]) (fun i => c) (fun i => g) ?_ ?_
  · refine z_iload_n C dX8_wideOf_4 rfl (q := 0) rfl ?_
    refine z_aload_n C dX8_wideOf_5 rfl (q := 2) rfl ?_
    refine zg_X8_spelled C (k := 300) (hL _ (by unfold live; omega)) (by rfl) i8 (by decide +kernel) (k' := 307) (RM_spelled hM) dX8_wideOf_6 ?_
    refine z_iload_n C dX8_wideOf_9 rfl (q := 3) rfl ?_
    refine z_iaload C (k := 307) (hL _ (by unfold live; omega)) (by rfl) (j := w) rfl (by rw [show ln 307 = 8 from rfl]; omega) (by rw [show ln 307 = 8 from rfl]; decide) (v := nI (nn d (20 + w) 1)) (LK_sz hK hI hw) dX8_wideOf_10 ?_
    refine z_icmp_ge C dX8_wideOf_11 (tgt := 44) (by decide) (fun h11 => ?_) (fun h11 => absurd (Int32.le_refl _) h11)
    refine z_iload_n C dX8_wideOf_44 rfl (q := 1) rfl ?_
    exact z_iret C rfl (Nat.le_refl _) (Nat.le_refl _) dX8_wideOf_45 ⟨rfl, rfl⟩
  · intro i hli hi ihi
    have hx := hX w hw i hi
    refine z_iload_n C dX8_wideOf_4 rfl (q := 0) rfl ?_
    refine z_aload_n C dX8_wideOf_5 rfl (q := 2) rfl ?_
    refine zg_X8_spelled C (k := 300) (hL _ (by unfold live; omega)) (by rfl) i8 (by decide +kernel) (k' := 307) (RM_spelled hM) dX8_wideOf_6 ?_
    refine z_iload_n C dX8_wideOf_9 rfl (q := 3) rfl ?_
    refine z_iaload C (k := 307) (hL _ (by unfold live; omega)) (by rfl) (j := w) rfl (by rw [show ln 307 = 8 from rfl]; omega) (by rw [show ln 307 = 8 from rfl]; decide) (v := nI (nn d (20 + w) 1)) (LK_sz hK hI hw) dX8_wideOf_10 ?_
    refine z_icmp_ge C dX8_wideOf_11 (tgt := 44) (by decide) (fun h11 => absurd h11 (nI_ge hi (by omega))) (fun h11 => ?_)
    refine z_iload_n C dX8_wideOf_14 rfl (q := 1) rfl ?_
    refine z_aload_n C dX8_wideOf_15 rfl (q := 2) rfl ?_
    refine zg_X8_width C (k := 300) (hL _ (by unfold live; omega)) (by rfl) i8 (by decide +kernel) (k' := 303) (RM_width hM) dX8_wideOf_16 ?_
    refine z_aload_n C dX8_wideOf_19 rfl (q := 2) rfl ?_
    refine zg_X8_words C (k := 300) (hL _ (by unfold live; omega)) (by rfl) i8 (by decide +kernel) (k' := 308) (RM_words hM) dX8_wideOf_20 ?_
    refine z_bipush C dX8_wideOf_23 (v := 10) (by decide) ?_
    refine z_iload_n C dX8_wideOf_25 rfl (q := 3) rfl ?_
    refine z_imul C dX8_wideOf_26 (v := nI (10 * w)) (pk_mul 10 w) ?_
    refine z_iload_n C dX8_wideOf_27 rfl (q := 0) rfl ?_
    refine z_iadd C dX8_wideOf_28 (v := nI ((10 * w) + i)) (nI_add (10 * w) i) ?_
    refine z_iaload C (k := 308) (hL _ (by unfold live; omega)) (by rfl) (j := ((10 * w) + i)) rfl (by rw [show ln 308 = 80 from rfl]; omega) (by rw [show ln 308 = 80 from rfl]; decide) (v := nI (x w i)) (LK_x hK hw hi) dX8_wideOf_29 ?_
    refine z_iaload C (k := 303) (hL _ (by unfold live; omega)) (by rfl) (j := (x w i)) rfl (by rw [show ln 303 = 16 from rfl]; omega) (by rw [show ln 303 = 16 from rfl]; decide) (v := nI (nn d (100 + x w i) 0)) (LK_wi hK hI hx) dX8_wideOf_30 ?_
    refine z_aload_n C dX8_wideOf_31 rfl (q := 2) rfl ?_
    refine zg_X8_gap C (k := 300) (hL _ (by unfold live; omega)) (by rfl) i8 (by decide +kernel) (v := nI (nn d 3 2)) (LK_G hK hI) dX8_wideOf_32 ?_
    refine z_iadd C dX8_wideOf_35 (v := nI ((nn d (100 + x w i) 0) + (nn d 3 2))) (nI_add (nn d (100 + x w i) 0) (nn d 3 2)) ?_
    refine z_iadd C dX8_wideOf_36 (v := nI (sumF (fun i => nn d (100 + x w i) 0 + nn d 3 2) (i + 1))) (nI_add _ _) ?_
    refine z_istore_n C dX8_wideOf_37 rfl (by decide) (lv' := [(2, Value.int (nI (sumF (fun i => nn d (100 + x w i) 0 + nn d 3 2) (i + 1)))), (3, Value.int (nI i)), (0, Value.ref (a 300)), (1, Value.int (nI w))]) rfl ?_
    refine z_iinc C dX8_wideOf_38 (q := 1) rfl (v := nI (i + 1)) (nI_1 _) (by decide) (lv' := [(3, Value.int (nI (i + 1))), (2, Value.int (nI (sumF (fun i => nn d (100 + x w i) 0 + nn d 3 2) (i + 1)))), (0, Value.ref (a 300)), (1, Value.int (nI w))]) rfl ?_
    refine z_goto C dX8_wideOf_41 (tgt := 4) (by decide) ?_
    exact ihi

theorem wideD_le {d : Nat → Nat → Int32} {nl nk : Nat} (hI : CI d nl nk) {x : Nat → Nat → Nat} (hX : XL d nl x) {w : Nat} (hw : w < 8) : wideC d x w ≤ 80 := by
  have h1 := (CI_sz hI hw).2.2
  have h2 : wideC d x w ≤ nn d (20 + w) 1 * 8 := sumF_le (fun i hi => by
    have h3 := (CI_wi hI (hX w hw i hi)).2.2
    have h4 := (CI_G hI).2.2
    omega)
  omega

set_option maxHeartbeats 4000000 in
set_option maxRecDepth 100000 in
theorem c_X8_fits (l : Launch) (D : va_G) (cy : Nat → ClassId) (a : Nat → Nat) (L : List Nat) (c : Nat → Nat → Int32) (g : Nat → Nat → Int64) (r : Nat → Nat → Option Nat) (nl nk : Nat) (hL : zLv L nl nk) (hM : RM r) (d : Nat → Nat → Int32) (hI : CI d nl nk) (x : Nat → Nat → Nat) (hX : XL d nl x) (hK : LK d c nl nk x) (w : Nat) (hw : w < 8) : zPI l yX8_fits wsX8_fits { frames := 1, cells := 0, slots := 0, locals := 23 } D cy a L c g r [Value.ref (a 300), Value.int (nI w)] (fun v => (v = 1 ∧ (0 < nn d (20 + w) 1 ∧ wideC d x w ≤ nn d 3 1)) ∨ (v = 0 ∧ ¬ (0 < nn d (20 + w) 1 ∧ wideC d x w ≤ nn d 3 1))) := by
  refine z_enter cX8_fits 2 (some .boolean) (by decide) (Nat.le_of_ble_eq_true rfl) ?_
  intro p e s m below meth co C hin
  have C : zC p s m _ meth co D cy _ cX8_fits 2 (some .boolean) wsX8_fits RX8 := C
  have i8 : ∀ w ∈ wsX80, w ∈ wsX8_fits := by decide +kernel
  have hs := (CI_S hI).2
  have hz := (CI_sz hI hw).2
  refine z_aload_n C dX8_fits_0 rfl (q := 0) rfl ?_
  refine zg_X8_spelled C (k := 300) (hL _ (by unfold live; omega)) (by rfl) i8 (by decide +kernel) (k' := 307) (RM_spelled hM) dX8_fits_1 ?_
  refine z_iload_n C dX8_fits_4 rfl (q := 1) rfl ?_
  refine z_iaload C (k := 307) (hL _ (by unfold live; omega)) (by rfl) (j := w) rfl (by rw [show ln 307 = 8 from rfl]; omega) (by rw [show ln 307 = 8 from rfl]; decide) (v := nI (nn d (20 + w) 1)) (LK_sz hK hI hw) dX8_fits_5 ?_
  refine z_if_le C dX8_fits_6 (tgt := 25) (by decide) (fun h6 => ?_) (fun h6 => ?_)
  · have q6 := iv_le (nI_toInt (by omega)) (show (0 : Int32).toInt = 0 from by decide) h6
    refine z_iconst C dX8_fits_25 (v := 0) (by decide) ?_
    exact z_zret C rfl (Nat.le_refl _) (Nat.le_refl _) dX8_fits_26 rfl ⟨rfl, Or.inr ⟨rfl, by omega⟩⟩
  · have q6 := iv_nle (nI_toInt (by omega)) (show (0 : Int32).toInt = 0 from by decide) h6
    refine z_aload_n C dX8_fits_9 rfl (q := 0) rfl ?_
    refine z_iload_n C dX8_fits_10 rfl (q := 1) rfl ?_
    refine z_pI C (z_runV C (As := [Value.int (nI w)]) (rest := []) (c_X8_wideOf l D cy a L c g r nl nk hL hM d hI x hX hK w (by omega)) (cwV 1 C.2.2.2.2.2.1 gX8_fits_X8_wideOf rfl rfl rfl (by decide +kernel) ⟨Nat.le_of_ble_eq_true rfl, Nat.le_of_ble_eq_true rfl⟩) (hL _ (by unfold live; omega)) (zF_k8 (by rfl)) rfl rfl rfl rfl (Nat.le_of_ble_eq_true rfl) dX8_fits_11 ⟨Nat.zero_le _, Nat.zero_le _⟩) (fun v11 e11 => ?_)
    subst e11
    have hwl := wideD_le hI hX hw
    refine z_aload_n C dX8_fits_14 rfl (q := 0) rfl ?_
    refine zg_X8_slots C (k := 300) (hL _ (by unfold live; omega)) (by rfl) i8 (by decide +kernel) (v := nI (nn d 3 1)) (LK_S hK hI) dX8_fits_15 ?_
    refine z_icmp_gt C dX8_fits_18 (tgt := 25) (by decide) (fun h18 => ?_) (fun h18 => ?_)
    · have q18 := iv_lt (nI_toInt (by omega)) (nI_toInt (by omega)) h18
      refine z_iconst C dX8_fits_25 (v := 0) (by decide) ?_
      exact z_zret C rfl (Nat.le_refl _) (Nat.le_refl _) dX8_fits_26 rfl ⟨rfl, Or.inr ⟨rfl, by omega⟩⟩
    · have q18 := iv_nlt (nI_toInt (by omega)) (nI_toInt (by omega)) h18
      refine z_iconst C dX8_fits_21 (v := 1) (by decide) ?_
      refine z_goto C dX8_fits_22 (tgt := 26) (by decide) ?_
      exact z_zret C rfl (Nat.le_refl _) (Nat.le_refl _) dX8_fits_26 rfl ⟨rfl, Or.inl ⟨rfl, by omega⟩⟩
