/-! ===== STATE: which codes live, what refers to what, the class's ints ===== -/
def live (nl nk k : Nat) : Prop := k < 12 ∨ (20 ≤ k ∧ k < 28) ∨ (30 ≤ k ∧ k < 38) ∨ (40 ≤ k ∧ k < 44) ∨ (50 ≤ k ∧ k < 54) ∨ (100 ≤ k ∧ k < 100 + nl) ∨ (120 ≤ k ∧ k < 120 + nl) ∨ (200 ≤ k ∧ k < 200 + nk) ∨ (k = 300 ∨ k = 301 ∨ (303 ≤ k ∧ k ≤ 308) ∨ k = 311 ∨ k = 315 ∨ k = 319 ∨ (322 ≤ k ∧ k ≤ 327))
def zLv (L : List Nat) (nl nk : Nat) : Prop := ∀ k, live nl nk k → k ∈ L
theorem kd_w {w : Nat} (h : w < 8) : kd (20 + w) = 6 := by
  unfold kd; rw [if_neg (by omega), if_pos (by omega)]
theorem kd_wl {w : Nat} (h : w < 8) : kd (30 + w) = 11 := by
  unfold kd; rw [if_neg (by omega), if_neg (by omega), if_pos (by omega)]
theorem kd_s {w : Nat} (h : w < 4) : kd (40 + w) = 4 := by
  unfold kd; rw [if_neg (by omega), if_neg (by omega), if_neg (by omega), if_pos (by omega)]
theorem kd_it {w : Nat} (h : w < 4) : kd (50 + w) = 9 := by
  unfold kd; rw [if_neg (by omega), if_neg (by omega), if_neg (by omega), if_neg (by omega), if_pos (by omega)]
theorem kd_l {w : Nat} (h : w < 16) : kd (100 + w) = 0 := by
  unfold kd; rw [if_neg (by omega), if_neg (by omega), if_neg (by omega), if_neg (by omega), if_neg (by omega), if_pos (by omega)]
theorem kd_st {w : Nat} (h : w < 16) : kd (120 + w) = 9 := by
  unfold kd; rw [if_neg (by omega), if_neg (by omega), if_neg (by omega), if_neg (by omega), if_neg (by omega), if_neg (by omega), if_pos (by omega)]
theorem kd_k {w : Nat} (h : w < 40) : kd (200 + w) = 1 := by
  unfold kd; rw [if_neg (by omega), if_neg (by omega), if_neg (by omega), if_neg (by omega), if_neg (by omega), if_neg (by omega), if_neg (by omega), if_pos (by omega)]
theorem ln_wl {w : Nat} (h : w < 8) : ln (30 + w) = 10 := by
  unfold ln; rw [if_neg (by omega), if_neg (by omega), if_pos (by omega)]
theorem ln_it {w : Nat} (h : w < 4) : ln (50 + w) = 60 := by
  unfold ln; rw [if_neg (by omega), if_neg (by omega), if_neg (by omega), if_neg (by omega), if_pos (by omega)]
theorem ln_st {w : Nat} (h : w < 16) : ln (120 + w) = 5 := by
  unfold ln; rw [if_neg (by omega), if_neg (by omega), if_neg (by omega), if_neg (by omega), if_neg (by omega), if_neg (by omega), if_pos (by omega)]
/-- the class's references -/
def RC (r : Nat → Nat → Option Nat) (nl nk : Nat) : Prop :=
  (r 0 0 = some 1 ∧ r 0 2 = some 2 ∧ r 0 3 = some 3 ∧ r 0 4 = some 5 ∧ r 0 5 = some 6 ∧ r 0 6 = some 8 ∧ r 0 7 = some 9 ∧ r 0 8 = some 10 ∧ r 0 9 = some 11 ∧ r 3 0 = some 4 ∧ r 6 0 = some 7)
  ∧ (∀ w, w < 8 → r 2 w = some (20 + w) ∧ r (20 + w) 0 = some (30 + w)) ∧ (∀ w, w < 4 → r 11 w = some (40 + w) ∧ r (40 + w) 0 = some (50 + w))
  ∧ (∀ i, i < nl → r 1 i = some (100 + i) ∧ r (100 + i) 3 = some (120 + i)) ∧ (∀ k, k < nk → r 7 k = some (200 + k))
section RCS
variable {r : Nat → Nat → Option Nat} {nl nk : Nat}
theorem RC_alphabet (h : RC r nl nk) : r 0 0 = some 1 := h.1.1
theorem RC_wordRow (h : RC r nl nk) : r 0 2 = some 2 := h.1.2.1
theorem RC_ring (h : RC r nl nk) : r 0 3 = some 3 := h.1.2.2.1
theorem RC_settings (h : RC r nl nk) : r 0 4 = some 5 := h.1.2.2.2.1
theorem RC_lumpBook (h : RC r nl nk) : r 0 5 = some 6 := h.1.2.2.2.2.1
theorem RC_dampWeeks (h : RC r nl nk) : r 0 6 = some 8 := h.1.2.2.2.2.2.1
theorem RC_madeIn (h : RC r nl nk) : r 0 7 = some 9 := h.1.2.2.2.2.2.2.1
theorem RC_stockRun (h : RC r nl nk) : r 0 8 = some 10 := h.1.2.2.2.2.2.2.2.1
theorem RC_sheetRow (h : RC r nl nk) : r 0 9 = some 11 := h.1.2.2.2.2.2.2.2.2.1
theorem RC_laid (h : RC r nl nk) : r 3 0 = some 4 := h.1.2.2.2.2.2.2.2.2.2.1
theorem RC_lumps (h : RC r nl nk) : r 6 0 = some 7 := h.1.2.2.2.2.2.2.2.2.2.2
theorem RC_word (h : RC r nl nk) {w : Nat} (hw : w < 8) : r 2 w = some (20 + w) := (h.2.1 w hw).1
theorem RC_letters (h : RC r nl nk) {w : Nat} (hw : w < 8) : r (20 + w) 0 = some (30 + w) := (h.2.1 w hw).2
theorem RC_sheet (h : RC r nl nk) {w : Nat} (hw : w < 4) : r 11 w = some (40 + w) := (h.2.2.1 w hw).1
theorem RC_items (h : RC r nl nk) {w : Nat} (hw : w < 4) : r (40 + w) 0 = some (50 + w) := (h.2.2.1 w hw).2
theorem RC_alpha (h : RC r nl nk) {w : Nat} (hw : w < nl) : r 1 w = some (100 + w) := (h.2.2.2.1 w hw).1
theorem RC_strips (h : RC r nl nk) {w : Nat} (hw : w < nl) : r (100 + w) 3 = some (120 + w) := (h.2.2.2.1 w hw).2
theorem RC_lump (h : RC r nl nk) {w : Nat} (hw : w < nk) : r 7 w = some (200 + w) := h.2.2.2.2 w hw
end RCS
/-- the reference's references -/
def RM (r : Nat → Nat → Option Nat) : Prop := (r 300 0 = some 301 ∧ r 300 2 = some 303 ∧ r 300 3 = some 304 ∧ r 300 4 = some 305 ∧ r 300 5 = some 306 ∧ r 300 6 = some 307 ∧ r 300 7 = some 308 ∧ r 300 10 = some 311) ∧ (r 300 14 = some 315 ∧ r 300 18 = some 319 ∧ r 300 21 = some 322 ∧ r 300 22 = some 323 ∧ r 300 23 = some 324 ∧ r 300 24 = some 325 ∧ r 300 25 = some 326 ∧ r 300 26 = some 327)
section RMS
variable {r : Nat → Nat → Option Nat}
theorem RM_told (h : RM r) : r 300 0 = some 301 := h.1.1
theorem RM_width (h : RM r) : r 300 2 = some 303 := h.1.2.1
theorem RM_minutes (h : RM r) : r 300 3 = some 304 := h.1.2.2.1
theorem RM_soft (h : RM r) : r 300 4 = some 305 := h.1.2.2.2.1
theorem RM_strips (h : RM r) : r 300 5 = some 306 := h.1.2.2.2.2.1
theorem RM_spelled (h : RM r) : r 300 6 = some 307 := h.1.2.2.2.2.2.1
theorem RM_words (h : RM r) : r 300 7 = some 308 := h.1.2.2.2.2.2.2.1
theorem RM_laid (h : RM r) : r 300 10 = some 311 := h.1.2.2.2.2.2.2.2
theorem RM_order (h : RM r) : r 300 14 = some 315 := h.2.1
theorem RM_made (h : RM r) : r 300 18 = some 319 := h.2.2.1
theorem RM_isDamp (h : RM r) : r 300 21 = some 322 := h.2.2.2.1
theorem RM_makes (h : RM r) : r 300 22 = some 323 := h.2.2.2.2.1
theorem RM_forms (h : RM r) : r 300 23 = some 324 := h.2.2.2.2.2.1
theorem RM_sizes (h : RM r) : r 300 24 = some 325 := h.2.2.2.2.2.2.1
theorem RM_items (h : RM r) : r 300 25 = some 326 := h.2.2.2.2.2.2.2.1
theorem RM_moved (h : RM r) : r 300 26 = some 327 := h.2.2.2.2.2.2.2.2
end RMS
/-- a cell's int as a natural number -/
def nn (c : Nat → Nat → Int32) (k j : Nat) : Nat := (c k j).toNatClampNeg
/-- the int at (k, j) is a natural number from lo to hi -/
def rng (c : Nat → Nat → Int32) (k j lo hi : Nat) : Prop := c k j = nI (nn c k j) ∧ lo ≤ nn c k j ∧ nn c k j ≤ hi
theorem rng_of {c : Nat → Nat → Int32} {k j n lo hi : Nat} (h : c k j = nI n) (h1 : lo ≤ n) (h2 : n ≤ hi) (h3 : hi < 2 ^ 31) : rng c k j lo hi := by
  have e : nn c k j = n := by unfold nn; rw [h, nI_clamp (by omega)]
  unfold rng; rw [e]; exact ⟨h, h1, h2⟩
theorem nn_of {c : Nat → Nat → Int32} {k j n : Nat} (h : c k j = nI n) (h3 : n < 2 ^ 31) : nn c k j = n := by unfold nn; rw [h, nI_clamp h3]
/-- the class's ints -/
def CI (c : Nat → Nat → Int32) (nl nk : Nat) : Prop :=
  (nl ≤ 16 ∧ nk ≤ 40 ∧ c 0 1 = nI nl ∧ c 6 1 = nI nk) ∧ (rng c 3 1 5 60 ∧ rng c 3 2 0 3)
  ∧ (∀ w, w < 8 → rng c (20 + w) 1 0 10)
  ∧ (∀ i, i < nl → rng c (100 + i) 0 1 5 ∧ rng c (100 + i) 1 1 9 ∧ rng c (100 + i) 2 1 99 ∧ ∀ j, j < 5 → rng c (120 + i) j 0 31)
  ∧ (rng c 5 0 10 200 ∧ rng c 5 1 0 1000 ∧ rng c 5 2 1 1000 ∧ rng c 5 3 0 100)
  ∧ (∀ k, k < nk → rng c (200 + k) 0 0 7 ∧ rng c (200 + k) 1 0 9 ∧ rng c (200 + k) 2 0 999 ∧ rng c (200 + k) 3 0 1600000 ∧ rng c (200 + k) 4 0 40000 ∧ rng c (200 + k) 5 0 40000)
  ∧ (rng c 6 2 0 (40000 * nk) ∧ rng c 6 3 0 (40000 * nk))
  ∧ (∀ w, w < 4 → rng c (40 + w) 1 0 1 ∧ rng c (40 + w) 2 0 2 ∧ rng c (40 + w) 3 0 60)
  ∧ (∀ w, w < 52 → rng c 8 w 0 1 ∧ rng c 9 w 0 10000)
/-- the letters of the words: x w i is the number of the i-th letter of word w -/
def XC (c : Nat → Nat → Int32) (r : Nat → Nat → Option Nat) (nl : Nat) (x : Nat → Nat → Nat) : Prop := ∀ w, w < 8 → ∀ i, i < nn c (20 + w) 1 → r (30 + w) i = some (100 + x w i) ∧ x w i < nl
theorem XC_r {c : Nat → Nat → Int32} {r : Nat → Nat → Option Nat} {nl : Nat} {x : Nat → Nat → Nat} (h : XC c r nl x) {w i : Nat} (hw : w < 8) (hi : i < nn c (20 + w) 1) : r (30 + w) i = some (100 + x w i) := (h w hw i hi).1
theorem XC_l {c : Nat → Nat → Int32} {r : Nat → Nat → Option Nat} {nl : Nat} {x : Nat → Nat → Nat} (h : XC c r nl x) {w i : Nat} (hw : w < 8) (hi : i < nn c (20 + w) 1) : x w i < nl := (h w hw i hi).2
section CIS
variable {c : Nat → Nat → Int32} {nl nk : Nat}
theorem CI_nl16 (h : CI c nl nk) : nl ≤ 16 := h.1.1
theorem CI_nk40 (h : CI c nl nk) : nk ≤ 40 := h.1.2.1
theorem CI_nl (h : CI c nl nk) : c 0 1 = nI nl := h.1.2.2.1
theorem CI_nk (h : CI c nl nk) : c 6 1 = nI nk := h.1.2.2.2
theorem CI_S (h : CI c nl nk) : rng c 3 1 5 60 := h.2.1.1
theorem CI_G (h : CI c nl nk) : rng c 3 2 0 3 := h.2.1.2
theorem CI_sz (h : CI c nl nk) {w : Nat} (hw : w < 8) : rng c (20 + w) 1 0 10 := h.2.2.1 w hw
theorem CI_wi (h : CI c nl nk) {i : Nat} (hi : i < nl) : rng c (100 + i) 0 1 5 := (h.2.2.2.1 i hi).1
theorem CI_mi (h : CI c nl nk) {i : Nat} (hi : i < nl) : rng c (100 + i) 1 1 9 := (h.2.2.2.1 i hi).2.1
theorem CI_so (h : CI c nl nk) {i : Nat} (hi : i < nl) : rng c (100 + i) 2 1 99 := (h.2.2.2.1 i hi).2.2.1
theorem CI_st (h : CI c nl nk) {i : Nat} (hi : i < nl) {j : Nat} (hj : j < 5) : rng c (120 + i) j 0 31 := (h.2.2.2.1 i hi).2.2.2 j hj
theorem CI_set (h : CI c nl nk) : rng c 5 0 10 200 ∧ rng c 5 1 0 1000 ∧ rng c 5 2 1 1000 ∧ rng c 5 3 0 100 := h.2.2.2.2.1
theorem CI_lump (h : CI c nl nk) {k : Nat} (hk : k < nk) : rng c (200 + k) 0 0 7 ∧ rng c (200 + k) 1 0 9 ∧ rng c (200 + k) 2 0 999 ∧ rng c (200 + k) 3 0 1600000 ∧ rng c (200 + k) 4 0 40000 ∧ rng c (200 + k) 5 0 40000 := h.2.2.2.2.2.1 k hk
theorem CI_tot (h : CI c nl nk) : rng c 6 2 0 (40000 * nk) ∧ rng c 6 3 0 (40000 * nk) := h.2.2.2.2.2.2.1
theorem CI_sh (h : CI c nl nk) {w : Nat} (hw : w < 4) : rng c (40 + w) 1 0 1 ∧ rng c (40 + w) 2 0 2 ∧ rng c (40 + w) 3 0 60 := h.2.2.2.2.2.2.2.1 w hw
theorem CI_wk (h : CI c nl nk) {w : Nat} (hw : w < 52) : rng c 8 w 0 1 ∧ rng c 9 w 0 10000 := h.2.2.2.2.2.2.2.2 w hw
end CIS
/-! numbers -/
theorem tI_pred {n : Nat} (h : n < 2 ^ 30) : (nI n - 1).toInt = (n : Int) - 1 := pk_sub_toInt (b := 1) h (by decide)
theorem tI_of {x : Int32} (h : 0 ≤ x.toInt) : x = nI x.toInt.toNat := by
  apply Int32.toInt_inj.mp
  have h2 : x.toInt < 2147483648 := Int32.toInt_lt x
  rw [nI_toInt (by omega)]; omega
theorem tI_lt {x y : Int32} : x < y ↔ x.toInt < y.toInt := Int32.lt_iff_toInt_lt
theorem tI_le {x y : Int32} : x ≤ y ↔ x.toInt ≤ y.toInt := Int32.le_iff_toInt_le
theorem tI_ne {x y : Int32} : ¬ x = y ↔ x.toInt ≠ y.toInt := by rw [← Int32.toInt_inj]
theorem nI_le_iff {a b : Nat} (ha : a < 2 ^ 31) (hb : b < 2 ^ 31) : nI a ≤ nI b ↔ a ≤ b := nI_leI ha hb
def sumF (f : Nat → Nat) : Nat → Nat
  | 0 => 0
  | n + 1 => sumF f n + f n
theorem sumF_le {f : Nat → Nat} {b : Nat} : ∀ {n : Nat}, (∀ i, i < n → f i ≤ b) → sumF f n ≤ n * b
  | 0, _ => by simp [sumF]
  | n + 1, h => by
    have h1 := sumF_le (n := n) (fun i hi => h i (by omega))
    have h2 := h n (by omega)
    rw [sumF, Nat.succ_mul]; omega
theorem sumF_congr {f f' : Nat → Nat} : ∀ {n : Nat}, (∀ i, i < n → f i = f' i) → sumF f n = sumF f' n
  | 0, _ => rfl
  | n + 1, h => by rw [sumF, sumF, sumF_congr (n := n) (fun i hi => h i (by omega)), h n (by omega)]
section ZLOOP
variable {p : Program} {l : Launch} {e : Env} {R : Room} {s : State} {m : MethodId} {args : Array Value} {below : List Frame} {meth : Method} {co : Code}
variable {D : va_G} {cy : Nat → ClassId} {A : Nat → Prop} {nL : Nat} {a : Nat → Nat} {L : List Nat} {c : Nat → Nat → Int32} {g : Nat → Nat → Int64} {r : Nat → Nat → Option Nat} {Q : State → Prop} {cells slots pc : Nat} {lv lv' : List (Nat × Value)} {st : List Value}
theorem z_sub (ks : List Nat) (h : lv_pick lv ks = lv') (kk : zG p l e R s m args below meth co D cy A nL Q cells slots a L c g r lv' pc st) : zG p l e R s m args below meth co D cy A nL Q cells slots a L c g r lv pc st := fun H locs ls hW hS hl => kk H locs ls hW hS (lv_sub hl ks h)
theorem z_ceq {c' : Nat → Nat → Int32} (h : c' = c) (kk : zG p l e R s m args below meth co D cy A nL Q cells slots a L c' g r lv pc st) : zG p l e R s m args below meth co D cy A nL Q cells slots a L c g r lv pc st := h ▸ kk
theorem z_lveq (h : lv' = lv) (kk : zG p l e R s m args below meth co D cy A nL Q cells slots a L c g r lv' pc st) : zG p l e R s m args below meth co D cy A nL Q cells slots a L c g r lv pc st := h ▸ kk
theorem z_steq {st' : List Value} (h : st' = st) (kk : zG p l e R s m args below meth co D cy A nL Q cells slots a L c g r lv pc st') : zG p l e R s m args below meth co D cy A nL Q cells slots a L c g r lv pc st := h ▸ kk
/-- a loop whose state is a function of its counter -/
theorem z_for (i0 n : Nat) (h0 : i0 ≤ n) (lvf : Nat → List (Nat × Value)) (cf : Nat → Nat → Nat → Int32) (gf : Nat → Nat → Nat → Int64) (hx : zG p l e R s m args below meth co D cy A nL Q cells slots a L (cf n) (gf n) r (lvf n) pc [])
    (hs : ∀ i, i0 ≤ i → i < n → zG p l e R s m args below meth co D cy A nL Q cells slots a L (cf (i + 1)) (gf (i + 1)) r (lvf (i + 1)) pc [] → zG p l e R s m args below meth co D cy A nL Q cells slots a L (cf i) (gf i) r (lvf i) pc []) : zG p l e R s m args below meth co D cy A nL Q cells slots a L (cf i0) (gf i0) r (lvf i0) pc [] := by
  have key : ∀ q i, i0 ≤ i → i + q = n → zG p l e R s m args below meth co D cy A nL Q cells slots a L (cf i) (gf i) r (lvf i) pc [] := by
    intro q
    induction q with
    | zero => intro i _ hi; have : i = n := by omega
              subst this; exact hx
    | succ q ih => intro i h1 hi; exact hs i h1 (by omega) (ih (i + 1) (by omega) (by omega))
  exact key (n - i0) i0 (Nat.le_refl _) (by omega)
/-- a loop whose state is a function of its counter, with what is known of it -/
theorem z_forP (I : Nat → Prop) (i0 n : Nat) (h0 : i0 ≤ n) (lvf : Nat → List (Nat × Value)) (cf : Nat → Nat → Nat → Int32) (gf : Nat → Nat → Nat → Int64) (hx : I n → zG p l e R s m args below meth co D cy A nL Q cells slots a L (cf n) (gf n) r (lvf n) pc [])
    (hs : ∀ i, i0 ≤ i → i < n → I i → (I (i + 1) → zG p l e R s m args below meth co D cy A nL Q cells slots a L (cf (i + 1)) (gf (i + 1)) r (lvf (i + 1)) pc []) → zG p l e R s m args below meth co D cy A nL Q cells slots a L (cf i) (gf i) r (lvf i) pc []) (hi : I i0) : zG p l e R s m args below meth co D cy A nL Q cells slots a L (cf i0) (gf i0) r (lvf i0) pc [] := by
  have key : ∀ q i, i0 ≤ i → i + q = n → I i → zG p l e R s m args below meth co D cy A nL Q cells slots a L (cf i) (gf i) r (lvf i) pc [] := by
    intro q
    induction q with
    | zero => intro i _ hi hI; have : i = n := by omega
              subst this; exact hx hI
    | succ q ih => intro i h1 hi hI; exact hs i h1 (by omega) hI (fun h => ih (i + 1) (by omega) (by omega) h)
  exact key (n - i0) i0 (Nat.le_refl _) (by omega) hi
/-- a loop with an invariant over the ints -/
theorem z_forI (I : Nat → (Nat → Nat → Int32) → Prop) (i0 n : Nat) (h0 : i0 ≤ n) (lvf : Nat → List (Nat × Value)) (hx : ∀ c, I n c → zG p l e R s m args below meth co D cy A nL Q cells slots a L c g r (lvf n) pc [])
    (hs : ∀ i c, i0 ≤ i → i < n → I i c → (∀ c', I (i + 1) c' → zG p l e R s m args below meth co D cy A nL Q cells slots a L c' g r (lvf (i + 1)) pc []) → zG p l e R s m args below meth co D cy A nL Q cells slots a L c g r (lvf i) pc []) (hi : I i0 c) : zG p l e R s m args below meth co D cy A nL Q cells slots a L c g r (lvf i0) pc [] := by
  have key : ∀ q i c, i0 ≤ i → i + q = n → I i c → zG p l e R s m args below meth co D cy A nL Q cells slots a L c g r (lvf i) pc [] := by
    intro q
    induction q with
    | zero => intro i c _ hi hI; have : i = n := by omega
              subst this; exact hx c hI
    | succ q ih => intro i c h1 hi hI; exact hs i c h1 (by omega) hI (fun c' h' => ih (i + 1) c' (by omega) (by omega) h')
  exact key (n - i0) i0 c (Nat.le_refl _) (by omega) hi
end ZLOOP
section IV
variable {x y : Int32} {X Y : Int}
theorem iv_lt (hx : x.toInt = X) (hy : y.toInt = Y) (h : x < y) : X < Y := by rw [← hx, ← hy]; exact tI_lt.mp h
theorem iv_nlt (hx : x.toInt = X) (hy : y.toInt = Y) (h : ¬ x < y) : Y ≤ X := by rw [← hx, ← hy]; rw [tI_lt] at h; omega
theorem iv_le (hx : x.toInt = X) (hy : y.toInt = Y) (h : x ≤ y) : X ≤ Y := by rw [← hx, ← hy]; exact tI_le.mp h
theorem iv_nle (hx : x.toInt = X) (hy : y.toInt = Y) (h : ¬ x ≤ y) : Y < X := by rw [← hx, ← hy]; rw [tI_le] at h; omega
theorem iv_eq (hx : x.toInt = X) (hy : y.toInt = Y) (h : x = y) : X = Y := by rw [← hx, ← hy, h]
theorem iv_ne (hx : x.toInt = X) (hy : y.toInt = Y) (h : ¬ x = y) : X ≠ Y := by rw [← hx, ← hy]; exact tI_ne.mp h
end IV
theorem tI_sub {a b : Nat} (ha : a < 2 ^ 30) (hb : b < 2 ^ 30) : (nI a - nI b).toInt = (a : Int) - b := pk_sub_toInt ha hb
theorem lgc_lt {x y : Int64} : lg_cmp x y < 0 ↔ x < y := by
  unfold lg_cmp
  by_cases h1 : x > y
  · rw [if_pos h1]; exact ⟨fun h => absurd h (by decide), fun h => absurd (Int64.lt_trans h h1) Int64.lt_irrefl⟩
  · rw [if_neg h1]
    by_cases h2 : x = y
    · rw [if_pos h2]; subst h2; exact ⟨fun h => absurd h (by decide), fun h => absurd h Int64.lt_irrefl⟩
    · rw [if_neg h2]; exact ⟨fun _ => Int64.lt_of_le_of_ne (Int64.not_lt.mp h1) h2, fun _ => by decide⟩
theorem lgc_gt {x y : Int64} : 0 < lg_cmp x y ↔ y < x := by
  unfold lg_cmp
  by_cases h1 : x > y
  · rw [if_pos h1]; exact ⟨fun _ => h1, fun _ => by decide⟩
  · rw [if_neg h1]
    by_cases h2 : x = y
    · rw [if_pos h2]; subst h2; exact ⟨fun h => absurd h (by decide), fun h => absurd h Int64.lt_irrefl⟩
    · rw [if_neg h2]; exact ⟨fun h => absurd h (by decide), fun h => absurd h h1⟩
theorem lgc_le {x y : Int64} : lg_cmp x y ≤ 0 ↔ x ≤ y := by rw [← Int32.not_lt, lgc_gt, Int64.not_lt]
theorem lgc_ge {x y : Int64} : 0 ≤ lg_cmp x y ↔ y ≤ x := by rw [← Int32.not_lt, lgc_lt, Int64.not_lt]
section ZLOOP2
variable {p : Program} {l : Launch} {e : Env} {R : Room} {s : State} {m : MethodId} {args : Array Value} {below : List Frame} {meth : Method} {co : Code}
variable {D : va_G} {cy : Nat → ClassId} {A : Nat → Prop} {nL : Nat} {a : Nat → Nat} {L : List Nat} {c : Nat → Nat → Int32} {g : Nat → Nat → Int64} {r : Nat → Nat → Option Nat} {Q : State → Prop} {cells slots pc : Nat}
/-- a loop with an invariant over ints and longs -/
theorem z_forW (I : Nat → (Nat → Nat → Int32) → (Nat → Nat → Int64) → Prop) (i0 n : Nat) (h0 : i0 ≤ n) (lvf : Nat → List (Nat × Value)) (hx : ∀ c g, I n c g → zG p l e R s m args below meth co D cy A nL Q cells slots a L c g r (lvf n) pc [])
    (hs : ∀ i c g, i0 ≤ i → i < n → I i c g → (∀ c' g', I (i + 1) c' g' → zG p l e R s m args below meth co D cy A nL Q cells slots a L c' g' r (lvf (i + 1)) pc []) → zG p l e R s m args below meth co D cy A nL Q cells slots a L c g r (lvf i) pc []) (hi : I i0 c g) : zG p l e R s m args below meth co D cy A nL Q cells slots a L c g r (lvf i0) pc [] := by
  have key : ∀ q i c g, i0 ≤ i → i + q = n → I i c g → zG p l e R s m args below meth co D cy A nL Q cells slots a L c g r (lvf i) pc [] := by
    intro q
    induction q with
    | zero => intro i c g _ hi hI; have : i = n := by omega
              subst this; exact hx c g hI
    | succ q ih => intro i c g h1 hi hI; exact hs i c g h1 (by omega) hI (fun c' g' h' => ih (i + 1) c' g' (by omega) (by omega) h')
  exact key (n - i0) i0 c g (Nat.le_refl _) (by omega) hi
end ZLOOP2
