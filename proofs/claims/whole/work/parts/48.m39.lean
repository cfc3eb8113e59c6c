/-- which ints of the class lie between what -/
def bnd (nl nk k j lo hi : Nat) : Prop := (k = 3 ∧ j = 1 ∧ lo = 5 ∧ hi = 60) ∨ (k = 3 ∧ j = 2 ∧ lo = 0 ∧ hi = 3) ∨ (20 ≤ k ∧ k < 28 ∧ j = 1 ∧ lo = 0 ∧ hi = 10) ∨ (100 ≤ k ∧ k < 100 + nl ∧ j = 0 ∧ lo = 1 ∧ hi = 5) ∨ (100 ≤ k ∧ k < 100 + nl ∧ j = 1 ∧ lo = 1 ∧ hi = 9) ∨ (100 ≤ k ∧ k < 100 + nl ∧ j = 2 ∧ lo = 1 ∧ hi = 99) ∨ (120 ≤ k ∧ k < 120 + nl ∧ j < 5 ∧ lo = 0 ∧ hi = 31) ∨ (k = 5 ∧ j = 0 ∧ lo = 10 ∧ hi = 200) ∨ (k = 5 ∧ j = 1 ∧ lo = 0 ∧ hi = 1000) ∨ (k = 5 ∧ j = 2 ∧ lo = 1 ∧ hi = 1000) ∨ (k = 5 ∧ j = 3 ∧ lo = 0 ∧ hi = 100) ∨ (200 ≤ k ∧ k < 200 + nk ∧ j = 0 ∧ lo = 0 ∧ hi = 7) ∨ (200 ≤ k ∧ k < 200 + nk ∧ j = 1 ∧ lo = 0 ∧ hi = 9) ∨ (200 ≤ k ∧ k < 200 + nk ∧ j = 2 ∧ lo = 0 ∧ hi = 999) ∨ (200 ≤ k ∧ k < 200 + nk ∧ j = 3 ∧ lo = 0 ∧ hi = 1600000) ∨ (200 ≤ k ∧ k < 200 + nk ∧ j = 4 ∧ lo = 0 ∧ hi = 40000) ∨ (200 ≤ k ∧ k < 200 + nk ∧ j = 5 ∧ lo = 0 ∧ hi = 40000) ∨ (k = 6 ∧ j = 2 ∧ lo = 0 ∧ hi = 40000 * nk) ∨ (k = 6 ∧ j = 3 ∧ lo = 0 ∧ hi = 40000 * nk) ∨ (40 ≤ k ∧ k < 44 ∧ j = 1 ∧ lo = 0 ∧ hi = 1) ∨ (40 ≤ k ∧ k < 44 ∧ j = 2 ∧ lo = 0 ∧ hi = 2) ∨ (40 ≤ k ∧ k < 44 ∧ j = 3 ∧ lo = 0 ∧ hi = 60) ∨ (k = 8 ∧ j < 52 ∧ lo = 0 ∧ hi = 1) ∨ (k = 9 ∧ j < 52 ∧ lo = 0 ∧ hi = 10000)
/-- which int of the reference holds which int of the class -/
def lnk (nl nk k j q i : Nat) : Prop := (k = 300 ∧ j = 8 ∧ q = 3 ∧ i = 1) ∨ (k = 300 ∧ j = 9 ∧ q = 3 ∧ i = 2) ∨ (k = 300 ∧ j = 19 ∧ q = 6 ∧ i = 2) ∨ (k = 300 ∧ j = 20 ∧ q = 6 ∧ i = 3) ∨ (k = 300 ∧ j = 27 ∧ q = 0 ∧ i = 10) ∨ (k = 301 ∧ j < 4 ∧ q = 5 ∧ i = j) ∨ (k = 303 ∧ j < nl ∧ q = 100 + j ∧ i = 0) ∨ (k = 304 ∧ j < nl ∧ q = 100 + j ∧ i = 1) ∨ (k = 305 ∧ j < nl ∧ q = 100 + j ∧ i = 2) ∨ (k = 306 ∧ 120 ≤ q ∧ q < 120 + nl ∧ i < 5 ∧ j = 5 * (q - 120) + i) ∨ (k = 307 ∧ j < 8 ∧ q = 20 + j ∧ i = 1) ∨ (k = 319 ∧ 200 ≤ q ∧ q < 200 + nk ∧ i < 6 ∧ j = 6 * (q - 200) + i) ∨ (k = 322 ∧ j < 52 ∧ q = 8 ∧ i = j) ∨ (k = 323 ∧ j < 52 ∧ q = 9 ∧ i = j) ∨ (k = 325 ∧ j < 4 ∧ q = 40 + j ∧ i = 3)
theorem CI_of {c : Nat → Nat → Int32} {nl nk : Nat} (h1 : nl ≤ 16) (h2 : nk ≤ 40) (h3 : c 0 1 = nI nl) (h4 : c 6 1 = nI nk) (h : ∀ k j lo hi, bnd nl nk k j lo hi → rng c k j lo hi) : CI c nl nk :=
  ⟨⟨h1, h2, h3, h4⟩, ⟨h _ _ _ _ (Or.inl ⟨rfl, rfl, rfl, rfl⟩), h _ _ _ _ (Or.inr (Or.inl ⟨rfl, rfl, rfl, rfl⟩))⟩, fun w hw => h _ _ _ _ (Or.inr (Or.inr (Or.inl ⟨by omega, by omega, rfl, rfl, rfl⟩))), fun i hi => ⟨h _ _ _ _ (Or.inr (Or.inr (Or.inr (Or.inl ⟨by omega, by omega, rfl, rfl, rfl⟩)))), h _ _ _ _ (Or.inr (Or.inr (Or.inr (Or.inr (Or.inl ⟨by omega, by omega, rfl, rfl, rfl⟩))))), h _ _ _ _ (Or.inr (Or.inr (Or.inr (Or.inr (Or.inr (Or.inl ⟨by omega, by omega, rfl, rfl, rfl⟩)))))), fun j hj => h _ _ _ _ (Or.inr (Or.inr (Or.inr (Or.inr (Or.inr (Or.inr (Or.inl ⟨by omega, by omega, by omega, rfl, rfl⟩)))))))⟩, ⟨h _ _ _ _ (Or.inr (Or.inr (Or.inr (Or.inr (Or.inr (Or.inr (Or.inr (Or.inl ⟨rfl, rfl, rfl, rfl⟩)))))))), h _ _ _ _ (Or.inr (Or.inr (Or.inr (Or.inr (Or.inr (Or.inr (Or.inr (Or.inr (Or.inl ⟨rfl, rfl, rfl, rfl⟩))))))))), h _ _ _ _ (Or.inr (Or.inr (Or.inr (Or.inr (Or.inr (Or.inr (Or.inr (Or.inr (Or.inr (Or.inl ⟨rfl, rfl, rfl, rfl⟩)))))))))), h _ _ _ _ (Or.inr (Or.inr (Or.inr (Or.inr (Or.inr (Or.inr (Or.inr (Or.inr (Or.inr (Or.inr (Or.inl ⟨rfl, rfl, rfl, rfl⟩)))))))))))⟩, fun k hk => ⟨h _ _ _ _ (Or.inr (Or.inr (Or.inr (Or.inr (Or.inr (Or.inr (Or.inr (Or.inr (Or.inr (Or.inr (Or.inr (Or.inl ⟨by omega, by omega, rfl, rfl, rfl⟩)))))))))))), h _ _ _ _ (Or.inr (Or.inr (Or.inr (Or.inr (Or.inr (Or.inr (Or.inr (Or.inr (Or.inr (Or.inr (Or.inr (Or.inr (Or.inl ⟨by omega, by omega, rfl, rfl, rfl⟩))))))))))))), h _ _ _ _ (Or.inr (Or.inr (Or.inr (Or.inr (Or.inr (Or.inr (Or.inr (Or.inr (Or.inr (Or.inr (Or.inr (Or.inr (Or.inr (Or.inl ⟨by omega, by omega, rfl, rfl, rfl⟩)))))))))))))), h _ _ _ _ (Or.inr (Or.inr (Or.inr (Or.inr (Or.inr (Or.inr (Or.inr (Or.inr (Or.inr (Or.inr (Or.inr (Or.inr (Or.inr (Or.inr (Or.inl ⟨by omega, by omega, rfl, rfl, rfl⟩))))))))))))))), h _ _ _ _ (Or.inr (Or.inr (Or.inr (Or.inr (Or.inr (Or.inr (Or.inr (Or.inr (Or.inr (Or.inr (Or.inr (Or.inr (Or.inr (Or.inr (Or.inr (Or.inl ⟨by omega, by omega, rfl, rfl, rfl⟩)))))))))))))))), h _ _ _ _ (Or.inr (Or.inr (Or.inr (Or.inr (Or.inr (Or.inr (Or.inr (Or.inr (Or.inr (Or.inr (Or.inr (Or.inr (Or.inr (Or.inr (Or.inr (Or.inr (Or.inl ⟨by omega, by omega, rfl, rfl, rfl⟩)))))))))))))))))⟩, ⟨h _ _ _ _ (Or.inr (Or.inr (Or.inr (Or.inr (Or.inr (Or.inr (Or.inr (Or.inr (Or.inr (Or.inr (Or.inr (Or.inr (Or.inr (Or.inr (Or.inr (Or.inr (Or.inr (Or.inl ⟨rfl, rfl, rfl, rfl⟩)))))))))))))))))), h _ _ _ _ (Or.inr (Or.inr (Or.inr (Or.inr (Or.inr (Or.inr (Or.inr (Or.inr (Or.inr (Or.inr (Or.inr (Or.inr (Or.inr (Or.inr (Or.inr (Or.inr (Or.inr (Or.inr (Or.inl ⟨rfl, rfl, rfl, rfl⟩)))))))))))))))))))⟩, fun w hw => ⟨h _ _ _ _ (Or.inr (Or.inr (Or.inr (Or.inr (Or.inr (Or.inr (Or.inr (Or.inr (Or.inr (Or.inr (Or.inr (Or.inr (Or.inr (Or.inr (Or.inr (Or.inr (Or.inr (Or.inr (Or.inr (Or.inl ⟨by omega, by omega, rfl, rfl, rfl⟩)))))))))))))))))))), h _ _ _ _ (Or.inr (Or.inr (Or.inr (Or.inr (Or.inr (Or.inr (Or.inr (Or.inr (Or.inr (Or.inr (Or.inr (Or.inr (Or.inr (Or.inr (Or.inr (Or.inr (Or.inr (Or.inr (Or.inr (Or.inr (Or.inl ⟨by omega, by omega, rfl, rfl, rfl⟩))))))))))))))))))))), h _ _ _ _ (Or.inr (Or.inr (Or.inr (Or.inr (Or.inr (Or.inr (Or.inr (Or.inr (Or.inr (Or.inr (Or.inr (Or.inr (Or.inr (Or.inr (Or.inr (Or.inr (Or.inr (Or.inr (Or.inr (Or.inr (Or.inr (Or.inl ⟨by omega, by omega, rfl, rfl, rfl⟩))))))))))))))))))))))⟩, fun w hw => ⟨h _ _ _ _ (Or.inr (Or.inr (Or.inr (Or.inr (Or.inr (Or.inr (Or.inr (Or.inr (Or.inr (Or.inr (Or.inr (Or.inr (Or.inr (Or.inr (Or.inr (Or.inr (Or.inr (Or.inr (Or.inr (Or.inr (Or.inr (Or.inr (Or.inl ⟨rfl, by omega, rfl, rfl⟩))))))))))))))))))))))), h _ _ _ _ (Or.inr (Or.inr (Or.inr (Or.inr (Or.inr (Or.inr (Or.inr (Or.inr (Or.inr (Or.inr (Or.inr (Or.inr (Or.inr (Or.inr (Or.inr (Or.inr (Or.inr (Or.inr (Or.inr (Or.inr (Or.inr (Or.inr (Or.inr (⟨rfl, by omega, rfl, rfl⟩))))))))))))))))))))))))⟩⟩
theorem CI_b {c : Nat → Nat → Int32} {nl nk k j lo hi : Nat} (hI : CI c nl nk) (hb : bnd nl nk k j lo hi) : rng c k j lo hi := by
  rcases hb with ⟨rfl, rfl, rfl, rfl⟩ | ⟨rfl, rfl, rfl, rfl⟩ | ⟨a1, a2, rfl, rfl, rfl⟩ | ⟨a1, a2, rfl, rfl, rfl⟩ | ⟨a1, a2, rfl, rfl, rfl⟩ | ⟨a1, a2, rfl, rfl, rfl⟩ | ⟨a1, a2, hj, rfl, rfl⟩ | ⟨rfl, rfl, rfl, rfl⟩ | ⟨rfl, rfl, rfl, rfl⟩ | ⟨rfl, rfl, rfl, rfl⟩ | ⟨rfl, rfl, rfl, rfl⟩ | ⟨a1, a2, rfl, rfl, rfl⟩ | ⟨a1, a2, rfl, rfl, rfl⟩ | ⟨a1, a2, rfl, rfl, rfl⟩ | ⟨a1, a2, rfl, rfl, rfl⟩ | ⟨a1, a2, rfl, rfl, rfl⟩ | ⟨a1, a2, rfl, rfl, rfl⟩ | ⟨rfl, rfl, rfl, rfl⟩ | ⟨rfl, rfl, rfl, rfl⟩ | ⟨a1, a2, rfl, rfl, rfl⟩ | ⟨a1, a2, rfl, rfl, rfl⟩ | ⟨a1, a2, rfl, rfl, rfl⟩ | ⟨rfl, hj, rfl, rfl⟩ | ⟨rfl, hj, rfl, rfl⟩
  · exact (CI_S hI)
  · exact (CI_G hI)
  · obtain ⟨w, rfl⟩ : ∃ w, k = 20 + w := ⟨k - 20, by omega⟩
    exact CI_sz hI (by omega)
  · obtain ⟨w, rfl⟩ : ∃ w, k = 100 + w := ⟨k - 100, by omega⟩
    exact CI_wi hI (by omega)
  · obtain ⟨w, rfl⟩ : ∃ w, k = 100 + w := ⟨k - 100, by omega⟩
    exact CI_mi hI (by omega)
  · obtain ⟨w, rfl⟩ : ∃ w, k = 100 + w := ⟨k - 100, by omega⟩
    exact CI_so hI (by omega)
  · obtain ⟨w, rfl⟩ : ∃ w, k = 120 + w := ⟨k - 120, by omega⟩
    exact CI_st hI (by omega) hj
  · exact (CI_set hI).1
  · exact (CI_set hI).2.1
  · exact (CI_set hI).2.2.1
  · exact (CI_set hI).2.2.2
  · obtain ⟨w, rfl⟩ : ∃ w, k = 200 + w := ⟨k - 200, by omega⟩
    exact (CI_lump hI (by omega)).1
  · obtain ⟨w, rfl⟩ : ∃ w, k = 200 + w := ⟨k - 200, by omega⟩
    exact (CI_lump hI (by omega)).2.1
  · obtain ⟨w, rfl⟩ : ∃ w, k = 200 + w := ⟨k - 200, by omega⟩
    exact (CI_lump hI (by omega)).2.2.1
  · obtain ⟨w, rfl⟩ : ∃ w, k = 200 + w := ⟨k - 200, by omega⟩
    exact (CI_lump hI (by omega)).2.2.2.1
  · obtain ⟨w, rfl⟩ : ∃ w, k = 200 + w := ⟨k - 200, by omega⟩
    exact (CI_lump hI (by omega)).2.2.2.2.1
  · obtain ⟨w, rfl⟩ : ∃ w, k = 200 + w := ⟨k - 200, by omega⟩
    exact (CI_lump hI (by omega)).2.2.2.2.2
  · exact (CI_tot hI).1
  · exact (CI_tot hI).2
  · obtain ⟨w, rfl⟩ : ∃ w, k = 40 + w := ⟨k - 40, by omega⟩
    exact (CI_sh hI (by omega)).1
  · obtain ⟨w, rfl⟩ : ∃ w, k = 40 + w := ⟨k - 40, by omega⟩
    exact (CI_sh hI (by omega)).2.1
  · obtain ⟨w, rfl⟩ : ∃ w, k = 40 + w := ⟨k - 40, by omega⟩
    exact (CI_sh hI (by omega)).2.2
  · exact (CI_wk hI hj).1
  · exact (CI_wk hI hj).2
theorem bnd_lt {nl nk k j lo hi : Nat} (h1 : nl ≤ 16) (h2 : nk ≤ 40) (hb : bnd nl nk k j lo hi) : k < 300 ∧ hi ≤ 1600000 ∧ k ≠ 0 ∧ ¬ (k = 6 ∧ j = 1) ∧ (k < 50 ∨ 100 ≤ k) ∧ k ≠ 4 ∧ k ≠ 10 := by
  rcases hb with g | g | g | g | g | g | g | g | g | g | g | g | g | g | g | g | g | g | g | g | g | g | g | g <;> omega
theorem lnk_f {nl nk k j q i : Nat} (h1 : nl ≤ 16) (h2 : nk ≤ 40) (hb : lnk nl nk k j q i) : (300 ≤ k ∧ q < 300) ∧ ¬ (k = 300 ∧ (j = 1 ∨ j = 17)) ∧ (k ≠ 308 ∧ k ≠ 324 ∧ k ≠ 326 ∧ k ≠ 327) ∧ (k = 306 → j < 5 * nl) ∧ (¬ (q = 0 ∧ i = 1) ∧ ¬ (q = 6 ∧ i = 1)) ∧ (q < 50 ∨ 100 ≤ q) ∧ (20 ≤ q → q < 28 → i = 1) ∧ (40 ≤ q → q < 44 → i = 3) ∧ (q ≠ 4 ∧ q ≠ 10) ∧ (lkr k ∨ (k = 300 ∧ lkf j)) := by
  unfold lkr lkf
  rcases hb with g | g | g | g | g | g | g | g | g | g | g | g | g | g | g <;> omega
set_option maxHeartbeats 4000000 in
theorem lnk_inj {nl nk k j q i k' j' q' i' : Nat} (h1 : nl ≤ 16) (h2 : nk ≤ 40) (hb : lnk nl nk k j q i) (hd : lnk nl nk k' j' q' i') : (k = k' ∧ j = j') ↔ (q = q' ∧ i = i') := by
  rcases hb with g | g | g | g | g | g | g | g | g | g | g | g | g | g | g <;> rcases hd with f | f | f | f | f | f | f | f | f | f | f | f | f | f | f <;> omega
theorem LK_l {d c : Nat → Nat → Int32} {nl nk : Nat} {x : Nat → Nat → Nat} (hK : LK d c nl nk x) {k j q i : Nat} (hb : lnk nl nk k j q i) : c k j = d q i := by
  rcases hb with ⟨rfl, rfl, rfl, rfl⟩ | ⟨rfl, rfl, rfl, rfl⟩ | ⟨rfl, rfl, rfl, rfl⟩ | ⟨rfl, rfl, rfl, rfl⟩ | ⟨rfl, rfl, rfl, rfl⟩ | ⟨rfl, hj, rfl, rfl⟩ | ⟨rfl, hj, rfl, rfl⟩ | ⟨rfl, hj, rfl, rfl⟩ | ⟨rfl, hj, rfl, rfl⟩ | ⟨rfl, a1, a2, hj, rfl⟩ | ⟨rfl, hj, rfl, rfl⟩ | ⟨rfl, a1, a2, hj, rfl⟩ | ⟨rfl, hj, rfl, rfl⟩ | ⟨rfl, hj, rfl, rfl⟩ | ⟨rfl, hj, rfl, rfl⟩
  · exact hK.1.2.1
  · exact hK.1.2.2.1
  · exact hK.1.2.2.2.2.1
  · exact hK.1.2.2.2.2.2.1
  · exact LK_fi hK
  · exact LK_told hK hj
  · exact (hK.2.2.1 _ hj).1
  · exact (hK.2.2.1 _ hj).2.1
  · exact (hK.2.2.1 _ hj).2.2.1
  · obtain ⟨w, rfl⟩ : ∃ w, q = 120 + w := ⟨q - 120, by omega⟩
    rw [show 120 + w - 120 = w by omega]
    exact (hK.2.2.1 w (by omega)).2.2.2 i hj
  · exact (hK.2.2.2.2.1 _ hj).1
  · obtain ⟨w, rfl⟩ : ∃ w, q = 200 + w := ⟨q - 200, by omega⟩
    rw [show 200 + w - 200 = w by omega]
    exact LK_lump hK (by omega) hj
  · exact (LK_wk hK hj).1
  · exact (LK_wk hK hj).2
  · exact (hK.2.2.2.2.2.2.2 _ hj).2.1
theorem LK_z {d c : Nat → Nat → Int32} {nl nk : Nat} {x : Nat → Nat → Nat} (hK : LK d c nl nk x) {i : Nat} (h1 : nl ≤ i) (h2 : i < 16) {j : Nat} (hj : j < 5) : c 306 (5 * i + j) = 0 := hK.2.2.2.1 i h1 h2 j hj
theorem LK_mk {d c : Nat → Nat → Int32} {nl nk : Nat} {x : Nat → Nat → Nat} (h1 : c 300 1 = nI nl) (h17 : c 300 17 = nI nk) (h : ∀ k j q i, lnk nl nk k j q i → c k j = d q i) (hs : ∀ i, nl ≤ i → i < 16 → ∀ j, j < 5 → c 306 (5 * i + j) = 0) (hw : ∀ w, w < 8 → ∀ i, i < nn d (20 + w) 1 → c 308 (10 * w + i) = nI (x w i)) (hf : ∀ s, s < 4 → c 324 s = (if nn d (40 + s) 1 = 1 then -1 else d (40 + s) 2)) (hi : ∀ s, s < 4 → ∀ i, i < nn d (40 + s) 3 → c 326 (60 * s + i) = d (50 + s) i) : LK d c nl nk x :=
  ⟨⟨h1, h _ _ _ _ (Or.inl ⟨rfl, rfl, rfl, rfl⟩), h _ _ _ _ (Or.inr (Or.inl ⟨rfl, rfl, rfl, rfl⟩)), h17, h _ _ _ _ (Or.inr (Or.inr (Or.inl ⟨rfl, rfl, rfl, rfl⟩))), h _ _ _ _ (Or.inr (Or.inr (Or.inr (Or.inl ⟨rfl, rfl, rfl, rfl⟩)))), h _ _ _ _ (Or.inr (Or.inr (Or.inr (Or.inr (Or.inl ⟨rfl, rfl, rfl, rfl⟩)))))⟩, fun j hj => h _ _ _ _ (Or.inr (Or.inr (Or.inr (Or.inr (Or.inr (Or.inl ⟨rfl, hj, rfl, rfl⟩)))))), fun i hi => ⟨h _ _ _ _ (Or.inr (Or.inr (Or.inr (Or.inr (Or.inr (Or.inr (Or.inl ⟨rfl, hi, rfl, rfl⟩))))))), h _ _ _ _ (Or.inr (Or.inr (Or.inr (Or.inr (Or.inr (Or.inr (Or.inr (Or.inl ⟨rfl, hi, rfl, rfl⟩)))))))), h _ _ _ _ (Or.inr (Or.inr (Or.inr (Or.inr (Or.inr (Or.inr (Or.inr (Or.inr (Or.inl ⟨rfl, hi, rfl, rfl⟩))))))))), fun j hj => h _ _ _ _ (Or.inr (Or.inr (Or.inr (Or.inr (Or.inr (Or.inr (Or.inr (Or.inr (Or.inr (Or.inl ⟨rfl, by omega, by omega, hj, by omega⟩))))))))))⟩, hs, fun w hw' => ⟨h _ _ _ _ (Or.inr (Or.inr (Or.inr (Or.inr (Or.inr (Or.inr (Or.inr (Or.inr (Or.inr (Or.inr (Or.inl ⟨rfl, hw', rfl, rfl⟩))))))))))), hw w hw'⟩, fun k hk j hj => h _ _ _ _ (Or.inr (Or.inr (Or.inr (Or.inr (Or.inr (Or.inr (Or.inr (Or.inr (Or.inr (Or.inr (Or.inr (Or.inl ⟨rfl, by omega, by omega, hj, by omega⟩)))))))))))), fun w hw => ⟨h _ _ _ _ (Or.inr (Or.inr (Or.inr (Or.inr (Or.inr (Or.inr (Or.inr (Or.inr (Or.inr (Or.inr (Or.inr (Or.inr (Or.inl ⟨rfl, hw, rfl, rfl⟩))))))))))))), h _ _ _ _ (Or.inr (Or.inr (Or.inr (Or.inr (Or.inr (Or.inr (Or.inr (Or.inr (Or.inr (Or.inr (Or.inr (Or.inr (Or.inr (Or.inl ⟨rfl, hw, rfl, rfl⟩))))))))))))))⟩, fun s hs => ⟨hf s hs, h _ _ _ _ (Or.inr (Or.inr (Or.inr (Or.inr (Or.inr (Or.inr (Or.inr (Or.inr (Or.inr (Or.inr (Or.inr (Or.inr (Or.inr (Or.inr (⟨rfl, hs, rfl, rfl⟩))))))))))))))), hi s hs⟩⟩
theorem up2_ne {α : Type} (c : Nat → Nat → α) {k i k' i' : Nat} (v : α) (h : ¬ (k' = k ∧ i' = i)) : up2 c k i v k' i' = c k' i' := by
  unfold up2
  by_cases h1 : k' = k
  · rw [if_pos h1, if_neg (fun e => h ⟨h1, e⟩), h1]
  · rw [if_neg h1]
theorem rng_cg {c c' : Nat → Nat → Int32} {k j lo hi : Nat} (h : rng c k j lo hi) (e : c' k j = c k j) : rng c' k j lo hi := by
  unfold rng nn at *
  rw [e]; exact h
theorem CI_new {c c' : Nat → Nat → Int32} {nl nk nl' nk' : Nat} (hI : CI c nl nk) (h1 : nl' ≤ 16) (h2 : nk' ≤ 40) (h3 : c' 0 1 = nI nl') (h4 : c' 6 1 = nI nk') (h : ∀ k j lo hi, bnd nl' nk' k j lo hi → (bnd nl nk k j lo hi ∧ c' k j = c k j) ∨ ∃ n, c' k j = nI n ∧ lo ≤ n ∧ n ≤ hi) : CI c' nl' nk' := CI_of h1 h2 h3 h4 (fun k j lo hi hb => by
  have hq := bnd_lt h1 h2 hb
  rcases h k j lo hi hb with ⟨ha, he⟩ | ⟨n, he, ha, hb'⟩
  · exact rng_cg (CI_b hI ha) he
  · exact rng_of he ha hb' (by omega))
/-- what holds at the head of the law's loop -/
def INV (L : List Nat) (c : Nat → Nat → Int32) (r : Nat → Nat → Option Nat) (nl nk : Nat) (x : Nat → Nat → Nat) : Prop :=
  zLv L nl nk ∧ RC r nl nk ∧ RM r ∧ CI c nl nk ∧ XC c r nl x ∧ LK c c nl nk x ∧ zR L r ∧ (∀ i, nl ≤ i → i < 17 → 100 + i ∉ L ∧ 120 + i ∉ L) ∧ (∀ k, nk ≤ k → k < 41 → 200 + k ∉ L)
theorem LK_d {d d' c : Nat → Nat → Int32} {nl nk : Nat} {x : Nat → Nat → Nat} (h1 : nl ≤ 16) (h2 : nk ≤ 40) (h : ∀ k, k < 300 → k ≠ 4 → k ≠ 10 → d' k = d k) (hK : LK d c nl nk x) : LK d' c nl nk x := by
  have hn : ∀ k j, k < 300 → k ≠ 4 → k ≠ 10 → nn d' k j = nn d k j := fun k j a b e => by unfold nn; rw [h k a b e]
  refine LK_mk (LK_nl hK) (LK_nk hK) (fun k j q i hb => ?_) (fun i a b j hj => LK_z hK a b hj) (fun w hw i hi => ?_) (fun s hs => ?_) (fun s hs i hi => ?_)
  · have hq := lnk_f h1 h2 hb
    rw [h q hq.1.2 (by omega) (by omega)]; exact LK_l hK hb
  · rw [hn _ _ (by omega) (by omega) (by omega)] at hi; exact LK_x hK hw hi
  · rw [hn _ _ (by omega) (by omega) (by omega), h (40 + s) (by omega) (by omega) (by omega)]; exact LK_fo hK hs
  · rw [hn _ _ (by omega) (by omega) (by omega)] at hi
    rw [h (50 + s) (by omega) (by omega) (by omega)]; exact LK_it hK hs hi
section INVS
variable {L : List Nat} {c : Nat → Nat → Int32} {r : Nat → Nat → Option Nat} {nl nk : Nat} {x : Nat → Nat → Nat}
theorem INV_sm (hV : INV L c r nl nk x) {c' : Nat → Nat → Int32} (h : ∀ k, k < 300 → k ≠ 4 → k ≠ 10 → c' k = c k) (h2 : lks c c') : INV L c' r nl nk x := by
  obtain ⟨hL, hR, hM, hI, hX, hK, hZ, hF, hG⟩ := hV
  have h16 := CI_nl16 hI
  have hk4 := CI_nk40 hI
  refine ⟨hL, hR, hM, ?_, fun w hw i hi => hX w hw i (by unfold nn at *; rw [h (20 + w) (by omega) (by omega) (by omega)] at hi; exact hi), LK_d h16 hk4 h (LK_s h2 hK), hZ, hF, hG⟩
  refine CI_new hI h16 hk4 (by rw [h 0 (by omega) (by omega) (by omega)]; exact CI_nl hI) (by rw [h 6 (by omega) (by omega) (by omega)]; exact CI_nk hI) (fun k j lo hi hb => ?_)
  have hq := bnd_lt h16 hk4 hb
  exact Or.inl ⟨hb, by rw [h k hq.1 (by omega) (by omega)]⟩
/-- one int of the class and the one of the reference that holds it, both set -/
theorem INV_pair (hV : INV L c r nl nk x) {k0 j0 k1 j1 : Nat} {v : Int32} (hl : lnk nl nk k0 j0 k1 j1) (h40 : k1 < 40 ∨ 50 ≤ k1) (h20 : 20 ≤ k1 → k1 < 28 → v = nI 0) (hv : ∀ lo hi, bnd nl nk k1 j1 lo hi → ∃ n, v = nI n ∧ lo ≤ n ∧ n ≤ hi) : INV L (up2 (up2 c k1 j1 v) k0 j0 v) r nl nk x := by
  obtain ⟨hL, hR, hM, hI, hX, hK, hZ, hF, hG⟩ := hV
  have h16 := CI_nl16 hI
  have hk4 := CI_nk40 hI
  have hq := lnk_f h16 hk4 hl
  have hc : ∀ k j, k < 300 → ¬ (k = k1 ∧ j = j1) → up2 (up2 c k1 j1 v) k0 j0 v k j = c k j := fun k j h1 h2 => by rw [up2_ne _ _ (by omega), up2_ne _ _ h2]
  have hc1 : up2 (up2 c k1 j1 v) k0 j0 v k1 j1 = v := by rw [up2_ne _ _ (by omega), up2_self]
  have hm : ∀ k j, 300 ≤ k → ¬ (k = k0 ∧ j = j0) → up2 (up2 c k1 j1 v) k0 j0 v k j = c k j := fun k j h1 h2 => by rw [up2_ne _ _ h2, up2_ne _ _ (by omega)]
  have hm0 : up2 (up2 c k1 j1 v) k0 j0 v k0 j0 = v := up2_self _ _ _ _
  generalize up2 (up2 c k1 j1 v) k0 j0 v = c' at hc hc1 hm hm0 ⊢
  have hn : ∀ k j, k < 300 → ¬ (k = k1 ∧ j = j1) → nn c' k j = nn c k j := fun k j a b => by unfold nn; rw [hc k j a b]
  have hw : ∀ w, w < 8 → ∀ i, i < nn c' (20 + w) 1 → i < nn c (20 + w) 1 := fun w hw i hi => by
    by_cases e : 20 + w = k1 ∧ 1 = j1
    · have e0 : nn c' (20 + w) 1 = 0 := by unfold nn; rw [e.1, e.2, hc1, h20 (by omega) (by omega)]; rfl
      omega
    · rw [hn _ _ (by omega) e] at hi; exact hi
  refine ⟨hL, hR, hM, ?_, fun w hw' i hi => hX w hw' i (hw w hw' i hi), ?_, hZ, hF, hG⟩
  · refine CI_new hI h16 hk4 ((hc 0 1 (by omega) (by omega)).trans (CI_nl hI)) ((hc 6 1 (by omega) (by omega)).trans (CI_nk hI)) (fun k j lo hi hb => ?_)
    have hb' := bnd_lt h16 hk4 hb
    by_cases e : k = k1 ∧ j = j1
    · obtain ⟨rfl, rfl⟩ := e
      obtain ⟨n, e1, e2, e3⟩ := hv lo hi hb
      exact Or.inr ⟨n, hc1.trans e1, e2, e3⟩
    · exact Or.inl ⟨hb, hc k j hb'.1 e⟩
  · refine LK_mk ((hm 300 1 (by omega) (by omega)).trans (LK_nl hK)) ((hm 300 17 (by omega) (by omega)).trans (LK_nk hK)) (fun k j q i hg => ?_) (fun i h1 h2 j hj => (hm 306 _ (by omega) (by omega)).trans (LK_z hK h1 h2 hj)) (fun w hw' i hi => (hm 308 _ (by omega) (by omega)).trans (LK_x hK hw' (hw w hw' i hi))) (fun s hs => ?_) (fun s hs i hi => ?_)
    · have hi := lnk_inj h16 hk4 hg hl
      have hq2 := lnk_f h16 hk4 hg
      by_cases e : k = k0 ∧ j = j0
      · have e2 := hi.mp e
        rw [e.1, e.2, e2.1, e2.2, hm0, hc1]
      · rw [hm k j hq2.1.1 e, hc q i hq2.1.2 (fun z => e (hi.mpr z))]; exact LK_l hK hg
    · rw [hm 324 s (by omega) (by omega), hc (40 + s) 2 (by omega) (by omega), hn (40 + s) 1 (by omega) (by omega)]; exact LK_fo hK hs
    · rw [hn (40 + s) 3 (by omega) (by omega)] at hi
      rw [hm 326 _ (by omega) (by omega), hc (50 + s) i (by omega) (by omega)]; exact LK_it hK hs hi
theorem INV_fi (hV : INV L c r nl nk x) (v : Int32) : INV L (up2 (up2 c 0 10 v) 300 27 v) r nl nk x := INV_pair hV (Or.inr (Or.inr (Or.inr (Or.inr (Or.inl ⟨rfl, rfl, rfl, rfl⟩))))) (Or.inl (by decide)) (fun h => absurd h (by decide)) (fun lo hi hb => absurd rfl (bnd_lt (CI_nl16 hV.2.2.2.1) (CI_nk40 hV.2.2.2.1) hb).2.2.1)
theorem INV_lose (hV : INV L c r nl nk x) {s : Nat} (hs : s < 4) : INV L (up2 (up2 c (40 + s) 1 (nI 1)) 324 s (-1)) r nl nk x := by
  obtain ⟨hL, hR, hM, hI, hX, hK, hZ, hF, hG⟩ := hV
  have h16 := CI_nl16 hI
  have hk4 := CI_nk40 hI
  have hc : ∀ k j, k < 300 → ¬ (k = 40 + s ∧ j = 1) → up2 (up2 c (40 + s) 1 (nI 1)) 324 s (-1) k j = c k j := fun k j h1 h2 => by rw [up2_ne _ _ (by omega), up2_ne _ _ h2]
  have hc1 : up2 (up2 c (40 + s) 1 (nI 1)) 324 s (-1) (40 + s) 1 = nI 1 := by rw [up2_ne _ _ (by omega), up2_self]
  have hm : ∀ k j, 300 ≤ k → ¬ (k = 324 ∧ j = s) → up2 (up2 c (40 + s) 1 (nI 1)) 324 s (-1) k j = c k j := fun k j h1 h2 => by rw [up2_ne _ _ h2, up2_ne _ _ (by omega)]
  have hm0 : up2 (up2 c (40 + s) 1 (nI 1)) 324 s (-1) 324 s = -1 := up2_self _ _ _ _
  generalize up2 (up2 c (40 + s) 1 (nI 1)) 324 s (-1) = c' at hc hc1 hm hm0 ⊢
  have hn : ∀ k j, k < 300 → ¬ (k = 40 + s ∧ j = 1) → nn c' k j = nn c k j := fun k j a b => by unfold nn; rw [hc k j a b]
  have hn1 : nn c' (40 + s) 1 = 1 := by unfold nn; rw [hc1]; exact nI_clamp (by decide)
  refine ⟨hL, hR, hM, ?_, fun w hw i hi => hX w hw i (by rw [hn _ _ (by omega) (by omega)] at hi; exact hi), ?_, hZ, hF, hG⟩
  · refine CI_new hI h16 hk4 ((hc 0 1 (by omega) (by omega)).trans (CI_nl hI)) ((hc 6 1 (by omega) (by omega)).trans (CI_nk hI)) (fun k j lo hi hb => ?_)
    have hb' := bnd_lt h16 hk4 hb
    by_cases e : k = 40 + s ∧ j = 1
    · obtain ⟨rfl, rfl⟩ := e
      have e2 : lo = 0 ∧ hi = 1 := by unfold bnd at hb; omega
      exact Or.inr ⟨1, hc1, by omega, by omega⟩
    · exact Or.inl ⟨hb, hc k j hb'.1 e⟩
  · refine LK_mk ((hm 300 1 (by omega) (by omega)).trans (LK_nl hK)) ((hm 300 17 (by omega) (by omega)).trans (LK_nk hK)) (fun k j q i hg => ?_) (fun i h1 h2 j hj => (hm 306 _ (by omega) (by omega)).trans (LK_z hK h1 h2 hj)) (fun w hw i hi => (hm 308 _ (by omega) (by omega)).trans (LK_x hK hw (by rw [hn _ _ (by omega) (by omega)] at hi; exact hi))) (fun t ht => ?_) (fun t ht i hi => ?_)
    · have hq2 := lnk_f h16 hk4 hg
      rw [hm k j hq2.1.1 (by omega), hc q i hq2.1.2 (by omega)]; exact LK_l hK hg
    · by_cases e : t = s
      · subst e; rw [hm0, hn1]; rfl
      · rw [hm 324 t (by omega) (by omega), hc (40 + t) 2 (by omega) (by omega), hn (40 + t) 1 (by omega) (by omega)]; exact LK_fo hK ht
    · rw [hn (40 + t) 3 (by omega) (by omega)] at hi
      rw [hm 326 _ (by omega) (by omega), hc (50 + t) i (by omega) (by omega)]; exact LK_it hK ht hi
theorem INV_put (hV : INV L c r nl nk x) {s i : Nat} {v : Int32} (hs : s < 4) (hi0 : i < nn c (40 + s) 3) : INV L (up2 (up2 c (50 + s) i v) 326 (60 * s + i) v) r nl nk x := by
  obtain ⟨hL, hR, hM, hI, hX, hK, hZ, hF, hG⟩ := hV
  have h16 := CI_nl16 hI
  have hk4 := CI_nk40 hI
  have h60 := (CI_sh hI hs).2.2.2.2
  have hc : ∀ k j, k < 300 → ¬ (k = 50 + s ∧ j = i) → up2 (up2 c (50 + s) i v) 326 (60 * s + i) v k j = c k j := fun k j h1 h2 => by rw [up2_ne _ _ (by omega), up2_ne _ _ h2]
  have hc1 : up2 (up2 c (50 + s) i v) 326 (60 * s + i) v (50 + s) i = v := by rw [up2_ne _ _ (by omega), up2_self]
  have hm : ∀ k j, 300 ≤ k → ¬ (k = 326 ∧ j = 60 * s + i) → up2 (up2 c (50 + s) i v) 326 (60 * s + i) v k j = c k j := fun k j h1 h2 => by rw [up2_ne _ _ h2, up2_ne _ _ (by omega)]
  have hm0 : up2 (up2 c (50 + s) i v) 326 (60 * s + i) v 326 (60 * s + i) = v := up2_self _ _ _ _
  generalize up2 (up2 c (50 + s) i v) 326 (60 * s + i) v = c' at hc hc1 hm hm0 ⊢
  have hn : ∀ k j, k < 300 → ¬ (k = 50 + s ∧ j = i) → nn c' k j = nn c k j := fun k j a b => by unfold nn; rw [hc k j a b]
  refine ⟨hL, hR, hM, ?_, fun w hw q hq => hX w hw q (by rw [hn _ _ (by omega) (by omega)] at hq; exact hq), ?_, hZ, hF, hG⟩
  · refine CI_new hI h16 hk4 ((hc 0 1 (by omega) (by omega)).trans (CI_nl hI)) ((hc 6 1 (by omega) (by omega)).trans (CI_nk hI)) (fun k j lo hi hb => ?_)
    have hb' := bnd_lt h16 hk4 hb
    exact Or.inl ⟨hb, hc k j hb'.1 (by omega)⟩
  · refine LK_mk ((hm 300 1 (by omega) (by omega)).trans (LK_nl hK)) ((hm 300 17 (by omega) (by omega)).trans (LK_nk hK)) (fun k j q i' hg => ?_) (fun i' h1 h2 j hj => (hm 306 _ (by omega) (by omega)).trans (LK_z hK h1 h2 hj)) (fun w hw i' hi => (hm 308 _ (by omega) (by omega)).trans (LK_x hK hw (by rw [hn _ _ (by omega) (by omega)] at hi; exact hi))) (fun t ht => ?_) (fun t ht q hq => ?_)
    · have hq2 := lnk_f h16 hk4 hg
      rw [hm k j hq2.1.1 (by omega), hc q i' hq2.1.2 (by omega)]; exact LK_l hK hg
    · rw [hm 324 t (by omega) (by omega), hc (40 + t) 2 (by omega) (by omega), hn (40 + t) 1 (by omega) (by omega)]; exact LK_fo hK ht
    · rw [hn (40 + t) 3 (by omega) (by omega)] at hq
      have h61 := (CI_sh hI ht).2.2.2.2
      by_cases e : t = s ∧ q = i
      · rw [e.1, e.2, hm0, hc1]
      · rw [hm 326 _ (by omega) (by omega), hc (50 + t) q (by omega) (by omega)]; exact LK_it hK ht hq
end INVS
