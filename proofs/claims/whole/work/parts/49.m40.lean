theorem bnd_dn {nl nk k j lo hi : Nat} (h1 : k ≠ 100 + nl) (h2 : k ≠ 120 + nl) (hb : bnd (nl + 1) nk k j lo hi) : bnd nl nk k j lo hi := by
  rcases hb with g | g | g | ⟨a1, a2, a3, a4, a5⟩ | ⟨a1, a2, a3, a4, a5⟩ | ⟨a1, a2, a3, a4, a5⟩ | ⟨a1, a2, a3, a4, a5⟩ | g | g | g | g | g | g | g | g | g | g | g | g | g | g | g | g | g
  · exact (Or.inl g)
  · exact (Or.inr (Or.inl g))
  · exact (Or.inr (Or.inr (Or.inl g)))
  · exact (Or.inr (Or.inr (Or.inr (Or.inl ⟨a1, by omega, a3, a4, a5⟩))))
  · exact (Or.inr (Or.inr (Or.inr (Or.inr (Or.inl ⟨a1, by omega, a3, a4, a5⟩)))))
  · exact (Or.inr (Or.inr (Or.inr (Or.inr (Or.inr (Or.inl ⟨a1, by omega, a3, a4, a5⟩))))))
  · exact (Or.inr (Or.inr (Or.inr (Or.inr (Or.inr (Or.inr (Or.inl ⟨a1, by omega, a3, a4, a5⟩)))))))
  · exact (Or.inr (Or.inr (Or.inr (Or.inr (Or.inr (Or.inr (Or.inr (Or.inl g))))))))
  · exact (Or.inr (Or.inr (Or.inr (Or.inr (Or.inr (Or.inr (Or.inr (Or.inr (Or.inl g)))))))))
  · exact (Or.inr (Or.inr (Or.inr (Or.inr (Or.inr (Or.inr (Or.inr (Or.inr (Or.inr (Or.inl g))))))))))
  · exact (Or.inr (Or.inr (Or.inr (Or.inr (Or.inr (Or.inr (Or.inr (Or.inr (Or.inr (Or.inr (Or.inl g)))))))))))
  · exact (Or.inr (Or.inr (Or.inr (Or.inr (Or.inr (Or.inr (Or.inr (Or.inr (Or.inr (Or.inr (Or.inr (Or.inl g))))))))))))
  · exact (Or.inr (Or.inr (Or.inr (Or.inr (Or.inr (Or.inr (Or.inr (Or.inr (Or.inr (Or.inr (Or.inr (Or.inr (Or.inl g)))))))))))))
  · exact (Or.inr (Or.inr (Or.inr (Or.inr (Or.inr (Or.inr (Or.inr (Or.inr (Or.inr (Or.inr (Or.inr (Or.inr (Or.inr (Or.inl g))))))))))))))
  · exact (Or.inr (Or.inr (Or.inr (Or.inr (Or.inr (Or.inr (Or.inr (Or.inr (Or.inr (Or.inr (Or.inr (Or.inr (Or.inr (Or.inr (Or.inl g)))))))))))))))
  · exact (Or.inr (Or.inr (Or.inr (Or.inr (Or.inr (Or.inr (Or.inr (Or.inr (Or.inr (Or.inr (Or.inr (Or.inr (Or.inr (Or.inr (Or.inr (Or.inl g))))))))))))))))
  · exact (Or.inr (Or.inr (Or.inr (Or.inr (Or.inr (Or.inr (Or.inr (Or.inr (Or.inr (Or.inr (Or.inr (Or.inr (Or.inr (Or.inr (Or.inr (Or.inr (Or.inl g)))))))))))))))))
  · exact (Or.inr (Or.inr (Or.inr (Or.inr (Or.inr (Or.inr (Or.inr (Or.inr (Or.inr (Or.inr (Or.inr (Or.inr (Or.inr (Or.inr (Or.inr (Or.inr (Or.inr (Or.inl g))))))))))))))))))
  · exact (Or.inr (Or.inr (Or.inr (Or.inr (Or.inr (Or.inr (Or.inr (Or.inr (Or.inr (Or.inr (Or.inr (Or.inr (Or.inr (Or.inr (Or.inr (Or.inr (Or.inr (Or.inr (Or.inl g)))))))))))))))))))
  · exact (Or.inr (Or.inr (Or.inr (Or.inr (Or.inr (Or.inr (Or.inr (Or.inr (Or.inr (Or.inr (Or.inr (Or.inr (Or.inr (Or.inr (Or.inr (Or.inr (Or.inr (Or.inr (Or.inr (Or.inl g))))))))))))))))))))
  · exact (Or.inr (Or.inr (Or.inr (Or.inr (Or.inr (Or.inr (Or.inr (Or.inr (Or.inr (Or.inr (Or.inr (Or.inr (Or.inr (Or.inr (Or.inr (Or.inr (Or.inr (Or.inr (Or.inr (Or.inr (Or.inl g)))))))))))))))))))))
  · exact (Or.inr (Or.inr (Or.inr (Or.inr (Or.inr (Or.inr (Or.inr (Or.inr (Or.inr (Or.inr (Or.inr (Or.inr (Or.inr (Or.inr (Or.inr (Or.inr (Or.inr (Or.inr (Or.inr (Or.inr (Or.inr (Or.inl g))))))))))))))))))))))
  · exact (Or.inr (Or.inr (Or.inr (Or.inr (Or.inr (Or.inr (Or.inr (Or.inr (Or.inr (Or.inr (Or.inr (Or.inr (Or.inr (Or.inr (Or.inr (Or.inr (Or.inr (Or.inr (Or.inr (Or.inr (Or.inr (Or.inr (Or.inl g)))))))))))))))))))))))
  · exact (Or.inr (Or.inr (Or.inr (Or.inr (Or.inr (Or.inr (Or.inr (Or.inr (Or.inr (Or.inr (Or.inr (Or.inr (Or.inr (Or.inr (Or.inr (Or.inr (Or.inr (Or.inr (Or.inr (Or.inr (Or.inr (Or.inr (Or.inr (g))))))))))))))))))))))))
theorem bnd_dk {nl nk k j lo hi : Nat} (h1 : k ≠ 200 + nk) (h2 : k ≠ 6) (hb : bnd nl (nk + 1) k j lo hi) : bnd nl nk k j lo hi := by
  rcases hb with g | g | g | g | g | g | g | g | g | g | g | ⟨a1, a2, a3, a4, a5⟩ | ⟨a1, a2, a3, a4, a5⟩ | ⟨a1, a2, a3, a4, a5⟩ | ⟨a1, a2, a3, a4, a5⟩ | ⟨a1, a2, a3, a4, a5⟩ | ⟨a1, a2, a3, a4, a5⟩ | g | g | g | g | g | g | g
  · exact (Or.inl g)
  · exact (Or.inr (Or.inl g))
  · exact (Or.inr (Or.inr (Or.inl g)))
  · exact (Or.inr (Or.inr (Or.inr (Or.inl g))))
  · exact (Or.inr (Or.inr (Or.inr (Or.inr (Or.inl g)))))
  · exact (Or.inr (Or.inr (Or.inr (Or.inr (Or.inr (Or.inl g))))))
  · exact (Or.inr (Or.inr (Or.inr (Or.inr (Or.inr (Or.inr (Or.inl g)))))))
  · exact (Or.inr (Or.inr (Or.inr (Or.inr (Or.inr (Or.inr (Or.inr (Or.inl g))))))))
  · exact (Or.inr (Or.inr (Or.inr (Or.inr (Or.inr (Or.inr (Or.inr (Or.inr (Or.inl g)))))))))
  · exact (Or.inr (Or.inr (Or.inr (Or.inr (Or.inr (Or.inr (Or.inr (Or.inr (Or.inr (Or.inl g))))))))))
  · exact (Or.inr (Or.inr (Or.inr (Or.inr (Or.inr (Or.inr (Or.inr (Or.inr (Or.inr (Or.inr (Or.inl g)))))))))))
  · exact (Or.inr (Or.inr (Or.inr (Or.inr (Or.inr (Or.inr (Or.inr (Or.inr (Or.inr (Or.inr (Or.inr (Or.inl ⟨a1, by omega, a3, a4, a5⟩))))))))))))
  · exact (Or.inr (Or.inr (Or.inr (Or.inr (Or.inr (Or.inr (Or.inr (Or.inr (Or.inr (Or.inr (Or.inr (Or.inr (Or.inl ⟨a1, by omega, a3, a4, a5⟩)))))))))))))
  · exact (Or.inr (Or.inr (Or.inr (Or.inr (Or.inr (Or.inr (Or.inr (Or.inr (Or.inr (Or.inr (Or.inr (Or.inr (Or.inr (Or.inl ⟨a1, by omega, a3, a4, a5⟩))))))))))))))
  · exact (Or.inr (Or.inr (Or.inr (Or.inr (Or.inr (Or.inr (Or.inr (Or.inr (Or.inr (Or.inr (Or.inr (Or.inr (Or.inr (Or.inr (Or.inl ⟨a1, by omega, a3, a4, a5⟩)))))))))))))))
  · exact (Or.inr (Or.inr (Or.inr (Or.inr (Or.inr (Or.inr (Or.inr (Or.inr (Or.inr (Or.inr (Or.inr (Or.inr (Or.inr (Or.inr (Or.inr (Or.inl ⟨a1, by omega, a3, a4, a5⟩))))))))))))))))
  · exact (Or.inr (Or.inr (Or.inr (Or.inr (Or.inr (Or.inr (Or.inr (Or.inr (Or.inr (Or.inr (Or.inr (Or.inr (Or.inr (Or.inr (Or.inr (Or.inr (Or.inl ⟨a1, by omega, a3, a4, a5⟩)))))))))))))))))
  · exact absurd g.1 h2
  · exact absurd g.1 h2
  · exact (Or.inr (Or.inr (Or.inr (Or.inr (Or.inr (Or.inr (Or.inr (Or.inr (Or.inr (Or.inr (Or.inr (Or.inr (Or.inr (Or.inr (Or.inr (Or.inr (Or.inr (Or.inr (Or.inr (Or.inl g))))))))))))))))))))
  · exact (Or.inr (Or.inr (Or.inr (Or.inr (Or.inr (Or.inr (Or.inr (Or.inr (Or.inr (Or.inr (Or.inr (Or.inr (Or.inr (Or.inr (Or.inr (Or.inr (Or.inr (Or.inr (Or.inr (Or.inr (Or.inl g)))))))))))))))))))))
  · exact (Or.inr (Or.inr (Or.inr (Or.inr (Or.inr (Or.inr (Or.inr (Or.inr (Or.inr (Or.inr (Or.inr (Or.inr (Or.inr (Or.inr (Or.inr (Or.inr (Or.inr (Or.inr (Or.inr (Or.inr (Or.inr (Or.inl g))))))))))))))))))))))
  · exact (Or.inr (Or.inr (Or.inr (Or.inr (Or.inr (Or.inr (Or.inr (Or.inr (Or.inr (Or.inr (Or.inr (Or.inr (Or.inr (Or.inr (Or.inr (Or.inr (Or.inr (Or.inr (Or.inr (Or.inr (Or.inr (Or.inr (Or.inl g)))))))))))))))))))))))
  · exact (Or.inr (Or.inr (Or.inr (Or.inr (Or.inr (Or.inr (Or.inr (Or.inr (Or.inr (Or.inr (Or.inr (Or.inr (Or.inr (Or.inr (Or.inr (Or.inr (Or.inr (Or.inr (Or.inr (Or.inr (Or.inr (Or.inr (Or.inr (g))))))))))))))))))))))))
theorem lnk_dn {nl nk k j q i : Nat} (h1 : q ≠ 100 + nl) (h2 : q ≠ 120 + nl) (hb : lnk (nl + 1) nk k j q i) : lnk nl nk k j q i := by
  rcases hb with g | g | g | g | g | g | ⟨a1, a2, a3, a4⟩ | ⟨a1, a2, a3, a4⟩ | ⟨a1, a2, a3, a4⟩ | ⟨a1, a2, a3, a4, a5⟩ | g | g | g | g | g
  · exact (Or.inl g)
  · exact (Or.inr (Or.inl g))
  · exact (Or.inr (Or.inr (Or.inl g)))
  · exact (Or.inr (Or.inr (Or.inr (Or.inl g))))
  · exact (Or.inr (Or.inr (Or.inr (Or.inr (Or.inl g)))))
  · exact (Or.inr (Or.inr (Or.inr (Or.inr (Or.inr (Or.inl g))))))
  · exact (Or.inr (Or.inr (Or.inr (Or.inr (Or.inr (Or.inr (Or.inl ⟨a1, by omega, a3, a4⟩)))))))
  · exact (Or.inr (Or.inr (Or.inr (Or.inr (Or.inr (Or.inr (Or.inr (Or.inl ⟨a1, by omega, a3, a4⟩))))))))
  · exact (Or.inr (Or.inr (Or.inr (Or.inr (Or.inr (Or.inr (Or.inr (Or.inr (Or.inl ⟨a1, by omega, a3, a4⟩)))))))))
  · exact (Or.inr (Or.inr (Or.inr (Or.inr (Or.inr (Or.inr (Or.inr (Or.inr (Or.inr (Or.inl ⟨a1, a2, by omega, a4, a5⟩))))))))))
  · exact (Or.inr (Or.inr (Or.inr (Or.inr (Or.inr (Or.inr (Or.inr (Or.inr (Or.inr (Or.inr (Or.inl g)))))))))))
  · exact (Or.inr (Or.inr (Or.inr (Or.inr (Or.inr (Or.inr (Or.inr (Or.inr (Or.inr (Or.inr (Or.inr (Or.inl g))))))))))))
  · exact (Or.inr (Or.inr (Or.inr (Or.inr (Or.inr (Or.inr (Or.inr (Or.inr (Or.inr (Or.inr (Or.inr (Or.inr (Or.inl g)))))))))))))
  · exact (Or.inr (Or.inr (Or.inr (Or.inr (Or.inr (Or.inr (Or.inr (Or.inr (Or.inr (Or.inr (Or.inr (Or.inr (Or.inr (Or.inl g))))))))))))))
  · exact (Or.inr (Or.inr (Or.inr (Or.inr (Or.inr (Or.inr (Or.inr (Or.inr (Or.inr (Or.inr (Or.inr (Or.inr (Or.inr (Or.inr (g)))))))))))))))
theorem lnk_dk {nl nk k j q i : Nat} (h1 : q ≠ 200 + nk) (hb : lnk nl (nk + 1) k j q i) : lnk nl nk k j q i := by
  rcases hb with g | g | g | g | g | g | g | g | g | g | g | ⟨a1, a2, a3, a4, a5⟩ | g | g | g
  · exact (Or.inl g)
  · exact (Or.inr (Or.inl g))
  · exact (Or.inr (Or.inr (Or.inl g)))
  · exact (Or.inr (Or.inr (Or.inr (Or.inl g))))
  · exact (Or.inr (Or.inr (Or.inr (Or.inr (Or.inl g)))))
  · exact (Or.inr (Or.inr (Or.inr (Or.inr (Or.inr (Or.inl g))))))
  · exact (Or.inr (Or.inr (Or.inr (Or.inr (Or.inr (Or.inr (Or.inl g)))))))
  · exact (Or.inr (Or.inr (Or.inr (Or.inr (Or.inr (Or.inr (Or.inr (Or.inl g))))))))
  · exact (Or.inr (Or.inr (Or.inr (Or.inr (Or.inr (Or.inr (Or.inr (Or.inr (Or.inl g)))))))))
  · exact (Or.inr (Or.inr (Or.inr (Or.inr (Or.inr (Or.inr (Or.inr (Or.inr (Or.inr (Or.inl g))))))))))
  · exact (Or.inr (Or.inr (Or.inr (Or.inr (Or.inr (Or.inr (Or.inr (Or.inr (Or.inr (Or.inr (Or.inl g)))))))))))
  · exact (Or.inr (Or.inr (Or.inr (Or.inr (Or.inr (Or.inr (Or.inr (Or.inr (Or.inr (Or.inr (Or.inr (Or.inl ⟨a1, a2, by omega, a4, a5⟩))))))))))))
  · exact (Or.inr (Or.inr (Or.inr (Or.inr (Or.inr (Or.inr (Or.inr (Or.inr (Or.inr (Or.inr (Or.inr (Or.inr (Or.inl g)))))))))))))
  · exact (Or.inr (Or.inr (Or.inr (Or.inr (Or.inr (Or.inr (Or.inr (Or.inr (Or.inr (Or.inr (Or.inr (Or.inr (Or.inr (Or.inl g))))))))))))))
  · exact (Or.inr (Or.inr (Or.inr (Or.inr (Or.inr (Or.inr (Or.inr (Or.inr (Or.inr (Or.inr (Or.inr (Or.inr (Or.inr (Or.inr (g)))))))))))))))
theorem bnd_100 {nl nk j lo hi : Nat} (h : nl < 16) (hb : bnd (nl + 1) nk (100 + nl) j lo hi) : (j = 0 ∧ lo = 1 ∧ hi = 5) ∨ (j = 1 ∧ lo = 1 ∧ hi = 9) ∨ (j = 2 ∧ lo = 1 ∧ hi = 99) := by
  rcases hb with g | g | g | g | g | g | g | g | g | g | g | g | g | g | g | g | g | g | g | g | g | g | g | g
  · exfalso; omega
  · exfalso; omega
  · exfalso; omega
  · exact Or.inl g.2.2
  · exact Or.inr (Or.inl g.2.2)
  · exact Or.inr (Or.inr g.2.2)
  · exfalso; omega
  · exfalso; omega
  · exfalso; omega
  · exfalso; omega
  · exfalso; omega
  · exfalso; omega
  · exfalso; omega
  · exfalso; omega
  · exfalso; omega
  · exfalso; omega
  · exfalso; omega
  · exfalso; omega
  · exfalso; omega
  · exfalso; omega
  · exfalso; omega
  · exfalso; omega
  · exfalso; omega
  · exfalso; omega
theorem bnd_120 {nl nk j lo hi : Nat} (h : nl < 16) (hb : bnd (nl + 1) nk (120 + nl) j lo hi) : lo = 0 := by
  rcases hb with g | g | g | g | g | g | g | g | g | g | g | g | g | g | g | g | g | g | g | g | g | g | g | g
  · exfalso; omega
  · exfalso; omega
  · exfalso; omega
  · exfalso; omega
  · exfalso; omega
  · exfalso; omega
  · exact g.2.2.2.1
  · exfalso; omega
  · exfalso; omega
  · exfalso; omega
  · exfalso; omega
  · exfalso; omega
  · exfalso; omega
  · exfalso; omega
  · exfalso; omega
  · exfalso; omega
  · exfalso; omega
  · exfalso; omega
  · exfalso; omega
  · exfalso; omega
  · exfalso; omega
  · exfalso; omega
  · exfalso; omega
  · exfalso; omega
theorem bnd_200 {nl nk j lo hi : Nat} (h : nl ≤ 16) (hb : bnd nl (nk + 1) (200 + nk) j lo hi) : (j = 0 ∧ lo = 0 ∧ hi = 7) ∨ (j = 1 ∧ lo = 0 ∧ hi = 9) ∨ (j = 2 ∧ lo = 0 ∧ hi = 999) ∨ (j = 3 ∧ lo = 0 ∧ hi = 1600000) ∨ (j = 4 ∧ lo = 0 ∧ hi = 40000) ∨ (j = 5 ∧ lo = 0 ∧ hi = 40000) := by
  rcases hb with g | g | g | g | g | g | g | g | g | g | g | g | g | g | g | g | g | g | g | g | g | g | g | g
  · exfalso; omega
  · exfalso; omega
  · exfalso; omega
  · exfalso; omega
  · exfalso; omega
  · exfalso; omega
  · exfalso; omega
  · exfalso; omega
  · exfalso; omega
  · exfalso; omega
  · exfalso; omega
  · exact (Or.inl g.2.2)
  · exact (Or.inr (Or.inl g.2.2))
  · exact (Or.inr (Or.inr (Or.inl g.2.2)))
  · exact (Or.inr (Or.inr (Or.inr (Or.inl g.2.2))))
  · exact (Or.inr (Or.inr (Or.inr (Or.inr (Or.inl g.2.2)))))
  · exact (Or.inr (Or.inr (Or.inr (Or.inr (Or.inr (g.2.2))))))
  · exfalso; omega
  · exfalso; omega
  · exfalso; omega
  · exfalso; omega
  · exfalso; omega
  · exfalso; omega
  · exfalso; omega
theorem bnd_6 {nl nk j lo hi : Nat} (h : nl ≤ 16) (hb : bnd nl nk 6 j lo hi) : (j = 2 ∨ j = 3) ∧ lo = 0 ∧ hi = 40000 * nk := by
  rcases hb with g | g | g | g | g | g | g | g | g | g | g | g | g | g | g | g | g | g | g | g | g | g | g | g
  · exfalso; omega
  · exfalso; omega
  · exfalso; omega
  · exfalso; omega
  · exfalso; omega
  · exfalso; omega
  · exfalso; omega
  · exfalso; omega
  · exfalso; omega
  · exfalso; omega
  · exfalso; omega
  · exfalso; omega
  · exfalso; omega
  · exfalso; omega
  · exfalso; omega
  · exfalso; omega
  · exfalso; omega
  · exact ⟨Or.inl g.2.1, g.2.2⟩
  · exact ⟨Or.inr g.2.1, g.2.2⟩
  · exfalso; omega
  · exfalso; omega
  · exfalso; omega
  · exfalso; omega
  · exfalso; omega
theorem bnd_sh1 {nl nk s lo hi : Nat} (hs : s < 4) (h : nl ≤ 16) (hb : bnd nl nk (40 + s) 1 lo hi) : lo = 0 ∧ hi = 1 := by
  rcases hb with g | g | g | g | g | g | g | g | g | g | g | g | g | g | g | g | g | g | g | g | g | g | g | g
  · exfalso; omega
  · exfalso; omega
  · exfalso; omega
  · exfalso; omega
  · exfalso; omega
  · exfalso; omega
  · exfalso; omega
  · exfalso; omega
  · exfalso; omega
  · exfalso; omega
  · exfalso; omega
  · exfalso; omega
  · exfalso; omega
  · exfalso; omega
  · exfalso; omega
  · exfalso; omega
  · exfalso; omega
  · exfalso; omega
  · exfalso; omega
  · exact g.2.2.2
  · exfalso; omega
  · exfalso; omega
  · exfalso; omega
  · exfalso; omega
theorem bnd_sh2 {nl nk s lo hi : Nat} (hs : s < 4) (h : nl ≤ 16) (hb : bnd nl nk (40 + s) 2 lo hi) : lo = 0 ∧ hi = 2 := by
  rcases hb with g | g | g | g | g | g | g | g | g | g | g | g | g | g | g | g | g | g | g | g | g | g | g | g
  · exfalso; omega
  · exfalso; omega
  · exfalso; omega
  · exfalso; omega
  · exfalso; omega
  · exfalso; omega
  · exfalso; omega
  · exfalso; omega
  · exfalso; omega
  · exfalso; omega
  · exfalso; omega
  · exfalso; omega
  · exfalso; omega
  · exfalso; omega
  · exfalso; omega
  · exfalso; omega
  · exfalso; omega
  · exfalso; omega
  · exfalso; omega
  · exfalso; omega
  · exact g.2.2.2
  · exfalso; omega
  · exfalso; omega
  · exfalso; omega
theorem bnd_sh3 {nl nk s lo hi : Nat} (hs : s < 4) (h : nl ≤ 16) (hb : bnd nl nk (40 + s) 3 lo hi) : lo = 0 ∧ hi = 60 := by
  rcases hb with g | g | g | g | g | g | g | g | g | g | g | g | g | g | g | g | g | g | g | g | g | g | g | g
  · exfalso; omega
  · exfalso; omega
  · exfalso; omega
  · exfalso; omega
  · exfalso; omega
  · exfalso; omega
  · exfalso; omega
  · exfalso; omega
  · exfalso; omega
  · exfalso; omega
  · exfalso; omega
  · exfalso; omega
  · exfalso; omega
  · exfalso; omega
  · exfalso; omega
  · exfalso; omega
  · exfalso; omega
  · exfalso; omega
  · exfalso; omega
  · exfalso; omega
  · exfalso; omega
  · exact g.2.2.2
  · exfalso; omega
  · exfalso; omega
theorem bnd_20 {nl nk w lo hi : Nat} (hs : w < 8) (h : nl ≤ 16) (hb : bnd nl nk (20 + w) 1 lo hi) : lo = 0 ∧ hi = 10 := by
  rcases hb with g | g | g | g | g | g | g | g | g | g | g | g | g | g | g | g | g | g | g | g | g | g | g | g
  · exfalso; omega
  · exfalso; omega
  · exact g.2.2.2
  · exfalso; omega
  · exfalso; omega
  · exfalso; omega
  · exfalso; omega
  · exfalso; omega
  · exfalso; omega
  · exfalso; omega
  · exfalso; omega
  · exfalso; omega
  · exfalso; omega
  · exfalso; omega
  · exfalso; omega
  · exfalso; omega
  · exfalso; omega
  · exfalso; omega
  · exfalso; omega
  · exfalso; omega
  · exfalso; omega
  · exfalso; omega
  · exfalso; omega
  · exfalso; omega
theorem lnk_100 {nl nk k j i : Nat} (h : nl < 16) (hb : lnk (nl + 1) nk k j (100 + nl) i) : (k = 303 ∧ j = nl ∧ i = 0) ∨ (k = 304 ∧ j = nl ∧ i = 1) ∨ (k = 305 ∧ j = nl ∧ i = 2) := by
  rcases hb with g | g | g | g | g | g | g | g | g | g | g | g | g | g | g
  · exfalso; omega
  · exfalso; omega
  · exfalso; omega
  · exfalso; omega
  · exfalso; omega
  · exfalso; omega
  · exact Or.inl ⟨g.1, by omega, g.2.2.2⟩
  · exact Or.inr (Or.inl ⟨g.1, by omega, g.2.2.2⟩)
  · exact Or.inr (Or.inr ⟨g.1, by omega, g.2.2.2⟩)
  · exfalso; omega
  · exfalso; omega
  · exfalso; omega
  · exfalso; omega
  · exfalso; omega
  · exfalso; omega
theorem lnk_120 {nl nk k j i : Nat} (h : nl < 16) (hb : lnk (nl + 1) nk k j (120 + nl) i) : k = 306 ∧ i < 5 ∧ j = 5 * nl + i := by
  rcases hb with g | g | g | g | g | g | g | g | g | g | g | g | g | g | g
  · exfalso; omega
  · exfalso; omega
  · exfalso; omega
  · exfalso; omega
  · exfalso; omega
  · exfalso; omega
  · exfalso; omega
  · exfalso; omega
  · exfalso; omega
  · exact ⟨g.1, g.2.2.2.1, by omega⟩
  · exfalso; omega
  · exfalso; omega
  · exfalso; omega
  · exfalso; omega
  · exfalso; omega
theorem lnk_200 {nl nk k j i : Nat} (h : nl ≤ 16) (hb : lnk nl (nk + 1) k j (200 + nk) i) : k = 319 ∧ i < 6 ∧ j = 6 * nk + i := by
  rcases hb with g | g | g | g | g | g | g | g | g | g | g | g | g | g | g
  · exfalso; omega
  · exfalso; omega
  · exfalso; omega
  · exfalso; omega
  · exfalso; omega
  · exfalso; omega
  · exfalso; omega
  · exfalso; omega
  · exfalso; omega
  · exfalso; omega
  · exfalso; omega
  · exact ⟨g.1, g.2.2.2.1, by omega⟩
  · exfalso; omega
  · exfalso; omega
  · exfalso; omega
theorem lnk_6 {nl nk k j i : Nat} (h : nl ≤ 16) (hb : lnk nl nk k j 6 i) : (k = 300 ∧ j = 19 ∧ i = 2) ∨ (k = 300 ∧ j = 20 ∧ i = 3) := by
  rcases hb with g | g | g | g | g | g | g | g | g | g | g | g | g | g | g
  · exfalso; omega
  · exfalso; omega
  · exact Or.inl ⟨g.1, g.2.1, g.2.2.2⟩
  · exact Or.inr ⟨g.1, g.2.1, g.2.2.2⟩
  · exfalso; omega
  · exfalso; omega
  · exfalso; omega
  · exfalso; omega
  · exfalso; omega
  · exfalso; omega
  · exfalso; omega
  · exfalso; omega
  · exfalso; omega
  · exfalso; omega
  · exfalso; omega
theorem lnk_c3 {nl nk k j q i : Nat} (hb : lnk nl nk k j q i) : (k = 303 ∨ k = 304 ∨ k = 305) → j < nl := by
  rcases hb with g | g | g | g | g | g | g | g | g | g | g | g | g | g | g <;> omega
theorem lnk_c9 {nl nk k j q i : Nat} (h6 : q ≠ 6) (hb : lnk nl nk k j q i) : (k = 319 → j < 6 * nk) ∧ ¬ (k = 300 ∧ (j = 19 ∨ j = 20 ∨ j = 17)) := by
  rcases hb with g | g | g | g | g | g | g | g | g | g | g | g | g | g | g <;> omega
section INVS
variable {L : List Nat} {c c' : Nat → Nat → Int32} {r : Nat → Nat → Option Nat} {nl nk : Nat} {x : Nat → Nat → Nat}
theorem INV_sheet (hV : INV L c r nl nk x) {s f m : Nat} (hs : s < 4) (hf : f ≤ 2) (hm60 : m ≤ 60) (q1 : ∀ k j, k < 300 → ¬ (k = 40 + s ∧ (j = 1 ∨ j = 2 ∨ j = 3)) → k ≠ 50 + s → c' k j = c k j) (q2 : c' (40 + s) 1 = nI 0) (q3 : c' (40 + s) 2 = nI f) (q4 : c' (40 + s) 3 = nI m) (q5 : ∀ i, i < 60 → c' (50 + s) i = nI 0)
    (p1 : ∀ k j, 300 ≤ k → ¬ (k = 324 ∧ j = s) → ¬ (k = 325 ∧ j = s) → ¬ (k = 326 ∧ 60 * s ≤ j ∧ j < 60 * s + m) → c' k j = c k j) (p2 : c' 324 s = nI f) (p3 : c' 325 s = nI m) (p4 : ∀ i, i < m → c' 326 (60 * s + i) = nI 0) : INV L c' r nl nk x := by
  obtain ⟨hL, hR, hM, hI, hX, hK, hZ, hF, hG⟩ := hV
  have h16 := CI_nl16 hI
  have hk4 := CI_nk40 hI
  have hn : ∀ k j, k < 300 → ¬ (k = 40 + s ∧ (j = 1 ∨ j = 2 ∨ j = 3)) → k ≠ 50 + s → nn c' k j = nn c k j := fun k j a b e => by unfold nn; rw [q1 k j a b e]
  have hn1 : nn c' (40 + s) 1 = 0 := by unfold nn; rw [q2]; exact nI_clamp (by decide)
  have hn3 : nn c' (40 + s) 3 = m := by unfold nn; rw [q4]; exact nI_clamp (by omega)
  refine ⟨hL, hR, hM, ?_, fun w hw i hi => hX w hw i (by rw [hn _ _ (by omega) (by omega) (by omega)] at hi; exact hi), ?_, hZ, hF, hG⟩
  · refine CI_new hI h16 hk4 ((q1 0 1 (by omega) (by omega) (by omega)).trans (CI_nl hI)) ((q1 6 1 (by omega) (by omega) (by omega)).trans (CI_nk hI)) (fun k j lo hi hb => ?_)
    have hb' := bnd_lt h16 hk4 hb
    by_cases e : k = 40 + s ∧ (j = 1 ∨ j = 2 ∨ j = 3)
    · obtain ⟨rfl, rfl | rfl | rfl⟩ := e
      · have e2 := bnd_sh1 hs h16 hb
        exact Or.inr ⟨0, q2, by omega, by omega⟩
      · have e2 := bnd_sh2 hs h16 hb
        exact Or.inr ⟨f, q3, by omega, by omega⟩
      · have e2 := bnd_sh3 hs h16 hb
        exact Or.inr ⟨m, q4, by omega, by omega⟩
    · exact Or.inl ⟨hb, q1 k j hb'.1 e (by omega)⟩
  · refine LK_mk ((p1 300 1 (by omega) (by omega) (by omega) (by omega)).trans (LK_nl hK)) ((p1 300 17 (by omega) (by omega) (by omega) (by omega)).trans (LK_nk hK)) (fun k j q i hg => ?_) (fun i h1 h2 j hj => (p1 306 _ (by omega) (by omega) (by omega) (by omega)).trans (LK_z hK h1 h2 hj)) (fun w hw i hi => (p1 308 _ (by omega) (by omega) (by omega) (by omega)).trans (LK_x hK hw (by rw [hn _ _ (by omega) (by omega) (by omega)] at hi; exact hi))) (fun t ht => ?_) (fun t ht i hi => ?_)
    · have hq2 := lnk_f h16 hk4 hg
      have hl : lnk nl nk 325 s (40 + s) 3 := (Or.inr (Or.inr (Or.inr (Or.inr (Or.inr (Or.inr (Or.inr (Or.inr (Or.inr (Or.inr (Or.inr (Or.inr (Or.inr (Or.inr (⟨rfl, hs, rfl, rfl⟩)))))))))))))))
      have hj := lnk_inj h16 hk4 hg hl
      by_cases e : k = 325 ∧ j = s
      · have e2 := hj.mp e
        rw [e.1, e.2, e2.1, e2.2, p3, q4]
      · have e2 : ¬ (q = 40 + s ∧ i = 3) := fun z => e (hj.mpr z)
        rw [p1 k j hq2.1.1 (by omega) e (by omega), q1 q i hq2.1.2 (by omega) (by omega)]; exact LK_l hK hg
    · by_cases e : t = s
      · subst e; rw [p2, hn1, q3]; rfl
      · rw [p1 324 t (by omega) (by omega) (by omega) (by omega), q1 (40 + t) 2 (by omega) (by omega) (by omega), hn (40 + t) 1 (by omega) (by omega) (by omega)]; exact LK_fo hK ht
    · by_cases e : t = s
      · subst e; rw [hn3] at hi
        rw [p4 i hi, q5 i (by omega)]
      · rw [hn (40 + t) 3 (by omega) (by omega) (by omega)] at hi
        have h61 := (CI_sh hI ht).2.2.2.2
        rw [p1 326 _ (by omega) (by omega) (by omega) (by omega), q1 (50 + t) i (by omega) (by omega) (by omega)]; exact LK_it hK ht hi
theorem INV_copy (hV : INV L c r nl nk x) {sa i0 sb j0 n : Nat} (hsa : sa < 4) (hsb : sb < 4) (hi0 : i0 + n ≤ nn c (40 + sa) 3) (hj0 : j0 + n ≤ nn c (40 + sb) 3) (q1 : ∀ k j, k < 300 → k ≠ 50 + sb → c' k j = c k j) (q2 : ∀ q, c' (50 + sb) q = if j0 ≤ q ∧ q < j0 + n then c (50 + sa) (i0 + (q - j0)) else c (50 + sb) q)
    (p1 : ∀ k j, 300 ≤ k → k ≠ 326 → k ≠ 327 → c' k j = c k j) (p2 : ∀ q, c' 326 q = if 60 * sb + j0 ≤ q ∧ q < 60 * sb + j0 + n then c 326 (60 * sa + i0 + (q - (60 * sb + j0))) else c 326 q) : INV L c' r nl nk x := by
  obtain ⟨hL, hR, hM, hI, hX, hK, hZ, hF, hG⟩ := hV
  have h16 := CI_nl16 hI
  have hk4 := CI_nk40 hI
  have hn : ∀ k j, k < 300 → k ≠ 50 + sb → nn c' k j = nn c k j := fun k j a b => by unfold nn; rw [q1 k j a b]
  have h60 := (CI_sh hI hsb).2.2.2.2
  refine ⟨hL, hR, hM, ?_, fun w hw i hi => hX w hw i (by rw [hn _ _ (by omega) (by omega)] at hi; exact hi), ?_, hZ, hF, hG⟩
  · refine CI_new hI h16 hk4 ((q1 0 1 (by omega) (by omega)).trans (CI_nl hI)) ((q1 6 1 (by omega) (by omega)).trans (CI_nk hI)) (fun k j lo hi hb => ?_)
    have hb' := bnd_lt h16 hk4 hb
    exact Or.inl ⟨hb, q1 k j hb'.1 (by omega)⟩
  · refine LK_mk ((p1 300 1 (by omega) (by omega) (by omega)).trans (LK_nl hK)) ((p1 300 17 (by omega) (by omega) (by omega)).trans (LK_nk hK)) (fun k j q i hg => ?_) (fun i h1 h2 j hj => (p1 306 _ (by omega) (by omega) (by omega)).trans (LK_z hK h1 h2 hj)) (fun w hw i hi => (p1 308 _ (by omega) (by omega) (by omega)).trans (LK_x hK hw (by rw [hn _ _ (by omega) (by omega)] at hi; exact hi))) (fun t ht => ?_) (fun t ht q hq => ?_)
    · have hq2 := lnk_f h16 hk4 hg
      rw [p1 k j hq2.1.1 (by omega) (by omega), q1 q i hq2.1.2 (by omega)]; exact LK_l hK hg
    · rw [p1 324 t (by omega) (by omega) (by omega), q1 (40 + t) 2 (by omega) (by omega), hn (40 + t) 1 (by omega) (by omega)]; exact LK_fo hK ht
    · rw [hn (40 + t) 3 (by omega) (by omega)] at hq
      have h61 := (CI_sh hI ht).2.2.2.2
      by_cases e : t = sb
      · subst e
        rw [p2, q2]
        by_cases e2 : j0 ≤ q ∧ q < j0 + n
        · rw [if_pos e2, if_pos (by omega), show 60 * sa + i0 + (60 * t + q - (60 * t + j0)) = 60 * sa + (i0 + (q - j0)) by omega]
          exact LK_it hK hsa (by omega)
        · rw [if_neg e2, if_neg (by omega)]; exact LK_it hK ht hq
      · rw [p2, if_neg (by omega), q1 (50 + t) q (by omega) (by omega)]; exact LK_it hK ht hq
theorem INV_spell (hV : INV L c r nl nk x) {w n q : Nat} (hw : w < 8) (hn0 : nn c (20 + w) 1 = n) (hn10 : n < 10) (hq : q < nl) : INV L (up2 (up2 (up2 c (20 + w) 1 (nI (n + 1))) 308 (10 * w + n) (nI q)) 307 w (nI (n + 1))) (up2 r (30 + w) n (some (100 + q))) nl nk (fun w' i' => if w' = w ∧ i' = n then q else x w' i') := by
  obtain ⟨hL, hR, hM, hI, hX, hK, hZ, hF, hG⟩ := hV
  have h16 := CI_nl16 hI
  have hk4 := CI_nk40 hI
  have q1 : ∀ k j, k < 300 → ¬ (k = 20 + w ∧ j = 1) → up2 (up2 (up2 c (20 + w) 1 (nI (n + 1))) 308 (10 * w + n) (nI q)) 307 w (nI (n + 1)) k j = c k j := fun k j a b => by rw [up2_ne _ _ (by omega), up2_ne _ _ (by omega), up2_ne _ _ b]
  have q2 : up2 (up2 (up2 c (20 + w) 1 (nI (n + 1))) 308 (10 * w + n) (nI q)) 307 w (nI (n + 1)) (20 + w) 1 = nI (n + 1) := by rw [up2_ne _ _ (by omega), up2_ne _ _ (by omega), up2_self]
  have p1 : ∀ k j, 300 ≤ k → ¬ (k = 308 ∧ j = 10 * w + n) → ¬ (k = 307 ∧ j = w) → up2 (up2 (up2 c (20 + w) 1 (nI (n + 1))) 308 (10 * w + n) (nI q)) 307 w (nI (n + 1)) k j = c k j := fun k j a b e => by rw [up2_ne _ _ e, up2_ne _ _ b, up2_ne _ _ (by omega)]
  have p2 : up2 (up2 (up2 c (20 + w) 1 (nI (n + 1))) 308 (10 * w + n) (nI q)) 307 w (nI (n + 1)) 308 (10 * w + n) = nI q := by rw [up2_ne _ _ (by omega), up2_self]
  have p3 : up2 (up2 (up2 c (20 + w) 1 (nI (n + 1))) 308 (10 * w + n) (nI q)) 307 w (nI (n + 1)) 307 w = nI (n + 1) := up2_self _ _ _ _
  generalize up2 (up2 (up2 c (20 + w) 1 (nI (n + 1))) 308 (10 * w + n) (nI q)) 307 w (nI (n + 1)) = c' at q1 q2 p1 p2 p3 ⊢
  have hn : ∀ k j, k < 300 → ¬ (k = 20 + w ∧ j = 1) → nn c' k j = nn c k j := fun k j a b => by unfold nn; rw [q1 k j a b]
  have hn1 : nn c' (20 + w) 1 = n + 1 := by unfold nn; rw [q2]; exact nI_clamp (by omega)
  have hr : ∀ k, k ≠ 30 + w → up2 r (30 + w) n (some (100 + q)) k = r k := fun k hk => up2_row r n _ hk
  have hold : ∀ w', w' < 8 → ∀ i', i' < nn c' (20 + w') 1 → ¬ (w' = w ∧ i' = n) → i' < nn c (20 + w') 1 := fun w' hw' i' hi' hne => by
    by_cases e : w' = w
    · subst e; rw [hn1] at hi'; rw [hn0]; omega
    · rw [hn _ _ (by omega) (by omega)] at hi'; exact hi'
  have hz10 := fun w' (hw' : w' < 8) => (CI_sz hI hw').2.2
  refine ⟨hL, ?_, ?_, ?_, ?_, ?_, zR_put hZ _ _ (hL _ (by unfold live; omega)), hF, hG⟩
  · obtain ⟨⟨b0, b1, b2, b3, b4, b5, b6, b7, b8, b9, b10⟩, e1, e2, e3, e4⟩ := hR
    refine ⟨?_, fun t ht => ?_, fun t ht => ?_, fun t ht => ?_, fun t ht => ?_⟩
    · rw [hr 0 (by omega), hr 3 (by omega), hr 6 (by omega)]; exact ⟨b0, b1, b2, b3, b4, b5, b6, b7, b8, b9, b10⟩
    · rw [hr 2 (by omega), hr (20 + t) (by omega)]; exact e1 t ht
    · rw [hr 11 (by omega), hr (40 + t) (by omega)]; exact e2 t ht
    · rw [hr 1 (by omega), hr (100 + t) (by omega)]; exact e3 t ht
    · rw [hr 7 (by omega)]; exact e4 t ht
  · unfold RM; rw [hr 300 (by omega)]; exact hM
  · refine CI_new hI h16 hk4 ((q1 0 1 (by omega) (by omega)).trans (CI_nl hI)) ((q1 6 1 (by omega) (by omega)).trans (CI_nk hI)) (fun k j lo hi hb => ?_)
    have hb' := bnd_lt h16 hk4 hb
    by_cases e : k = 20 + w ∧ j = 1
    · obtain ⟨rfl, rfl⟩ := e
      have e2 := bnd_20 hw h16 hb
      exact Or.inr ⟨n + 1, q2, by omega, by omega⟩
    · exact Or.inl ⟨hb, q1 k j hb'.1 e⟩
  · intro w' hw' i' hi'
    by_cases e : w' = w ∧ i' = n
    · obtain ⟨rfl, rfl⟩ := e
      refine ⟨?_, ?_⟩
      · show up2 r (30 + w') i' (some (100 + q)) (30 + w') i' = some (100 + (if w' = w' ∧ i' = i' then q else x w' i'))
        rw [up2_self, if_pos ⟨rfl, rfl⟩]
      · show (if w' = w' ∧ i' = i' then q else x w' i') < nl
        rw [if_pos ⟨rfl, rfl⟩]; exact hq
    · have ho := hX w' hw' i' (hold w' hw' i' hi' e)
      refine ⟨?_, ?_⟩
      · show up2 r (30 + w) n (some (100 + q)) (30 + w') i' = some (100 + (if w' = w ∧ i' = n then q else x w' i'))
        rw [if_neg e, up2_ne _ _ (by omega)]; exact ho.1
      · show (if w' = w ∧ i' = n then q else x w' i') < nl
        rw [if_neg e]; exact ho.2
  · refine LK_mk ((p1 300 1 (by omega) (by omega) (by omega)).trans (LK_nl hK)) ((p1 300 17 (by omega) (by omega) (by omega)).trans (LK_nk hK)) (fun k j q' i hg => ?_) (fun i h1 h2 j hj => (p1 306 _ (by omega) (by omega) (by omega)).trans (LK_z hK h1 h2 hj)) (fun w' hw' i' hi' => ?_) (fun t ht => ?_) (fun t ht i hi => ?_)
    · have hq2 := lnk_f h16 hk4 hg
      have hl : lnk nl nk 307 w (20 + w) 1 := (Or.inr (Or.inr (Or.inr (Or.inr (Or.inr (Or.inr (Or.inr (Or.inr (Or.inr (Or.inr (Or.inl ⟨rfl, hw, rfl, rfl⟩)))))))))))
      have hj := lnk_inj h16 hk4 hg hl
      by_cases e : k = 307 ∧ j = w
      · have e2 := hj.mp e
        rw [e.1, e.2, e2.1, e2.2, p3, q2]
      · rw [p1 k j hq2.1.1 (by omega) e, q1 q' i hq2.1.2 (fun z => e (hj.mpr z))]; exact LK_l hK hg
    · show c' 308 (10 * w' + i') = nI (if w' = w ∧ i' = n then q else x w' i')
      by_cases e : w' = w ∧ i' = n
      · rw [if_pos e, e.1, e.2, p2]
      · have ho := hold w' hw' i' hi' e
        have hz := hz10 w' hw'
        rw [if_neg e, p1 308 _ (by omega) (by omega) (by omega)]; exact LK_x hK hw' ho
    · rw [p1 324 t (by omega) (by omega) (by omega), q1 (40 + t) 2 (by omega) (by omega), hn (40 + t) 1 (by omega) (by omega)]; exact LK_fo hK ht
    · rw [hn (40 + t) 3 (by omega) (by omega)] at hi
      rw [p1 326 _ (by omega) (by omega) (by omega), q1 (50 + t) i (by omega) (by omega)]; exact LK_it hK ht hi
theorem INV_letter (hV : INV L c r nl nk x) {a1 a2 a3 : Nat} (hnl : nl < 16) (g1 : 1 ≤ a1 ∧ a1 ≤ 5) (g2 : 1 ≤ a2 ∧ a2 ≤ 9) (g3 : 1 ≤ a3 ∧ a3 ≤ 99) (q1 : ∀ k j, k < 300 → k ≠ 100 + nl → k ≠ 120 + nl → ¬ (k = 0 ∧ j = 1) → c' k j = c k j) (q2 : c' 0 1 = nI (nl + 1)) (q3 : c' (100 + nl) 0 = nI a1) (q4 : c' (100 + nl) 1 = nI a2) (q5 : c' (100 + nl) 2 = nI a3) (q6 : ∀ j, c' (120 + nl) j = 0)
    (p1 : ∀ k j, 300 ≤ k → ¬ (k = 303 ∧ j = nl) → ¬ (k = 304 ∧ j = nl) → ¬ (k = 305 ∧ j = nl) → ¬ (k = 300 ∧ j = 1) → c' k j = c k j) (p2 : c' 303 nl = nI a1) (p3 : c' 304 nl = nI a2) (p4 : c' 305 nl = nI a3) (p5 : c' 300 1 = nI (nl + 1)) : INV (L ++ [100 + nl] ++ [120 + nl]) c' (up2 (up2 (up1 (up1 r (100 + nl) (fun _ => none)) (120 + nl) (fun _ => none)) (100 + nl) 3 (some (120 + nl))) 1 nl (some (100 + nl))) (nl + 1) nk x := by
  obtain ⟨hL, hR, hM, hI, hX, hK, hZ, hF, hG⟩ := hV
  have h16 := CI_nl16 hI
  have hk4 := CI_nk40 hI
  have hn : ∀ k j, k < 300 → k ≠ 100 + nl → k ≠ 120 + nl → ¬ (k = 0 ∧ j = 1) → nn c' k j = nn c k j := fun k j a b e f => by unfold nn; rw [q1 k j a b e f]
  have m1 : 100 + nl ∈ L ++ [100 + nl] ++ [120 + nl] := by simp
  have m2 : 120 + nl ∈ L ++ [100 + nl] ++ [120 + nl] := by simp
  have hr : ∀ k, k ≠ 100 + nl → k ≠ 120 + nl → k ≠ 1 → up2 (up2 (up1 (up1 r (100 + nl) (fun _ => none)) (120 + nl) (fun _ => none)) (100 + nl) 3 (some (120 + nl))) 1 nl (some (100 + nl)) k = r k := fun k b e f => by rw [up2_row _ _ _ f, up2_row _ _ _ b, up1_k _ _ e, up1_k _ _ b]
  refine ⟨fun k hk => ?_, ?_, ?_, ?_, ?_, ?_, zR_put (zR_put (zR_new (zR_new hZ (100 + nl)) (120 + nl)) (100 + nl) 3 m2) 1 nl m1, fun i h1 h2 => ?_, fun k h1 h2 => ?_⟩
  · by_cases e1 : k = 100 + nl
    · rw [e1]; exact m1
    · by_cases e2 : k = 120 + nl
      · rw [e2]; exact m2
      · exact List.mem_append_left _ (List.mem_append_left _ (hL k (by unfold live at hk ⊢; omega)))
  · obtain ⟨⟨b0, b1, b2, b3, b4, b5, b6, b7, b8, b9, b10⟩, e1, e2, e3, e4⟩ := hR
    refine ⟨?_, fun t ht => ?_, fun t ht => ?_, fun t ht => ?_, fun t ht => ?_⟩
    · rw [hr 0 (by omega) (by omega) (by omega), hr 3 (by omega) (by omega) (by omega), hr 6 (by omega) (by omega) (by omega)]; exact ⟨b0, b1, b2, b3, b4, b5, b6, b7, b8, b9, b10⟩
    · rw [hr 2 (by omega) (by omega) (by omega), hr (20 + t) (by omega) (by omega) (by omega)]; exact e1 t ht
    · rw [hr 11 (by omega) (by omega) (by omega), hr (40 + t) (by omega) (by omega) (by omega)]; exact e2 t ht
    · by_cases e : t = nl
      · subst e
        refine ⟨up2_self _ _ _ _, ?_⟩
        rw [up2_row _ _ _ (by omega), up2_self]
      · refine ⟨?_, ?_⟩
        · rw [up2_ne _ _ (by omega), up2_ne _ _ (by omega), up1_k _ _ (by omega), up1_k _ _ (by omega)]; exact (e3 t (by omega)).1
        · rw [hr (100 + t) (by omega) (by omega) (by omega)]; exact (e3 t (by omega)).2
    · rw [hr 7 (by omega) (by omega) (by omega)]; exact e4 t ht
  · unfold RM; rw [hr 300 (by omega) (by omega) (by omega)]; exact hM
  · refine CI_new hI (by omega) hk4 q2 ((q1 6 1 (by omega) (by omega) (by omega) (by omega)).trans (CI_nk hI)) (fun k j lo hi hb => ?_)
    have hb' := bnd_lt (by omega) hk4 hb
    by_cases e : k = 100 + nl
    · subst e
      have e2 := bnd_100 hnl hb
      rcases e2 with ⟨rfl, rfl, rfl⟩ | ⟨rfl, rfl, rfl⟩ | ⟨rfl, rfl, rfl⟩
      · exact Or.inr ⟨a1, q3, g1⟩
      · exact Or.inr ⟨a2, q4, g2⟩
      · exact Or.inr ⟨a3, q5, g3⟩
    · by_cases e3 : k = 120 + nl
      · subst e3
        have e2 := bnd_120 hnl hb
        exact Or.inr ⟨0, q6 j, by omega, by omega⟩
      · exact Or.inl ⟨bnd_dn e e3 hb, q1 k j hb'.1 e e3 (by omega)⟩
  · intro w hw i hi
    rw [hn _ _ (by omega) (by omega) (by omega) (by omega)] at hi
    have ho := hX w hw i hi
    rw [hr (30 + w) (by omega) (by omega) (by omega)]
    exact ⟨ho.1, by omega⟩
  · refine LK_mk p5 ((p1 300 17 (by omega) (by omega) (by omega) (by omega) (by omega)).trans (LK_nk hK)) (fun k j q i hg => ?_) (fun i h1 h2 j hj => (p1 306 _ (by omega) (by omega) (by omega) (by omega) (by omega)).trans (LK_z hK (by omega) h2 hj)) (fun w hw i hi => (p1 308 _ (by omega) (by omega) (by omega) (by omega) (by omega)).trans (LK_x hK hw (by rw [hn _ _ (by omega) (by omega) (by omega) (by omega)] at hi; exact hi))) (fun t ht => ?_) (fun t ht i hi => ?_)
    · by_cases e : q = 100 + nl
      · subst e
        have e2 := lnk_100 hnl hg
        rcases e2 with ⟨rfl, rfl, rfl⟩ | ⟨rfl, rfl, rfl⟩ | ⟨rfl, rfl, rfl⟩
        · rw [p2, q3]
        · rw [p3, q4]
        · rw [p4, q5]
      · by_cases e3 : q = 120 + nl
        · subst e3
          have e2 := lnk_120 hnl hg
          rw [e2.1, e2.2.2, q6, p1 306 _ (by omega) (by omega) (by omega) (by omega) (by omega)]
          exact LK_z hK (Nat.le_refl _) hnl e2.2.1
        · have hg' := lnk_dn e e3 hg
          have hq2 := lnk_f h16 hk4 hg'
          have hx := lnk_c3 hg'
          rw [p1 k j hq2.1.1 (by omega) (by omega) (by omega) (by omega), q1 q i hq2.1.2 e e3 (by omega)]; exact LK_l hK hg'
    · rw [p1 324 t (by omega) (by omega) (by omega) (by omega) (by omega), q1 (40 + t) 2 (by omega) (by omega) (by omega) (by omega), hn (40 + t) 1 (by omega) (by omega) (by omega) (by omega)]; exact LK_fo hK ht
    · rw [hn (40 + t) 3 (by omega) (by omega) (by omega) (by omega)] at hi
      rw [p1 326 _ (by omega) (by omega) (by omega) (by omega) (by omega), q1 (50 + t) i (by omega) (by omega) (by omega) (by omega)]; exact LK_it hK ht hi
  · have h3 := hF i (by omega) h2
    simp only [List.mem_append, List.mem_singleton, not_or]
    exact ⟨⟨⟨h3.1, by omega⟩, by omega⟩, ⟨⟨h3.2, by omega⟩, by omega⟩⟩
  · have h3 := hG k h1 h2
    simp only [List.mem_append, List.mem_singleton, not_or]
    exact ⟨⟨h3, by omega⟩, by omega⟩
theorem INV_lump (hV : INV L c r nl nk x) {w0 d0 t0 st sc : Nat} (hnk : nk < 40) (g1 : w0 ≤ 7) (g2 : d0 ≤ 9) (g3 : t0 ≤ 999) (g4 : st ≤ 40000) (g5 : sc ≤ 40000) (q1 : ∀ k j, k < 300 → k ≠ 200 + nk → ¬ (k = 6 ∧ (j = 1 ∨ j = 2 ∨ j = 3)) → c' k j = c k j) (q2 : c' (200 + nk) 0 = nI w0) (q3 : c' (200 + nk) 1 = nI d0) (q4 : c' (200 + nk) 2 = nI t0) (q5 : c' (200 + nk) 3 = nI (nn c 6 2)) (q6 : c' (200 + nk) 4 = nI st) (q7 : c' (200 + nk) 5 = nI sc) (q8 : c' 6 1 = nI (nk + 1)) (q9 : c' 6 2 = nI (nn c 6 2 + st)) (q10 : c' 6 3 = nI (nn c 6 3 + sc))
    (p1 : ∀ k j, 300 ≤ k → ¬ (k = 319 ∧ 6 * nk ≤ j ∧ j < 6 * nk + 6) → ¬ (k = 300 ∧ (j = 19 ∨ j = 20 ∨ j = 17)) → c' k j = c k j) (p2 : ∀ i, i < 6 → c' 319 (6 * nk + i) = c' (200 + nk) i) (p3 : c' 300 19 = nI (nn c 6 2 + st)) (p4 : c' 300 20 = nI (nn c 6 3 + sc)) (p5 : c' 300 17 = nI (nk + 1)) : INV (L ++ [200 + nk]) c' (up2 (up1 r (200 + nk) (fun _ => none)) 7 nk (some (200 + nk))) nl (nk + 1) x := by
  obtain ⟨hL, hR, hM, hI, hX, hK, hZ, hF, hG⟩ := hV
  have h16 := CI_nl16 hI
  have hk4 := CI_nk40 hI
  have ht1 := (CI_tot hI).1.2.2
  have ht2 := (CI_tot hI).2.2.2
  have hn : ∀ k j, k < 300 → k ≠ 200 + nk → ¬ (k = 6 ∧ (j = 1 ∨ j = 2 ∨ j = 3)) → nn c' k j = nn c k j := fun k j a b e => by unfold nn; rw [q1 k j a b e]
  have m1 : 200 + nk ∈ L ++ [200 + nk] := by simp
  have hr : ∀ k, k ≠ 200 + nk → k ≠ 7 → up2 (up1 r (200 + nk) (fun _ => none)) 7 nk (some (200 + nk)) k = r k := fun k b f => by rw [up2_row _ _ _ f, up1_k _ _ b]
  refine ⟨fun k hk => ?_, ?_, ?_, ?_, ?_, ?_, zR_put (zR_new hZ (200 + nk)) 7 nk m1, fun i h1 h2 => ?_, fun k h1 h2 => ?_⟩
  · by_cases e1 : k = 200 + nk
    · rw [e1]; exact m1
    · exact List.mem_append_left _ (hL k (by unfold live at hk ⊢; omega))
  · obtain ⟨⟨b0, b1, b2, b3, b4, b5, b6, b7, b8, b9, b10⟩, e1, e2, e3, e4⟩ := hR
    refine ⟨?_, fun t ht => ?_, fun t ht => ?_, fun t ht => ?_, fun t ht => ?_⟩
    · rw [hr 0 (by omega) (by omega), hr 3 (by omega) (by omega), hr 6 (by omega) (by omega)]; exact ⟨b0, b1, b2, b3, b4, b5, b6, b7, b8, b9, b10⟩
    · rw [hr 2 (by omega) (by omega), hr (20 + t) (by omega) (by omega)]; exact e1 t ht
    · rw [hr 11 (by omega) (by omega), hr (40 + t) (by omega) (by omega)]; exact e2 t ht
    · rw [hr 1 (by omega) (by omega), hr (100 + t) (by omega) (by omega)]; exact e3 t ht
    · by_cases e : t = nk
      · subst e; exact up2_self _ _ _ _
      · rw [up2_ne _ _ (by omega), up1_k _ _ (by omega)]; exact e4 t (by omega)
  · unfold RM; rw [hr 300 (by omega) (by omega)]; exact hM
  · refine CI_new hI h16 (by omega) ((q1 0 1 (by omega) (by omega) (by omega)).trans (CI_nl hI)) q8 (fun k j lo hi hb => ?_)
    have hb' := bnd_lt h16 (by omega) hb
    by_cases e : k = 200 + nk
    · subst e
      have e2 := bnd_200 h16 hb
      rcases e2 with ⟨rfl, rfl, rfl⟩ | ⟨rfl, rfl, rfl⟩ | ⟨rfl, rfl, rfl⟩ | ⟨rfl, rfl, rfl⟩ | ⟨rfl, rfl, rfl⟩ | ⟨rfl, rfl, rfl⟩
      · exact Or.inr ⟨w0, q2, by omega, by omega⟩
      · exact Or.inr ⟨d0, q3, by omega, by omega⟩
      · exact Or.inr ⟨t0, q4, by omega, by omega⟩
      · exact Or.inr ⟨_, q5, by omega, by omega⟩
      · exact Or.inr ⟨st, q6, by omega, by omega⟩
      · exact Or.inr ⟨sc, q7, by omega, by omega⟩
    · by_cases e3 : k = 6
      · subst e3
        have e2 := bnd_6 h16 hb
        obtain ⟨rfl | rfl, rfl, rfl⟩ := e2
        · exact Or.inr ⟨_, q9, by omega, by omega⟩
        · exact Or.inr ⟨_, q10, by omega, by omega⟩
      · exact Or.inl ⟨bnd_dk e e3 hb, q1 k j hb'.1 e (by omega)⟩
  · intro w hw i hi
    rw [hn _ _ (by omega) (by omega) (by omega)] at hi
    rw [hr (30 + w) (by omega) (by omega)]
    exact hX w hw i hi
  · refine LK_mk ((p1 300 1 (by omega) (by omega) (by omega)).trans (LK_nl hK)) p5 (fun k j q i hg => ?_) (fun i h1 h2 j hj => (p1 306 _ (by omega) (by omega) (by omega)).trans (LK_z hK h1 h2 hj)) (fun w hw i hi => (p1 308 _ (by omega) (by omega) (by omega)).trans (LK_x hK hw (by rw [hn _ _ (by omega) (by omega) (by omega)] at hi; exact hi))) (fun t ht => ?_) (fun t ht i hi => ?_)
    · by_cases e : q = 200 + nk
      · subst e
        have e2 := lnk_200 h16 hg
        rw [e2.1, e2.2.2]; exact p2 i e2.2.1
      · have hg' := lnk_dk e hg
        have hq2 := lnk_f h16 hk4 hg'
        by_cases e3 : q = 6
        · subst e3
          have e2 := lnk_6 h16 hg
          rcases e2 with ⟨rfl, rfl, rfl⟩ | ⟨rfl, rfl, rfl⟩
          · rw [p3, q9]
          · rw [p4, q10]
        · have hx := lnk_c9 e3 hg'
          rw [p1 k j hq2.1.1 (by omega) hx.2, q1 q i hq2.1.2 e (by omega)]; exact LK_l hK hg'
    · rw [p1 324 t (by omega) (by omega) (by omega), q1 (40 + t) 2 (by omega) (by omega) (by omega), hn (40 + t) 1 (by omega) (by omega) (by omega)]; exact LK_fo hK ht
    · rw [hn (40 + t) 3 (by omega) (by omega) (by omega)] at hi
      rw [p1 326 _ (by omega) (by omega) (by omega), q1 (50 + t) i (by omega) (by omega) (by omega)]; exact LK_it hK ht hi
  · have h3 := hF i h1 h2
    simp only [List.mem_append, List.mem_singleton, not_or]
    exact ⟨⟨h3.1, by omega⟩, ⟨h3.2, by omega⟩⟩
  · have h3 := hG k (by omega) h2
    simp only [List.mem_append, List.mem_singleton, not_or]
    exact ⟨h3, by omega⟩
end INVS
