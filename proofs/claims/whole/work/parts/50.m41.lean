noncomputable def p7_letter (a : Nat → Nat) (L : List Nat) (c : Nat → Nat → Int32) (g : Nat → Nat → Int64) (r : Nat → Nat → Option Nat) (nl nk : Nat) (x : Nat → Nat → Nat) (wi mi so : Int32) : Int32 → Wo → Prop := (fun v ω => (¬ ((1 ≤ wi.toInt ∧ wi.toInt ≤ 5) ∧ (1 ≤ mi.toInt ∧ mi.toInt ≤ 9) ∧ (1 ≤ so.toInt ∧ so.toInt ≤ 99)) ∧ v = -2 ∧ ω = (a, L, c, g, r)) ∨ (((1 ≤ wi.toInt ∧ wi.toInt ≤ 5) ∧ (1 ≤ mi.toInt ∧ mi.toInt ≤ 9) ∧ (1 ≤ so.toInt ∧ so.toInt ≤ 99)) ∧ nl = 16 ∧ v = -4 ∧ ω = (a, L, c, g, r)) ∨ (((1 ≤ wi.toInt ∧ wi.toInt ≤ 5) ∧ (1 ≤ mi.toInt ∧ mi.toInt ≤ 9) ∧ (1 ≤ so.toInt ∧ so.toInt ≤ 99)) ∧ nl < 16 ∧ v = nI nl ∧ ∃ a', (∀ j, j ≠ 100 + nl → j ≠ 120 + nl → a' j = a j) ∧ ω = (a', L ++ [100 + nl] ++ [120 + nl], up2 (up1 (up2 (up2 (up2 (up1 c (100 + nl) (fun _ => 0)) (100 + nl) 0 wi) (100 + nl) 1 mi) (100 + nl) 2 so) (120 + nl) (fun _ => 0)) 0 1 (nI (nl + 1)), up1 (up1 g (100 + nl) (fun _ => 0)) (120 + nl) (fun _ => 0), up2 (up2 (up1 (up1 r (100 + nl) (fun _ => none)) (120 + nl) (fun _ => none)) (100 + nl) 3 (some (120 + nl))) 1 nl (some (100 + nl)))))
noncomputable def p8_letter (c : Nat → Nat → Int32) (d : Nat → Nat → Int32) (nl nk : Nat) (x : Nat → Nat → Nat) (wi mi so : Int32) : Int32 → (Nat → Nat → Int32) → Prop := (fun v c' => (¬ ((1 ≤ wi.toInt ∧ wi.toInt ≤ 5) ∧ (1 ≤ mi.toInt ∧ mi.toInt ≤ 9) ∧ (1 ≤ so.toInt ∧ so.toInt ≤ 99)) ∧ v = -2 ∧ c' = c) ∨ (((1 ≤ wi.toInt ∧ wi.toInt ≤ 5) ∧ (1 ≤ mi.toInt ∧ mi.toInt ≤ 9) ∧ (1 ≤ so.toInt ∧ so.toInt ≤ 99)) ∧ nl = 16 ∧ v = -4 ∧ c' = c) ∨ (((1 ≤ wi.toInt ∧ wi.toInt ≤ 5) ∧ (1 ≤ mi.toInt ∧ mi.toInt ≤ 9) ∧ (1 ≤ so.toInt ∧ so.toInt ≤ 99)) ∧ nl < 16 ∧ v = nI nl ∧ c' = up2 (up2 (up2 (up2 c 303 nl wi) 304 nl mi) 305 nl so) 300 1 (nI (nl + 1))))
noncomputable def p7_strip (c : Nat → Nat → Int32) (nl nk : Nat) (x : Nat → Nat → Nat) (letter i bits : Int32) : Int32 → (Nat → Nat → Int32) → Prop := (fun v c' => ((0 ≤ letter.toInt ∧ letter.toInt < (nl : Int) ∧ 0 ≤ i.toInt ∧ i.toInt < (nn c (100 + tn letter) 0 : Int) ∧ 0 ≤ bits.toInt ∧ bits.toInt ≤ 31) ∧ v = c (120 + tn letter) (tn i) ∧ c' = up2 c (120 + tn letter) (tn i) bits) ∨ (¬ (0 ≤ letter.toInt ∧ letter.toInt < (nl : Int) ∧ 0 ≤ i.toInt ∧ i.toInt < (nn c (100 + tn letter) 0 : Int) ∧ 0 ≤ bits.toInt ∧ bits.toInt ≤ 31) ∧ v = -2 ∧ c' = c))
noncomputable def p8_strip (c : Nat → Nat → Int32) (d : Nat → Nat → Int32) (nl nk : Nat) (x : Nat → Nat → Nat) (letter i bits : Int32) : Int32 → (Nat → Nat → Int32) → Prop := (fun v c' => ((0 ≤ letter.toInt ∧ letter.toInt < (nl : Int) ∧ 0 ≤ i.toInt ∧ i.toInt < (nn d (100 + tn letter) 0 : Int) ∧ 0 ≤ bits.toInt ∧ bits.toInt ≤ 31) ∧ v = d (120 + tn letter) (tn i) ∧ c' = up2 c 306 (5 * tn letter + tn i) bits) ∨ (¬ (0 ≤ letter.toInt ∧ letter.toInt < (nl : Int) ∧ 0 ≤ i.toInt ∧ i.toInt < (nn d (100 + tn letter) 0 : Int) ∧ 0 ≤ bits.toInt ∧ bits.toInt ≤ 31) ∧ v = -2 ∧ c' = c))
noncomputable def p7_about (c : Nat → Nat → Int32) (nl nk : Nat) (x : Nat → Nat → Nat) (letter what : Int32) : Int32 → Prop := (fun v => v = aboutC c nl letter what)
noncomputable def p8_about (c : Nat → Nat → Int32) (d : Nat → Nat → Int32) (nl nk : Nat) (x : Nat → Nat → Nat) (letter what : Int32) : Int32 → Prop := (fun v => v = aboutC d nl letter what)
noncomputable def p7_spell (a : Nat → Nat) (L : List Nat) (c : Nat → Nat → Int32) (g : Nat → Nat → Int64) (r : Nat → Nat → Option Nat) (nl nk : Nat) (x : Nat → Nat → Nat) (word letter : Int32) : Int32 → Wo → Prop := (fun v ω => (¬ ((0 ≤ word.toInt ∧ word.toInt < 8) ∧ (0 ≤ letter.toInt ∧ letter.toInt < (nl : Int))) ∧ v = -2 ∧ ω = (a, L, c, g, r)) ∨ (((0 ≤ word.toInt ∧ word.toInt < 8) ∧ (0 ≤ letter.toInt ∧ letter.toInt < (nl : Int))) ∧ nn c (20 + tn word) 1 = 10 ∧ v = -4 ∧ ω = (a, L, c, g, r)) ∨ (((0 ≤ word.toInt ∧ word.toInt < 8) ∧ (0 ≤ letter.toInt ∧ letter.toInt < (nl : Int))) ∧ nn c (20 + tn word) 1 < 10 ∧ v = nI (nn c (20 + tn word) 1 + 1) ∧ ω = (a, L, up2 c (20 + tn word) 1 (nI (nn c (20 + tn word) 1 + 1)), g, up2 r (30 + tn word) (nn c (20 + tn word) 1) (some (100 + tn letter)))))
noncomputable def p8_spell (c : Nat → Nat → Int32) (d : Nat → Nat → Int32) (nl nk : Nat) (x : Nat → Nat → Nat) (word letter : Int32) : Int32 → (Nat → Nat → Int32) → Prop := (fun v c' => (¬ ((0 ≤ word.toInt ∧ word.toInt < 8) ∧ (0 ≤ letter.toInt ∧ letter.toInt < (nl : Int))) ∧ v = -2 ∧ c' = c) ∨ (((0 ≤ word.toInt ∧ word.toInt < 8) ∧ (0 ≤ letter.toInt ∧ letter.toInt < (nl : Int))) ∧ nn d (20 + tn word) 1 = 10 ∧ v = -4 ∧ c' = c) ∨ (((0 ≤ word.toInt ∧ word.toInt < 8) ∧ (0 ≤ letter.toInt ∧ letter.toInt < (nl : Int))) ∧ nn d (20 + tn word) 1 < 10 ∧ v = nI (nn d (20 + tn word) 1 + 1) ∧ c' = up2 (up2 c 308 (10 * tn word + nn d (20 + tn word) 1) letter) 307 (tn word) (nI (nn d (20 + tn word) 1 + 1))))
noncomputable def p7_wipe (c : Nat → Nat → Int32) (nl nk : Nat) (x : Nat → Nat → Nat) (word : Int32) : Int32 → (Nat → Nat → Int32) → Prop := (fun v c' => ((0 ≤ word.toInt ∧ word.toInt < 8) ∧ v = c (20 + tn word) 1 ∧ c' = up2 c (20 + tn word) 1 (nI 0)) ∨ (¬ (0 ≤ word.toInt ∧ word.toInt < 8) ∧ v = -2 ∧ c' = c))
noncomputable def p8_wipe (c : Nat → Nat → Int32) (d : Nat → Nat → Int32) (nl nk : Nat) (x : Nat → Nat → Nat) (word : Int32) : Int32 → (Nat → Nat → Int32) → Prop := (fun v c' => ((0 ≤ word.toInt ∧ word.toInt < 8) ∧ v = d (20 + tn word) 1 ∧ c' = up2 c 307 (tn word) (nI 0)) ∨ (¬ (0 ≤ word.toInt ∧ word.toInt < 8) ∧ v = -2 ∧ c' = c))
noncomputable def p7_slots (c : Nat → Nat → Int32) (nl nk : Nat) (x : Nat → Nat → Nat) (n : Int32) : Int32 → (Nat → Nat → Int32) → Prop := (fun v c' => ((5 ≤ n.toInt ∧ n.toInt ≤ 60) ∧ v = c 3 1 ∧ c' = up2 c 3 1 n) ∨ (¬ (5 ≤ n.toInt ∧ n.toInt ≤ 60) ∧ v = -2 ∧ c' = c))
noncomputable def p8_slots (c : Nat → Nat → Int32) (d : Nat → Nat → Int32) (nl nk : Nat) (x : Nat → Nat → Nat) (n : Int32) : Int32 → (Nat → Nat → Int32) → Prop := (fun v c' => ((5 ≤ n.toInt ∧ n.toInt ≤ 60) ∧ v = d 3 1 ∧ c' = up2 c 300 8 n) ∨ (¬ (5 ≤ n.toInt ∧ n.toInt ≤ 60) ∧ v = -2 ∧ c' = c))
noncomputable def p7_gap (c : Nat → Nat → Int32) (nl nk : Nat) (x : Nat → Nat → Nat) (n : Int32) : Int32 → (Nat → Nat → Int32) → Prop := (fun v c' => ((0 ≤ n.toInt ∧ n.toInt ≤ 3) ∧ v = c 3 2 ∧ c' = up2 c 3 2 n) ∨ (¬ (0 ≤ n.toInt ∧ n.toInt ≤ 3) ∧ v = -2 ∧ c' = c))
noncomputable def p8_gap (c : Nat → Nat → Int32) (d : Nat → Nat → Int32) (nl nk : Nat) (x : Nat → Nat → Nat) (n : Int32) : Int32 → (Nat → Nat → Int32) → Prop := (fun v c' => ((0 ≤ n.toInt ∧ n.toInt ≤ 3) ∧ v = d 3 2 ∧ c' = up2 c 300 9 n) ∨ (¬ (0 ≤ n.toInt ∧ n.toInt ≤ 3) ∧ v = -2 ∧ c' = c))
noncomputable def p7_wide (c : Nat → Nat → Int32) (nl nk : Nat) (x : Nat → Nat → Nat) (word : Int32) : Int32 → Prop := (fun v => v = if 0 ≤ word.toInt ∧ word.toInt < 8 then nI (wideC c x (tn word)) else -2)
noncomputable def p8_wide (c : Nat → Nat → Int32) (d : Nat → Nat → Int32) (nl nk : Nat) (x : Nat → Nat → Nat) (word : Int32) : Int32 → Prop := (fun v => v = if 0 ≤ word.toInt ∧ word.toInt < 8 then nI (wideC d x (tn word)) else -2)
noncomputable def p7_longest (c : Nat → Nat → Int32) (nl nk : Nat) (x : Nat → Nat → Nat) : Int32 → Prop := (fun v => v = lo2i (longO c x 8))
noncomputable def p8_longest (c : Nat → Nat → Int32) (d : Nat → Nat → Int32) (nl nk : Nat) (x : Nat → Nat → Nat) : Int32 → Prop := (fun v => v = lo2i (longO d x 8))
noncomputable def p7_cut (c : Nat → Nat → Int32) (nl nk : Nat) (x : Nat → Nat → Nat) (word turn look i : Int32) : Int32 → (Nat → Nat → Int32) → Prop := (fun v c' => off4 c c' ∧ v = cutC c x word turn look i)
noncomputable def p8_cut (c : Nat → Nat → Int32) (d : Nat → Nat → Int32) (nl nk : Nat) (x : Nat → Nat → Nat) (word turn look i : Int32) : Int32 → (Nat → Nat → Int32) → Prop := (fun v c' => off311 c c' ∧ v = cutC d x word turn look i)
noncomputable def p7_readings (c : Nat → Nat → Int32) (nl nk : Nat) (x : Nat → Nat → Nat) (sheet : Int32) : Int32 → (Nat → Nat → Int32) → Prop := (fun v c' => ((¬ (0 ≤ sheet.toInt ∧ sheet.toInt ≤ 3) ∧ v = -2 ∧ c' = c) ∨ ((0 ≤ sheet.toInt ∧ sheet.toInt ≤ 3) ∧ nn c (40 + tn sheet) 1 = 1 ∧ v = -11 ∧ c' = up2 c 0 10 1)) ∨ (((0 ≤ sheet.toInt ∧ sheet.toInt ≤ 3) ∧ nn c (40 + tn sheet) 1 = 0) ∧ off4 c c' ∧ v = nI (sumF (rdC c x (tn sheet)) 8)))
noncomputable def p8_readings (c : Nat → Nat → Int32) (d : Nat → Nat → Int32) (nl nk : Nat) (x : Nat → Nat → Nat) (sheet : Int32) : Int32 → (Nat → Nat → Int32) → Prop := (fun v c' => ((¬ (0 ≤ sheet.toInt ∧ sheet.toInt ≤ 3) ∧ v = -2 ∧ c' = c) ∨ ((0 ≤ sheet.toInt ∧ sheet.toInt ≤ 3) ∧ nn d (40 + tn sheet) 1 = 1 ∧ v = -11 ∧ c' = up2 c 300 27 1)) ∨ (((0 ≤ sheet.toInt ∧ sheet.toInt ≤ 3) ∧ nn d (40 + tn sheet) 1 = 0) ∧ FrR c c' ∧ v = nI (sumF (rdC d x (tn sheet)) 8)))
noncomputable def p7_reading (c : Nat → Nat → Int32) (nl nk : Nat) (x : Nat → Nat → Nat) (sheet i : Int32) : Int32 → (Nat → Nat → Int32) → Prop := (fun v c' => (i.toInt < 0 ∧ v = -2 ∧ c' = c) ∨ (0 ≤ i.toInt ∧ ((¬ (0 ≤ sheet.toInt ∧ sheet.toInt ≤ 3) ∧ v = -2 ∧ c' = c) ∨ ((0 ≤ sheet.toInt ∧ sheet.toInt ≤ 3) ∧ nn c (40 + tn sheet) 1 = 1 ∧ v = -11 ∧ c' = up2 c 0 10 1))) ∨ (0 ≤ i.toInt ∧ ((0 ≤ sheet.toInt ∧ sheet.toInt ≤ 3) ∧ nn c (40 + tn sheet) 1 = 0) ∧ off4 c c' ∧ ((∃ w b t, w < 8 ∧ b < 4 ∧ t < nn c 3 1 ∧ fitC c x w ∧ agC c (tn sheet) (layC c x w) t b ∧ sumF (rdC c x (tn sheet)) w + outC c (tn sheet) (layC c x w) b + inC c (tn sheet) (layC c x w) b t = tn i ∧ v = nI (1000 * w + 100 * b + t)) ∨ (v = -1 ∧ sumF (rdC c x (tn sheet)) 8 ≤ tn i))))
noncomputable def p8_reading (c : Nat → Nat → Int32) (d : Nat → Nat → Int32) (nl nk : Nat) (x : Nat → Nat → Nat) (sheet i : Int32) : Int32 → (Nat → Nat → Int32) → Prop := (fun v c' => (i.toInt < 0 ∧ v = -2 ∧ c' = c) ∨ (0 ≤ i.toInt ∧ ((¬ (0 ≤ sheet.toInt ∧ sheet.toInt ≤ 3) ∧ v = -2 ∧ c' = c) ∨ ((0 ≤ sheet.toInt ∧ sheet.toInt ≤ 3) ∧ nn d (40 + tn sheet) 1 = 1 ∧ v = -11 ∧ c' = up2 c 300 27 1))) ∨ (0 ≤ i.toInt ∧ ((0 ≤ sheet.toInt ∧ sheet.toInt ≤ 3) ∧ nn d (40 + tn sheet) 1 = 0) ∧ FrR c c' ∧ FND d x (tn sheet) i (sumF (rdC d x (tn sheet)) 8) v))
noncomputable def p7_words (c : Nat → Nat → Int32) (nl nk : Nat) (x : Nat → Nat → Nat) (sheet : Int32) : Int32 → (Nat → Nat → Int32) → Prop := (fun v c' => ((¬ (0 ≤ sheet.toInt ∧ sheet.toInt ≤ 3) ∧ v = -2 ∧ c' = c) ∨ ((0 ≤ sheet.toInt ∧ sheet.toInt ≤ 3) ∧ nn c (40 + tn sheet) 1 = 1 ∧ v = -11 ∧ c' = up2 c 0 10 1)) ∨ (((0 ≤ sheet.toInt ∧ sheet.toInt ≤ 3) ∧ nn c (40 + tn sheet) 1 = 0) ∧ off4 c c' ∧ v = bitC c x (tn sheet) 8))
noncomputable def p8_words (c : Nat → Nat → Int32) (d : Nat → Nat → Int32) (nl nk : Nat) (x : Nat → Nat → Nat) (sheet : Int32) : Int32 → (Nat → Nat → Int32) → Prop := (fun v c' => ((¬ (0 ≤ sheet.toInt ∧ sheet.toInt ≤ 3) ∧ v = -2 ∧ c' = c) ∨ ((0 ≤ sheet.toInt ∧ sheet.toInt ≤ 3) ∧ nn d (40 + tn sheet) 1 = 1 ∧ v = -11 ∧ c' = up2 c 300 27 1)) ∨ (((0 ≤ sheet.toInt ∧ sheet.toInt ≤ 3) ∧ nn d (40 + tn sheet) 1 = 0) ∧ FrR c c' ∧ v = bitC d x (tn sheet) 8))
noncomputable def p7_order (c : Nat → Nat → Int32) (nl nk : Nat) (x : Nat → Nat → Nat) (word i : Int32) : Int32 → Prop := (fun v => ((0 ≤ word.toInt ∧ word.toInt < 8 ∧ 0 ≤ i.toInt ∧ i.toInt < (nn c (20 + tn word) 1 : Int)) ∧ ((∃ p, p < nn c (20 + tn word) 1 ∧ v = nI p ∧ rankC c x (tn word) p (nn c (20 + tn word) 1) = tn i ∧ ∀ j, j < p → rankC c x (tn word) j (nn c (20 + tn word) 1) ≠ tn i) ∨ (v = -2 ∧ ∀ j, j < nn c (20 + tn word) 1 → rankC c x (tn word) j (nn c (20 + tn word) 1) ≠ tn i))) ∨ (¬ (0 ≤ word.toInt ∧ word.toInt < 8 ∧ 0 ≤ i.toInt ∧ i.toInt < (nn c (20 + tn word) 1 : Int)) ∧ v = -2))
noncomputable def p8_order (c : Nat → Nat → Int32) (d : Nat → Nat → Int32) (nl nk : Nat) (x : Nat → Nat → Nat) (word i : Int32) : Int32 → (Nat → Nat → Int32) → Prop := (fun v c' => (¬ (0 ≤ word.toInt ∧ word.toInt < 8 ∧ 0 ≤ i.toInt ∧ i.toInt < (nn d (20 + tn word) 1 : Int)) ∧ v = -2 ∧ c' = c) ∨ ((0 ≤ word.toInt ∧ word.toInt < 8 ∧ 0 ≤ i.toInt ∧ i.toInt < (nn d (20 + tn word) 1 : Int)) ∧ FrO c c' ∧ ∃ q, q < nn d (20 + tn word) 1 ∧ v = nI q ∧ rankC d x (tn word) q (nn d (20 + tn word) 1) = tn i))
noncomputable def p7_late (c : Nat → Nat → Int32) (nl nk : Nat) (x : Nat → Nat → Nat) (word : Int32) : Int32 → Prop := (fun v => v = if 0 ≤ word.toInt ∧ word.toInt < 8 then nI (maxF (lateN c x (tn word)) (nn c (20 + tn word) 1)) else -2)
noncomputable def p8_late (c : Nat → Nat → Int32) (d : Nat → Nat → Int32) (nl nk : Nat) (x : Nat → Nat → Nat) (word : Int32) : Int32 → (Nat → Nat → Int32) → Prop := (fun v c' => (¬ (0 ≤ word.toInt ∧ word.toInt < 8) ∧ v = -2 ∧ c' = c) ∨ ((0 ≤ word.toInt ∧ word.toInt < 8) ∧ FrO c c' ∧ v = nI (maxF (lateN d x (tn word)) (nn d (20 + tn word) 1))))
noncomputable def p7_spoiled (c : Nat → Nat → Int32) (nl nk : Nat) (x : Nat → Nat → Nat) (word : Int32) : Int32 → Prop := (fun v => v = if 0 ≤ word.toInt ∧ word.toInt < 8 then nI (spoilC c x (tn word)) else -2)
noncomputable def p8_spoiled (c : Nat → Nat → Int32) (d : Nat → Nat → Int32) (nl nk : Nat) (x : Nat → Nat → Nat) (word : Int32) : Int32 → (Nat → Nat → Int32) → Prop := (fun v c' => (¬ (0 ≤ word.toInt ∧ word.toInt < 8) ∧ v = -2 ∧ c' = c) ∨ ((0 ≤ word.toInt ∧ word.toInt < 8) ∧ FrO c c' ∧ v = nI (spoilC d x (tn word))))
noncomputable def p7_set (a : Nat → Nat) (L : List Nat) (c : Nat → Nat → Int32) (g : Nat → Nat → Int64) (r : Nat → Nat → Option Nat) (nl nk : Nat) (x : Nat → Nat → Nat) (what n : Int32) : Int32 → Wo → Prop := (fun v ω => ∃ c', ω = (a, L, c', g, r) ∧ ((((0 ≤ what.toInt ∧ what.toInt ≤ 3) ∧ (leV (tn what)).toInt ≤ n.toInt ∧ n.toInt ≤ (moV (tn what)).toInt) ∧ v = c 5 (tn what) ∧ c' = up2 c 5 (tn what) n) ∨ (¬ ((0 ≤ what.toInt ∧ what.toInt ≤ 3) ∧ (leV (tn what)).toInt ≤ n.toInt ∧ n.toInt ≤ (moV (tn what)).toInt) ∧ v = -2 ∧ c' = c)))
noncomputable def p8_set (c : Nat → Nat → Int32) (d : Nat → Nat → Int32) (nl nk : Nat) (x : Nat → Nat → Nat) (what n : Int32) : Int32 → (Nat → Nat → Int32) → Prop := (fun v c' => (((0 ≤ what.toInt ∧ what.toInt ≤ 3) ∧ (leV (tn what)).toInt ≤ n.toInt ∧ n.toInt ≤ (moV (tn what)).toInt) ∧ v = d 5 (tn what) ∧ c' = up2 c 301 (tn what) n) ∨ (¬ ((0 ≤ what.toInt ∧ what.toInt ≤ 3) ∧ (leV (tn what)).toInt ≤ n.toInt ∧ n.toInt ≤ (moV (tn what)).toInt) ∧ v = -2 ∧ c' = c))
noncomputable def p7_lump (a : Nat → Nat) (L : List Nat) (c : Nat → Nat → Int32) (g : Nat → Nat → Int64) (r : Nat → Nat → Option Nat) (nl nk : Nat) (x : Nat → Nat → Nat) (word hand day len : Int32) : Int32 → Wo → Prop := (fun v ω => (¬ ((0 ≤ word.toInt ∧ word.toInt < 8) ∧ (0 ≤ hand.toInt ∧ hand.toInt ≤ 9) ∧ ((latestC c nk : Int) ≤ day.toInt ∧ day.toInt ≤ 999) ∧ (1 ≤ len.toInt ∧ len.toInt ≤ 200)) ∧ v = -2 ∧ ω = (a, L, c, g, r)) ∨ (((0 ≤ word.toInt ∧ word.toInt < 8) ∧ (0 ≤ hand.toInt ∧ hand.toInt ≤ 9) ∧ ((latestC c nk : Int) ≤ day.toInt ∧ day.toInt ≤ 999) ∧ (1 ≤ len.toInt ∧ len.toInt ≤ 200)) ∧ ¬ fitC c x (tn word) ∧ v = -3 ∧ ω = (a, L, c, g, r)) ∨ (((0 ≤ word.toInt ∧ word.toInt < 8) ∧ (0 ≤ hand.toInt ∧ hand.toInt ≤ 9) ∧ ((latestC c nk : Int) ≤ day.toInt ∧ day.toInt ≤ 999) ∧ (1 ≤ len.toInt ∧ len.toInt ≤ 200)) ∧ fitC c x (tn word) ∧ nk = 40 ∧ v = -4 ∧ ω = (a, L, c, g, r)) ∨ (((0 ≤ word.toInt ∧ word.toInt < 8) ∧ (0 ≤ hand.toInt ∧ hand.toInt ≤ 9) ∧ ((latestC c nk : Int) ≤ day.toInt ∧ day.toInt ≤ 999) ∧ (1 ≤ len.toInt ∧ len.toInt ≤ 200)) ∧ fitC c x (tn word) ∧ nk < 40 ∧ v = nI (((tn len * nn c 5 0) - 2 * nn c 5 1) / nn c 5 2) ∧ ∃ a', (∀ j, j ≠ 200 + nk → a' j = a j) ∧ ω = (a', L ++ [200 + nk], up2 (up2 (up2 (up2 (up2 (up2 (up2 (up2 (up2 (up1 c (200 + nk) (fun _ => 0)) (200 + nk) 0 word) (200 + nk) 1 hand) (200 + nk) 2 day) (200 + nk) 3 (nI (nn c 6 2))) (200 + nk) 4 (nI (((tn len * nn c 5 0) - 2 * nn c 5 1) / nn c 5 2))) (200 + nk) 5 (nI ((tn len * nn c 5 0) - (((tn len * nn c 5 0) - 2 * nn c 5 1) / nn c 5 2) * nn c 5 2))) 6 1 (nI (nk + 1))) 6 2 (nI (nn c 6 2 + (((tn len * nn c 5 0) - 2 * nn c 5 1) / nn c 5 2)))) 6 3 (nI (nn c 6 3 + ((tn len * nn c 5 0) - (((tn len * nn c 5 0) - 2 * nn c 5 1) / nn c 5 2) * nn c 5 2))), up1 g (200 + nk) (fun _ => 0), up2 (up1 r (200 + nk) (fun _ => none)) 7 nk (some (200 + nk)))))
noncomputable def p8_lump (c : Nat → Nat → Int32) (d : Nat → Nat → Int32) (nl nk : Nat) (x : Nat → Nat → Nat) (word hand day len : Int32) : Int32 → (Nat → Nat → Int32) → Prop := (fun v c' => (¬ ((0 ≤ word.toInt ∧ word.toInt < 8) ∧ (0 ≤ hand.toInt ∧ hand.toInt ≤ 9) ∧ ((latestC d nk : Int) ≤ day.toInt ∧ day.toInt ≤ 999) ∧ (1 ≤ len.toInt ∧ len.toInt ≤ 200)) ∧ v = -2 ∧ c' = c) ∨ (((0 ≤ word.toInt ∧ word.toInt < 8) ∧ (0 ≤ hand.toInt ∧ hand.toInt ≤ 9) ∧ ((latestC d nk : Int) ≤ day.toInt ∧ day.toInt ≤ 999) ∧ (1 ≤ len.toInt ∧ len.toInt ≤ 200)) ∧ ¬ fitC d x (tn word) ∧ v = -3 ∧ c' = c) ∨ (((0 ≤ word.toInt ∧ word.toInt < 8) ∧ (0 ≤ hand.toInt ∧ hand.toInt ≤ 9) ∧ ((latestC d nk : Int) ≤ day.toInt ∧ day.toInt ≤ 999) ∧ (1 ≤ len.toInt ∧ len.toInt ≤ 200)) ∧ fitC d x (tn word) ∧ nk = 40 ∧ v = -4 ∧ c' = c) ∨ (((0 ≤ word.toInt ∧ word.toInt < 8) ∧ (0 ≤ hand.toInt ∧ hand.toInt ≤ 9) ∧ ((latestC d nk : Int) ≤ day.toInt ∧ day.toInt ≤ 999) ∧ (1 ≤ len.toInt ∧ len.toInt ≤ 200)) ∧ fitC d x (tn word) ∧ nk < 40 ∧ v = nI (((tn len * nn d 5 0) - 2 * nn d 5 1) / nn d 5 2) ∧ c' = up2 (up2 (up2 (up2 (up2 (up2 (up2 (up2 (up2 c 319 (6 * nk) word) 319 (6 * nk + 1) hand) 319 (6 * nk + 2) day) 319 (6 * nk + 3) (nI (nn d 6 2))) 319 (6 * nk + 4) (nI (((tn len * nn d 5 0) - 2 * nn d 5 1) / nn d 5 2))) 319 (6 * nk + 5) (nI ((tn len * nn d 5 0) - (((tn len * nn d 5 0) - 2 * nn d 5 1) / nn d 5 2) * nn d 5 2))) 300 19 (nI (nn d 6 2 + (((tn len * nn d 5 0) - 2 * nn d 5 1) / nn d 5 2)))) 300 20 (nI (nn d 6 3 + ((tn len * nn d 5 0) - (((tn len * nn d 5 0) - 2 * nn d 5 1) / nn d 5 2) * nn d 5 2)))) 300 17 (nI (nk + 1))))
noncomputable def p7_made (c : Nat → Nat → Int32) (nl nk : Nat) (x : Nat → Nat → Nat) (lump what : Int32) : Int32 → Prop := (fun v => v = madeC c nk lump what)
noncomputable def p8_made (c : Nat → Nat → Int32) (d : Nat → Nat → Int32) (nl nk : Nat) (x : Nat → Nat → Nat) (lump what : Int32) : Int32 → Prop := (fun v => v = madeC d nk lump what)
noncomputable def p7_trace (c : Nat → Nat → Int32) (nl nk : Nat) (x : Nat → Nat → Nat) (stick : Int32) : Int32 → Prop := (fun v => (∃ k, k < nk ∧ v = nI k ∧ ((nn c (200 + k) 3 : Int) ≤ stick.toInt ∧ stick.toInt < (nn c (200 + k) 3 : Int) + nn c (200 + k) 4) ∧ ∀ j, j < k → ¬ ((nn c (200 + j) 3 : Int) ≤ stick.toInt ∧ stick.toInt < (nn c (200 + j) 3 : Int) + nn c (200 + j) 4)) ∨ (v = -2 ∧ ∀ j, j < nk → ¬ ((nn c (200 + j) 3 : Int) ≤ stick.toInt ∧ stick.toInt < (nn c (200 + j) 3 : Int) + nn c (200 + j) 4)))
noncomputable def p8_trace (c : Nat → Nat → Int32) (d : Nat → Nat → Int32) (nl nk : Nat) (x : Nat → Nat → Nat) (stick : Int32) : Int32 → Prop := (fun v => (∃ k, k < nk ∧ v = nI k ∧ ((nn d (200 + k) 3 : Int) ≤ stick.toInt ∧ stick.toInt < (nn d (200 + k) 3 : Int) + nn d (200 + k) 4) ∧ ∀ j, j < k → ¬ ((nn d (200 + j) 3 : Int) ≤ stick.toInt ∧ stick.toInt < (nn d (200 + j) 3 : Int) + nn d (200 + j) 4)) ∨ (v = -2 ∧ ∀ j, j < nk → ¬ ((nn d (200 + j) 3 : Int) ≤ stick.toInt ∧ stick.toInt < (nn d (200 + j) 3 : Int) + nn d (200 + j) 4)))
noncomputable def p7_recall (c : Nat → Nat → Int32) (nl nk : Nat) (x : Nat → Nat → Nat) (hand fr to : Int32) : Int32 → Prop := (fun v => v = if (-1 ≤ hand.toInt ∧ hand.toInt ≤ 9) ∧ 0 ≤ fr.toInt ∧ fr.toInt ≤ to.toInt ∧ to.toInt ≤ 999 then nI (sumF (recC c hand fr to) nk) else -2)
noncomputable def p8_recall (c : Nat → Nat → Int32) (d : Nat → Nat → Int32) (nl nk : Nat) (x : Nat → Nat → Nat) (hand fr to : Int32) : Int32 → Prop := (fun v => v = if (-1 ≤ hand.toInt ∧ hand.toInt ≤ 9) ∧ 0 ≤ fr.toInt ∧ fr.toInt ≤ to.toInt ∧ to.toInt ≤ 999 then nI (sumF (recC d hand fr to) nk) else -2)
noncomputable def p7_foretold (c : Nat → Nat → Int32) (nl nk : Nat) (x : Nat → Nat → Nat) (week : Int32) : Int32 → Prop := (fun v => v = if 0 ≤ week.toInt ∧ week.toInt ≤ 51 then foreC c (tn week) else -2)
noncomputable def p8_foretold (c : Nat → Nat → Int32) (d : Nat → Nat → Int32) (nl nk : Nat) (x : Nat → Nat → Nat) (week : Int32) : Int32 → Prop := (fun v => v = if 0 ≤ week.toInt ∧ week.toInt ≤ 51 then foreC d (tn week) else -2)
noncomputable def p7_damp (c : Nat → Nat → Int32) (nl nk : Nat) (x : Nat → Nat → Nat) (week is : Int32) : Int32 → (Nat → Nat → Int32) → Prop := (fun v c' => ((0 ≤ week.toInt ∧ week.toInt ≤ 51) ∧ v = 1 ∧ c' = up2 c 8 (tn week) is) ∨ (¬ (0 ≤ week.toInt ∧ week.toInt ≤ 51) ∧ v = -2 ∧ c' = c))
noncomputable def p8_damp (c : Nat → Nat → Int32) (d : Nat → Nat → Int32) (nl nk : Nat) (x : Nat → Nat → Nat) (week is : Int32) : Int32 → (Nat → Nat → Int32) → Prop := (fun v c' => ((0 ≤ week.toInt ∧ week.toInt ≤ 51) ∧ v = 1 ∧ c' = up2 c 322 (tn week) is) ∨ (¬ (0 ≤ week.toInt ∧ week.toInt ≤ 51) ∧ v = -2 ∧ c' = c))
noncomputable def p7_make (c : Nat → Nat → Int32) (nl nk : Nat) (x : Nat → Nat → Nat) (week n : Int32) : Int32 → (Nat → Nat → Int32) → Prop := (fun v c' => (((0 ≤ week.toInt ∧ week.toInt ≤ 51) ∧ 0 ≤ n.toInt ∧ n.toInt ≤ 10000) ∧ v = c 9 (tn week) ∧ c' = up2 c 9 (tn week) n) ∨ (¬ ((0 ≤ week.toInt ∧ week.toInt ≤ 51) ∧ 0 ≤ n.toInt ∧ n.toInt ≤ 10000) ∧ v = -2 ∧ c' = c))
noncomputable def p8_make (c : Nat → Nat → Int32) (d : Nat → Nat → Int32) (nl nk : Nat) (x : Nat → Nat → Nat) (week n : Int32) : Int32 → (Nat → Nat → Int32) → Prop := (fun v c' => (((0 ≤ week.toInt ∧ week.toInt ≤ 51) ∧ 0 ≤ n.toInt ∧ n.toInt ≤ 10000) ∧ v = d 9 (tn week) ∧ c' = up2 c 323 (tn week) n) ∨ (¬ ((0 ≤ week.toInt ∧ week.toInt ≤ 51) ∧ 0 ≤ n.toInt ∧ n.toInt ≤ 10000) ∧ v = -2 ∧ c' = c))
noncomputable def p7_stock (a : Nat → Nat) (L : List Nat) (c : Nat → Nat → Int32) (g : Nat → Nat → Int64) (r : Nat → Nat → Option Nat) (nl nk : Nat) (x : Nat → Nat → Nat) (fr to b what : Int32) : Int32 → Wo → Prop := (fun v ω => ∃ c' g', ω = (a, L, c', g', r) ∧ off10 c c' ∧ v = stockC c fr to b what)
noncomputable def p8_stock (c : Nat → Nat → Int32) (d : Nat → Nat → Int32) (nl nk : Nat) (x : Nat → Nat → Nat) (fr to b what : Int32) : Int32 → Prop := (fun v => v = stockC d fr to b what)
noncomputable def p7_ahead (c : Nat → Nat → Int32) (nl nk : Nat) (x : Nat → Nat → Nat) (fr to mo : Int32) : Int32 → Prop := (fun v => v = if 0 ≤ fr.toInt ∧ fr.toInt ≤ to.toInt ∧ to.toInt ≤ 51 ∧ 0 ≤ mo.toInt ∧ mo.toInt ≤ 10000 then (if 2147483647 < leC c mo (tn fr) (tn to + 1 - tn fr) then 2147483647 else leC c mo (tn fr) (tn to + 1 - tn fr)).toInt32 else -2)
noncomputable def p8_ahead (c : Nat → Nat → Int32) (d : Nat → Nat → Int32) (nl nk : Nat) (x : Nat → Nat → Nat) (fr to mo : Int32) : Int32 → Prop := (fun v => v = if 0 ≤ fr.toInt ∧ fr.toInt ≤ to.toInt ∧ to.toInt ≤ 51 ∧ 0 ≤ mo.toInt ∧ mo.toInt ≤ 10000 then amI (leC d mo (tn fr) (tn to + 1 - tn fr)) else -2)
noncomputable def p7_sheet (c : Nat → Nat → Int32) (nl nk : Nat) (x : Nat → Nat → Nat) (sheet form n : Int32) : Int32 → (Nat → Nat → Int32) → Prop := (fun v c' => (¬ ((0 ≤ sheet.toInt ∧ sheet.toInt ≤ 3) ∧ (0 ≤ form.toInt ∧ form.toInt ≤ 2) ∧ n.toInt ≤ 60) ∧ v = -2 ∧ c' = c) ∨ (((0 ≤ sheet.toInt ∧ sheet.toInt ≤ 3) ∧ (0 ≤ form.toInt ∧ form.toInt ≤ 2) ∧ n.toInt ≤ 60) ∧ n.toInt < 0 ∧ v = -15 ∧ c' = up2 c 0 10 5) ∨ (((0 ≤ sheet.toInt ∧ sheet.toInt ≤ 3) ∧ (0 ≤ form.toInt ∧ form.toInt ≤ 2) ∧ n.toInt ≤ 60) ∧ 0 ≤ n.toInt ∧ v = n ∧ c' = up1 (up2 (up2 (up2 c (40 + tn sheet) 1 (nI 0)) (40 + tn sheet) 2 form) (40 + tn sheet) 3 n) (50 + tn sheet) (fun q => if q < ln (50 + tn sheet) then nI 0 else (up2 (up2 (up2 c (40 + tn sheet) 1 (nI 0)) (40 + tn sheet) 2 form) (40 + tn sheet) 3 n) (50 + tn sheet) q)))
noncomputable def p8_sheet (c : Nat → Nat → Int32) (d : Nat → Nat → Int32) (nl nk : Nat) (x : Nat → Nat → Nat) (sheet form n : Int32) : Int32 → (Nat → Nat → Int32) → Prop := (fun v c' => (¬ ((0 ≤ sheet.toInt ∧ sheet.toInt ≤ 3) ∧ (0 ≤ form.toInt ∧ form.toInt ≤ 2) ∧ n.toInt ≤ 60) ∧ v = -2 ∧ c' = c) ∨ (((0 ≤ sheet.toInt ∧ sheet.toInt ≤ 3) ∧ (0 ≤ form.toInt ∧ form.toInt ≤ 2) ∧ n.toInt ≤ 60) ∧ n.toInt < 0 ∧ v = -15 ∧ c' = up2 c 300 27 5) ∨ (((0 ≤ sheet.toInt ∧ sheet.toInt ≤ 3) ∧ (0 ≤ form.toInt ∧ form.toInt ≤ 2) ∧ n.toInt ≤ 60) ∧ 0 ≤ n.toInt ∧ v = n ∧ c' = up1 (up2 (up2 c 324 (tn sheet) form) 325 (tn sheet) n) 326 (fun q => if 60 * tn sheet ≤ q ∧ q < 60 * tn sheet + tn n then nI 0 else (up2 (up2 c 324 (tn sheet) form) 325 (tn sheet) n) 326 q)))
noncomputable def p7_lose (c : Nat → Nat → Int32) (nl nk : Nat) (x : Nat → Nat → Nat) (sheet : Int32) : Int32 → (Nat → Nat → Int32) → Prop := (fun v c' => (¬ (0 ≤ sheet.toInt ∧ sheet.toInt ≤ 3) ∧ v = -2 ∧ c' = c) ∨ ((0 ≤ sheet.toInt ∧ sheet.toInt ≤ 3) ∧ nn c (40 + tn sheet) 1 = 1 ∧ v = -11 ∧ c' = up2 c 0 10 1) ∨ ((0 ≤ sheet.toInt ∧ sheet.toInt ≤ 3) ∧ nn c (40 + tn sheet) 1 = 0 ∧ v = c (40 + tn sheet) 3 ∧ c' = up2 c (40 + tn sheet) 1 (nI 1)))
noncomputable def p8_lose (c : Nat → Nat → Int32) (d : Nat → Nat → Int32) (nl nk : Nat) (x : Nat → Nat → Nat) (sheet : Int32) : Int32 → (Nat → Nat → Int32) → Prop := (fun v c' => (¬ (0 ≤ sheet.toInt ∧ sheet.toInt ≤ 3) ∧ v = -2 ∧ c' = c) ∨ ((0 ≤ sheet.toInt ∧ sheet.toInt ≤ 3) ∧ nn d (40 + tn sheet) 1 = 1 ∧ v = -11 ∧ c' = up2 c 300 27 1) ∨ ((0 ≤ sheet.toInt ∧ sheet.toInt ≤ 3) ∧ nn d (40 + tn sheet) 1 = 0 ∧ v = d (40 + tn sheet) 3 ∧ c' = up2 c 324 (tn sheet) (-1)))
noncomputable def p7_put (c : Nat → Nat → Int32) (nl nk : Nat) (x : Nat → Nat → Nat) (sheet form i val : Int32) : Int32 → (Nat → Nat → Int32) → Prop := (fun v c' => ((¬ ((0 ≤ sheet.toInt ∧ sheet.toInt ≤ 3) ∧ (0 ≤ form.toInt ∧ form.toInt ≤ 2)) ∧ v = -2 ∧ c' = c) ∨ ((0 ≤ sheet.toInt ∧ sheet.toInt ≤ 3) ∧ (0 ≤ form.toInt ∧ form.toInt ≤ 2) ∧ nn c (40 + tn sheet) 1 = 1 ∧ v = -11 ∧ c' = up2 c 0 10 1) ∨ ((0 ≤ sheet.toInt ∧ sheet.toInt ≤ 3) ∧ (0 ≤ form.toInt ∧ form.toInt ≤ 2) ∧ nn c (40 + tn sheet) 1 = 0 ∧ nn c (40 + tn sheet) 2 ≠ tn form ∧ v = -13 ∧ c' = up2 c 0 10 3) ∨ ((0 ≤ sheet.toInt ∧ sheet.toInt ≤ 3) ∧ (0 ≤ form.toInt ∧ form.toInt ≤ 2) ∧ nn c (40 + tn sheet) 1 = 0 ∧ nn c (40 + tn sheet) 2 = tn form ∧ ¬ (0 ≤ i.toInt ∧ i.toInt < (nn c (40 + tn sheet) 3 : Int)) ∧ v = -12 ∧ c' = up2 c 0 10 2)) ∨ (((0 ≤ sheet.toInt ∧ sheet.toInt ≤ 3) ∧ (0 ≤ form.toInt ∧ form.toInt ≤ 2) ∧ nn c (40 + tn sheet) 1 = 0 ∧ nn c (40 + tn sheet) 2 = tn form ∧ (0 ≤ i.toInt ∧ i.toInt < (nn c (40 + tn sheet) 3 : Int))) ∧ v = 1 ∧ c' = up2 c (50 + tn sheet) (tn i) (wrV (nn c (40 + tn sheet) 2) val)))
noncomputable def p8_put (c : Nat → Nat → Int32) (d : Nat → Nat → Int32) (nl nk : Nat) (x : Nat → Nat → Nat) (sheet form i val : Int32) : Int32 → (Nat → Nat → Int32) → Prop := (fun v c' => ((¬ ((0 ≤ sheet.toInt ∧ sheet.toInt ≤ 3) ∧ (0 ≤ form.toInt ∧ form.toInt ≤ 2)) ∧ v = -2 ∧ c' = c) ∨ ((0 ≤ sheet.toInt ∧ sheet.toInt ≤ 3) ∧ (0 ≤ form.toInt ∧ form.toInt ≤ 2) ∧ nn d (40 + tn sheet) 1 = 1 ∧ v = -11 ∧ c' = up2 c 300 27 1) ∨ ((0 ≤ sheet.toInt ∧ sheet.toInt ≤ 3) ∧ (0 ≤ form.toInt ∧ form.toInt ≤ 2) ∧ nn d (40 + tn sheet) 1 = 0 ∧ nn d (40 + tn sheet) 2 ≠ tn form ∧ v = -13 ∧ c' = up2 c 300 27 3) ∨ ((0 ≤ sheet.toInt ∧ sheet.toInt ≤ 3) ∧ (0 ≤ form.toInt ∧ form.toInt ≤ 2) ∧ nn d (40 + tn sheet) 1 = 0 ∧ nn d (40 + tn sheet) 2 = tn form ∧ ¬ (0 ≤ i.toInt ∧ i.toInt < (nn d (40 + tn sheet) 3 : Int)) ∧ v = -12 ∧ c' = up2 c 300 27 2)) ∨ (((0 ≤ sheet.toInt ∧ sheet.toInt ≤ 3) ∧ (0 ≤ form.toInt ∧ form.toInt ≤ 2) ∧ nn d (40 + tn sheet) 1 = 0 ∧ nn d (40 + tn sheet) 2 = tn form ∧ (0 ≤ i.toInt ∧ i.toInt < (nn d (40 + tn sheet) 3 : Int))) ∧ v = 1 ∧ c' = up2 c 326 (60 * tn sheet + tn i) (wrV (nn d (40 + tn sheet) 2) val)))
noncomputable def p7_get (c : Nat → Nat → Int32) (nl nk : Nat) (x : Nat → Nat → Nat) (sheet form i : Int32) : Int32 → (Nat → Nat → Int32) → Prop := (fun v c' => (v = -2147483648 ∧ ∃ t : Int32, (¬ ((0 ≤ sheet.toInt ∧ sheet.toInt ≤ 3) ∧ (0 ≤ form.toInt ∧ form.toInt ≤ 2)) ∧ t = -2 ∧ c' = c) ∨ ((0 ≤ sheet.toInt ∧ sheet.toInt ≤ 3) ∧ (0 ≤ form.toInt ∧ form.toInt ≤ 2) ∧ nn c (40 + tn sheet) 1 = 1 ∧ t = -11 ∧ c' = up2 c 0 10 1) ∨ ((0 ≤ sheet.toInt ∧ sheet.toInt ≤ 3) ∧ (0 ≤ form.toInt ∧ form.toInt ≤ 2) ∧ nn c (40 + tn sheet) 1 = 0 ∧ nn c (40 + tn sheet) 2 ≠ tn form ∧ t = -13 ∧ c' = up2 c 0 10 3) ∨ ((0 ≤ sheet.toInt ∧ sheet.toInt ≤ 3) ∧ (0 ≤ form.toInt ∧ form.toInt ≤ 2) ∧ nn c (40 + tn sheet) 1 = 0 ∧ nn c (40 + tn sheet) 2 = tn form ∧ ¬ (0 ≤ i.toInt ∧ i.toInt < (nn c (40 + tn sheet) 3 : Int)) ∧ t = -12 ∧ c' = up2 c 0 10 2)) ∨ (((0 ≤ sheet.toInt ∧ sheet.toInt ≤ 3) ∧ (0 ≤ form.toInt ∧ form.toInt ≤ 2) ∧ nn c (40 + tn sheet) 1 = 0 ∧ nn c (40 + tn sheet) 2 = tn form ∧ (0 ≤ i.toInt ∧ i.toInt < (nn c (40 + tn sheet) 3 : Int))) ∧ v = c (50 + tn sheet) (tn i) ∧ c' = c))
noncomputable def p8_get (c : Nat → Nat → Int32) (d : Nat → Nat → Int32) (nl nk : Nat) (x : Nat → Nat → Nat) (sheet form i : Int32) : Int32 → (Nat → Nat → Int32) → Prop := (fun v c' => (v = -2147483648 ∧ ∃ t : Int32, (¬ ((0 ≤ sheet.toInt ∧ sheet.toInt ≤ 3) ∧ (0 ≤ form.toInt ∧ form.toInt ≤ 2)) ∧ t = -2 ∧ c' = c) ∨ ((0 ≤ sheet.toInt ∧ sheet.toInt ≤ 3) ∧ (0 ≤ form.toInt ∧ form.toInt ≤ 2) ∧ nn d (40 + tn sheet) 1 = 1 ∧ t = -11 ∧ c' = up2 c 300 27 1) ∨ ((0 ≤ sheet.toInt ∧ sheet.toInt ≤ 3) ∧ (0 ≤ form.toInt ∧ form.toInt ≤ 2) ∧ nn d (40 + tn sheet) 1 = 0 ∧ nn d (40 + tn sheet) 2 ≠ tn form ∧ t = -13 ∧ c' = up2 c 300 27 3) ∨ ((0 ≤ sheet.toInt ∧ sheet.toInt ≤ 3) ∧ (0 ≤ form.toInt ∧ form.toInt ≤ 2) ∧ nn d (40 + tn sheet) 1 = 0 ∧ nn d (40 + tn sheet) 2 = tn form ∧ ¬ (0 ≤ i.toInt ∧ i.toInt < (nn d (40 + tn sheet) 3 : Int)) ∧ t = -12 ∧ c' = up2 c 300 27 2)) ∨ (((0 ≤ sheet.toInt ∧ sheet.toInt ≤ 3) ∧ (0 ≤ form.toInt ∧ form.toInt ≤ 2) ∧ nn d (40 + tn sheet) 1 = 0 ∧ nn d (40 + tn sheet) 2 = tn form ∧ (0 ≤ i.toInt ∧ i.toInt < (nn d (40 + tn sheet) 3 : Int))) ∧ v = d (50 + tn sheet) (tn i) ∧ c' = c))
noncomputable def p7_copy (c : Nat → Nat → Int32) (nl nk : Nat) (x : Nat → Nat → Nat) (sa i sb j n : Int32) : Int32 → (Nat → Nat → Int32) → Prop := (fun v c' => (¬ ((0 ≤ sa.toInt ∧ sa.toInt ≤ 3) ∧ (0 ≤ sb.toInt ∧ sb.toInt ≤ 3)) ∧ v = -2 ∧ c' = c) ∨ (((0 ≤ sa.toInt ∧ sa.toInt ≤ 3) ∧ (0 ≤ sb.toInt ∧ sb.toInt ≤ 3)) ∧ (nn c (40 + tn sa) 1 = 1 ∨ nn c (40 + tn sb) 1 = 1) ∧ v = -11 ∧ c' = up2 c 0 10 1) ∨ (((0 ≤ sa.toInt ∧ sa.toInt ≤ 3) ∧ (0 ≤ sb.toInt ∧ sb.toInt ≤ 3)) ∧ ¬ (nn c (40 + tn sa) 1 = 1 ∨ nn c (40 + tn sb) 1 = 1) ∧ ¬ nn c (40 + tn sa) 2 = nn c (40 + tn sb) 2 ∧ v = -14 ∧ c' = up2 c 0 10 4) ∨ (((0 ≤ sa.toInt ∧ sa.toInt ≤ 3) ∧ (0 ≤ sb.toInt ∧ sb.toInt ≤ 3)) ∧ ¬ (nn c (40 + tn sa) 1 = 1 ∨ nn c (40 + tn sb) 1 = 1) ∧ nn c (40 + tn sa) 2 = nn c (40 + tn sb) 2 ∧ ¬ ((0 ≤ i.toInt ∧ 0 ≤ n.toInt ∧ i.toInt + n.toInt ≤ (nn c (40 + tn sa) 3 : Int)) ∧ (0 ≤ j.toInt ∧ 0 ≤ n.toInt ∧ j.toInt + n.toInt ≤ (nn c (40 + tn sb) 3 : Int))) ∧ v = -12 ∧ c' = up2 c 0 10 2) ∨ (((0 ≤ sa.toInt ∧ sa.toInt ≤ 3) ∧ (0 ≤ sb.toInt ∧ sb.toInt ≤ 3)) ∧ ¬ (nn c (40 + tn sa) 1 = 1 ∨ nn c (40 + tn sb) 1 = 1) ∧ nn c (40 + tn sa) 2 = nn c (40 + tn sb) 2 ∧ ((0 ≤ i.toInt ∧ 0 ≤ n.toInt ∧ i.toInt + n.toInt ≤ (nn c (40 + tn sa) 3 : Int)) ∧ (0 ≤ j.toInt ∧ 0 ≤ n.toInt ∧ j.toInt + n.toInt ≤ (nn c (40 + tn sb) 3 : Int))) ∧ v = 1 ∧ c' = up1 c (50 + tn sb) (va_cpy (c (50 + tn sa)) (c (50 + tn sb)) (tn i) (tn j) (tn n))))
noncomputable def p8_copy (c : Nat → Nat → Int32) (d : Nat → Nat → Int32) (nl nk : Nat) (x : Nat → Nat → Nat) (sa i sb j n : Int32) : Int32 → (Nat → Nat → Int32) → Prop := (fun v c' => (¬ ((0 ≤ sa.toInt ∧ sa.toInt ≤ 3) ∧ (0 ≤ sb.toInt ∧ sb.toInt ≤ 3)) ∧ v = -2 ∧ c' = c) ∨ (((0 ≤ sa.toInt ∧ sa.toInt ≤ 3) ∧ (0 ≤ sb.toInt ∧ sb.toInt ≤ 3)) ∧ (nn d (40 + tn sa) 1 = 1 ∨ nn d (40 + tn sb) 1 = 1) ∧ v = -11 ∧ c' = up2 c 300 27 1) ∨ (((0 ≤ sa.toInt ∧ sa.toInt ≤ 3) ∧ (0 ≤ sb.toInt ∧ sb.toInt ≤ 3)) ∧ ¬ (nn d (40 + tn sa) 1 = 1 ∨ nn d (40 + tn sb) 1 = 1) ∧ ¬ nn d (40 + tn sa) 2 = nn d (40 + tn sb) 2 ∧ v = -14 ∧ c' = up2 c 300 27 4) ∨ (((0 ≤ sa.toInt ∧ sa.toInt ≤ 3) ∧ (0 ≤ sb.toInt ∧ sb.toInt ≤ 3)) ∧ ¬ (nn d (40 + tn sa) 1 = 1 ∨ nn d (40 + tn sb) 1 = 1) ∧ nn d (40 + tn sa) 2 = nn d (40 + tn sb) 2 ∧ ¬ ((0 ≤ i.toInt ∧ 0 ≤ n.toInt ∧ i.toInt + n.toInt ≤ (nn d (40 + tn sa) 3 : Int)) ∧ (0 ≤ j.toInt ∧ 0 ≤ n.toInt ∧ j.toInt + n.toInt ≤ (nn d (40 + tn sb) 3 : Int))) ∧ v = -12 ∧ c' = up2 c 300 27 2) ∨ (((0 ≤ sa.toInt ∧ sa.toInt ≤ 3) ∧ (0 ≤ sb.toInt ∧ sb.toInt ≤ 3)) ∧ ¬ (nn d (40 + tn sa) 1 = 1 ∨ nn d (40 + tn sb) 1 = 1) ∧ nn d (40 + tn sa) 2 = nn d (40 + tn sb) 2 ∧ ((0 ≤ i.toInt ∧ 0 ≤ n.toInt ∧ i.toInt + n.toInt ≤ (nn d (40 + tn sa) 3 : Int)) ∧ (0 ≤ j.toInt ∧ 0 ≤ n.toInt ∧ j.toInt + n.toInt ≤ (nn d (40 + tn sb) 3 : Int))) ∧ v = 1 ∧ c' = up1 (up1 c 327 (fun q => if q < tn n then c 326 (60 * tn sa + tn i + q) else c 327 q)) 326 (fun q => if 60 * tn sb + tn j ≤ q ∧ q < 60 * tn sb + tn j + tn n then c 326 (60 * tn sa + tn i + (q - (60 * tn sb + tn j))) else c 326 q)))
noncomputable def p7_count (c : Nat → Nat → Int32) (nl nk : Nat) (x : Nat → Nat → Nat) (what : Int32) : Int32 → Prop := (fun v => v = countC c x what)
noncomputable def p8_count (c : Nat → Nat → Int32) (d : Nat → Nat → Int32) (nl nk : Nat) (x : Nat → Nat → Nat) (what : Int32) : Int32 → Prop := (fun v => v = countC d x what)
noncomputable def p7_digest (c : Nat → Nat → Int32) (nl nk : Nat) (x : Nat → Nat → Nat) : Int64 → Prop := (fun v => v = digC c x nk)
noncomputable def p8_digest (c : Nat → Nat → Int32) (d : Nat → Nat → Int32) (nl nk : Nat) (x : Nat → Nat → Nat) : Int64 → (Nat → Nat → Int32) → Prop := (fun v c' => FrO c c' ∧ v = digC d x nk)
theorem bnd_st {nl nk w j lo hi : Nat} (h : nl ≤ 16) (hw : w < nl) (hb : bnd nl nk (120 + w) j lo hi) : lo = 0 ∧ hi = 31 := by
  rcases hb with g | g | g | g | g | g | g | g | g | g | g | g | g | g | g | g | g | g | g | g | g | g | g | g
  · exfalso; omega
  · exfalso; omega
  · exfalso; omega
  · exfalso; omega
  · exfalso; omega
  · exfalso; omega
  · exact g.2.2.2
  · exfalso; omega
  · exfalso; omega
  · exfalso; omega
  · exfalso; omega
  · exfalso; omega
  · exfalso; omega
  · exfalso; omega
  · exfalso; omega
  · exfalso; omega
  · exfalso; omega
  · exfalso; omega
  · exfalso; omega
  · exfalso; omega
  · exfalso; omega
  · exfalso; omega
  · exfalso; omega
  · exfalso; omega
theorem bnd_S {nl nk lo hi : Nat} (h : nl ≤ 16) (hb : bnd nl nk 3 1 lo hi) : lo = 5 ∧ hi = 60 := by
  rcases hb with g | g | g | g | g | g | g | g | g | g | g | g | g | g | g | g | g | g | g | g | g | g | g | g
  · exact g.2.2
  · exfalso; omega
  · exfalso; omega
  · exfalso; omega
  · exfalso; omega
  · exfalso; omega
  · exfalso; omega
  · exfalso; omega
  · exfalso; omega
  · exfalso; omega
  · exfalso; omega
  · exfalso; omega
  · exfalso; omega
  · exfalso; omega
  · exfalso; omega
  · exfalso; omega
  · exfalso; omega
  · exfalso; omega
  · exfalso; omega
  · exfalso; omega
  · exfalso; omega
  · exfalso; omega
  · exfalso; omega
  · exfalso; omega
theorem bnd_G {nl nk lo hi : Nat} (h : nl ≤ 16) (hb : bnd nl nk 3 2 lo hi) : lo = 0 ∧ hi = 3 := by
  rcases hb with g | g | g | g | g | g | g | g | g | g | g | g | g | g | g | g | g | g | g | g | g | g | g | g
  · exfalso; omega
  · exact g.2.2
  · exfalso; omega
  · exfalso; omega
  · exfalso; omega
  · exfalso; omega
  · exfalso; omega
  · exfalso; omega
  · exfalso; omega
  · exfalso; omega
  · exfalso; omega
  · exfalso; omega
  · exfalso; omega
  · exfalso; omega
  · exfalso; omega
  · exfalso; omega
  · exfalso; omega
  · exfalso; omega
  · exfalso; omega
  · exfalso; omega
  · exfalso; omega
  · exfalso; omega
  · exfalso; omega
  · exfalso; omega
theorem bnd_8 {nl nk j lo hi : Nat} (h : nl ≤ 16) (hb : bnd nl nk 8 j lo hi) : lo = 0 ∧ hi = 1 := by
  rcases hb with g | g | g | g | g | g | g | g | g | g | g | g | g | g | g | g | g | g | g | g | g | g | g | g
  · exfalso; omega
  · exfalso; omega
  · exfalso; omega
  · exfalso; omega
  · exfalso; omega
  · exfalso; omega
  · exfalso; omega
  · exfalso; omega
  · exfalso; omega
  · exfalso; omega
  · exfalso; omega
  · exfalso; omega
  · exfalso; omega
  · exfalso; omega
  · exfalso; omega
  · exfalso; omega
  · exfalso; omega
  · exfalso; omega
  · exfalso; omega
  · exfalso; omega
  · exfalso; omega
  · exfalso; omega
  · exact g.2.2
  · exfalso; omega
theorem bnd_9 {nl nk j lo hi : Nat} (h : nl ≤ 16) (hb : bnd nl nk 9 j lo hi) : lo = 0 ∧ hi = 10000 := by
  rcases hb with g | g | g | g | g | g | g | g | g | g | g | g | g | g | g | g | g | g | g | g | g | g | g | g
  · exfalso; omega
  · exfalso; omega
  · exfalso; omega
  · exfalso; omega
  · exfalso; omega
  · exfalso; omega
  · exfalso; omega
  · exfalso; omega
  · exfalso; omega
  · exfalso; omega
  · exfalso; omega
  · exfalso; omega
  · exfalso; omega
  · exfalso; omega
  · exfalso; omega
  · exfalso; omega
  · exfalso; omega
  · exfalso; omega
  · exfalso; omega
  · exfalso; omega
  · exfalso; omega
  · exfalso; omega
  · exfalso; omega
  · exact g.2.2
theorem bnd_50 {nl nk lo hi : Nat} (h : nl ≤ 16) (hb : bnd nl nk 5 0 lo hi) : lo = 10 ∧ hi = 200 := by
  rcases hb with g | g | g | g | g | g | g | g | g | g | g | g | g | g | g | g | g | g | g | g | g | g | g | g
  · exfalso; omega
  · exfalso; omega
  · exfalso; omega
  · exfalso; omega
  · exfalso; omega
  · exfalso; omega
  · exfalso; omega
  · exact g.2.2
  · exfalso; omega
  · exfalso; omega
  · exfalso; omega
  · exfalso; omega
  · exfalso; omega
  · exfalso; omega
  · exfalso; omega
  · exfalso; omega
  · exfalso; omega
  · exfalso; omega
  · exfalso; omega
  · exfalso; omega
  · exfalso; omega
  · exfalso; omega
  · exfalso; omega
  · exfalso; omega
theorem bnd_51 {nl nk lo hi : Nat} (h : nl ≤ 16) (hb : bnd nl nk 5 1 lo hi) : lo = 0 ∧ hi = 1000 := by
  rcases hb with g | g | g | g | g | g | g | g | g | g | g | g | g | g | g | g | g | g | g | g | g | g | g | g
  · exfalso; omega
  · exfalso; omega
  · exfalso; omega
  · exfalso; omega
  · exfalso; omega
  · exfalso; omega
  · exfalso; omega
  · exfalso; omega
  · exact g.2.2
  · exfalso; omega
  · exfalso; omega
  · exfalso; omega
  · exfalso; omega
  · exfalso; omega
  · exfalso; omega
  · exfalso; omega
  · exfalso; omega
  · exfalso; omega
  · exfalso; omega
  · exfalso; omega
  · exfalso; omega
  · exfalso; omega
  · exfalso; omega
  · exfalso; omega
theorem bnd_52 {nl nk lo hi : Nat} (h : nl ≤ 16) (hb : bnd nl nk 5 2 lo hi) : lo = 1 ∧ hi = 1000 := by
  rcases hb with g | g | g | g | g | g | g | g | g | g | g | g | g | g | g | g | g | g | g | g | g | g | g | g
  · exfalso; omega
  · exfalso; omega
  · exfalso; omega
  · exfalso; omega
  · exfalso; omega
  · exfalso; omega
  · exfalso; omega
  · exfalso; omega
  · exfalso; omega
  · exact g.2.2
  · exfalso; omega
  · exfalso; omega
  · exfalso; omega
  · exfalso; omega
  · exfalso; omega
  · exfalso; omega
  · exfalso; omega
  · exfalso; omega
  · exfalso; omega
  · exfalso; omega
  · exfalso; omega
  · exfalso; omega
  · exfalso; omega
  · exfalso; omega
theorem bnd_53 {nl nk lo hi : Nat} (h : nl ≤ 16) (hb : bnd nl nk 5 3 lo hi) : lo = 0 ∧ hi = 100 := by
  rcases hb with g | g | g | g | g | g | g | g | g | g | g | g | g | g | g | g | g | g | g | g | g | g | g | g
  · exfalso; omega
  · exfalso; omega
  · exfalso; omega
  · exfalso; omega
  · exfalso; omega
  · exfalso; omega
  · exfalso; omega
  · exfalso; omega
  · exfalso; omega
  · exfalso; omega
  · exact g.2.2
  · exfalso; omega
  · exfalso; omega
  · exfalso; omega
  · exfalso; omega
  · exfalso; omega
  · exfalso; omega
  · exfalso; omega
  · exfalso; omega
  · exfalso; omega
  · exfalso; omega
  · exfalso; omega
  · exfalso; omega
  · exfalso; omega
theorem tn_int {v : Int32} (h : 0 ≤ v.toInt) : ((tn v : Nat) : Int) = v.toInt := by unfold tn; omega
theorem tn_eq {v : Int32} (h : 0 ≤ v.toInt) : v = nI (tn v) := tI_of h
theorem sumF_mn {f : Nat → Nat} {m n : Nat} (h : m ≤ n) : sumF f m ≤ sumF f n := by
  induction n with
  | zero => rw [show m = 0 by omega]; exact Nat.le_refl _
  | succ n ih =>
    by_cases e : m = n + 1
    · rw [e]; exact Nat.le_refl _
    · have h2 := ih (by omega); rw [show sumF f (n + 1) = sumF f n + f n from rfl]; omega
theorem HIT_b {d : Nat → Nat → Int32} {x : Nat → Nat → Nat} {sh w b t n : Nat} (h : HIT d x sh w b t n) : sumF (rdC d x sh) w + outC d sh (layC d x w) b ≤ n ∧ n + 1 ≤ sumF (rdC d x sh) w + outC d sh (layC d x w) (b + 1) ∧ sumF (rdC d x sh) w + outC d sh (layC d x w) (b + 1) ≤ sumF (rdC d x sh) (w + 1) := by
  obtain ⟨h1, h2, h3, h4, h5, h6⟩ := h
  have e1 := inC_yes h5
  have e2 : inC d sh (layC d x w) b (t + 1) ≤ inC d sh (layC d x w) b (nn d 3 1) := sumF_mn (by omega)
  have e3 := outC_succ d sh (layC d x w) b
  have e4 : outC d sh (layC d x w) (b + 1) ≤ outC d sh (layC d x w) 4 := sumF_mn (by omega)
  have e5 : sumF (rdC d x sh) (w + 1) = sumF (rdC d x sh) w + rdC d x sh w := rfl
  have e6 : rdC d x sh w = outC d sh (layC d x w) 4 := pick_pos h4
  omega
theorem HIT_uni {d : Nat → Nat → Int32} {x : Nat → Nat → Nat} {sh w b t w' b' t' n : Nat} (h : HIT d x sh w b t n) (h' : HIT d x sh w' b' t' n) : w = w' ∧ b = b' ∧ t = t' := by
  have a1 := HIT_b h
  have a2 := HIT_b h'
  have hw : w = w' := by
    rcases Nat.lt_trichotomy w w' with q | q | q
    · have := sumF_mn (f := rdC d x sh) (show w + 1 ≤ w' by omega); omega
    · exact q
    · have := sumF_mn (f := rdC d x sh) (show w' + 1 ≤ w by omega); omega
  subst hw
  have hb : b = b' := by
    rcases Nat.lt_trichotomy b b' with q | q | q
    · have : outC d sh (layC d x w) (b + 1) ≤ outC d sh (layC d x w) b' := sumF_mn (by omega)
      omega
    · exact q
    · have : outC d sh (layC d x w) (b' + 1) ≤ outC d sh (layC d x w) b := sumF_mn (by omega)
      omega
  subst hb
  refine ⟨rfl, rfl, ?_⟩
  obtain ⟨-, -, -, -, h5, h6⟩ := h
  obtain ⟨-, -, -, -, h5', h6'⟩ := h'
  have e1 := inC_yes h5
  have e2 := inC_yes h5'
  rcases Nat.lt_trichotomy t t' with q | q | q
  · have : inC d sh (layC d x w) b (t + 1) ≤ inC d sh (layC d x w) b t' := sumF_mn (by omega)
    omega
  · exact q
  · have : inC d sh (layC d x w) b (t' + 1) ≤ inC d sh (layC d x w) b t := sumF_mn (by omega)
    omega
section OPS
variable {L : List Nat} {c c1 c2 : Nat → Nat → Int32} {r : Nat → Nat → Option Nat} {nl nk : Nat} {x : Nat → Nat → Nat} {v1 v2 : Int32}
theorem up_hi {k0 j0 : Nat} {v : Int32} (h : k0 < 300) : ∀ k, 300 ≤ k → up2 c k0 j0 v k = c k := fun k hk => up2_row c j0 v (by omega)
theorem INV_r4 (hV : INV L c r nl nk x) (h1 : ∀ k, k ≠ 4 → k ≠ 10 → c1 k = c k) (h2 : (∀ k, k < 300 → c2 k = c1 k) ∧ lks c1 c2) : INV L c2 r nl nk x := INV_sm hV (fun k a b e => (h2.1 k a).trans (h1 k b e)) (lks_tr ⟨fun k hk => h1 k (by unfold lkr at hk; omega) (by unfold lkr at hk; omega), fun j _ => by rw [h1 300 (by omega) (by omega)]⟩ h2.2)
theorem FrR_lo (h : FrR c1 c2) : (∀ k, k < 300 → c2 k = c1 k) ∧ lks c1 c2 := ⟨fun k hk => h.1 k (by omega) (by omega), FrR_lks h⟩
theorem FrO_lo (h : FrO c1 c2) : (∀ k, k < 300 → c2 k = c1 k) ∧ lks c1 c2 := ⟨fun k hk => h.1 k (by omega) (by omega), FrO_lks h⟩
theorem off311_lo (h : off311 c1 c2) : (∀ k, k < 300 → c2 k = c1 k) ∧ lks c1 c2 := ⟨fun k hk => h k (by omega), fun k hk => h k (by unfold lkr at hk; omega), fun j _ => by rw [h 300 (by omega)]⟩

theorem opA_strip {letter i bits : Int32} (hV : INV L c r nl nk x) (e1 : p7_strip c nl nk x letter i bits v1 c1) : ∀ k, 300 ≤ k → c1 k = c k := by
  have h16 := CI_nl16 hV.2.2.2.1
  rcases e1 with ⟨h, rfl, rfl⟩ | ⟨h, rfl, rfl⟩
  · have h := h
    have t1 := tn_int h.1
    have t2 := tn_int h.2.2.1
    have t3 := tn_int h.2.2.2.2.1
    have hw := (CI_wi hV.2.2.2.1 (show tn letter < nl by omega)).2.2
    exact up_hi (by omega)
  · exact fun _ _ => rfl
theorem opB_strip {letter i bits : Int32} (hV : INV L c r nl nk x) (e1 : p7_strip c nl nk x letter i bits v1 c1) (e2 : p8_strip c1 c nl nk x letter i bits v2 c2) : v1 = v2 ∧ INV L c2 r nl nk x := by
  have h16 := CI_nl16 hV.2.2.2.1
  rcases e1 with ⟨h, rfl, rfl⟩ | ⟨h, rfl, rfl⟩ <;> rcases e2 with ⟨g, rfl, rfl⟩ | ⟨g, rfl, rfl⟩
  · refine ⟨rfl, ?_⟩
    have t1 := tn_int h.1
    have t2 := tn_int h.2.2.1
    have t3 := tn_int h.2.2.2.2.1
    have hw := (CI_wi hV.2.2.2.1 (show tn letter < nl by omega)).2.2
    exact INV_pair hV (Or.inr (Or.inr (Or.inr (Or.inr (Or.inr (Or.inr (Or.inr (Or.inr (Or.inr (Or.inl ⟨rfl, by omega, by omega, by omega, by omega⟩)))))))))) (Or.inr (by omega)) (fun a b => absurd b (by omega)) (fun lo hi hb => ⟨tn bits, tn_eq (by omega), by have e := bnd_st h16 (show tn letter < nl by omega) hb; omega, by have e := bnd_st h16 (show tn letter < nl by omega) hb; omega⟩)
  · exact absurd h g
  · exact absurd g h
  · exact ⟨rfl, hV⟩
theorem opA_wipe {word : Int32} (hV : INV L c r nl nk x) (e1 : p7_wipe c nl nk x word v1 c1) : ∀ k, 300 ≤ k → c1 k = c k := by
  have h16 := CI_nl16 hV.2.2.2.1
  rcases e1 with ⟨h, rfl, rfl⟩ | ⟨h, rfl, rfl⟩
  · have h := h
    have t1 := tn_int h.1
    exact up_hi (by omega)
  · exact fun _ _ => rfl
theorem opB_wipe {word : Int32} (hV : INV L c r nl nk x) (e1 : p7_wipe c nl nk x word v1 c1) (e2 : p8_wipe c1 c nl nk x word v2 c2) : v1 = v2 ∧ INV L c2 r nl nk x := by
  have h16 := CI_nl16 hV.2.2.2.1
  rcases e1 with ⟨h, rfl, rfl⟩ | ⟨h, rfl, rfl⟩ <;> rcases e2 with ⟨g, rfl, rfl⟩ | ⟨g, rfl, rfl⟩
  · refine ⟨rfl, ?_⟩
    have t1 := tn_int h.1
    exact INV_pair hV (Or.inr (Or.inr (Or.inr (Or.inr (Or.inr (Or.inr (Or.inr (Or.inr (Or.inr (Or.inr (Or.inl ⟨rfl, by omega, rfl, rfl⟩))))))))))) (Or.inl (by omega)) (fun _ _ => rfl) (fun lo hi hb => ⟨0, rfl, by have e := bnd_20 (show tn word < 8 by omega) h16 hb; omega, by omega⟩)
  · exact absurd h g
  · exact absurd g h
  · exact ⟨rfl, hV⟩
theorem opA_slots {n : Int32} (hV : INV L c r nl nk x) (e1 : p7_slots c nl nk x n v1 c1) : ∀ k, 300 ≤ k → c1 k = c k := by
  have h16 := CI_nl16 hV.2.2.2.1
  rcases e1 with ⟨h, rfl, rfl⟩ | ⟨h, rfl, rfl⟩
  · have h := h
    have t1 := tn_int (show 0 ≤ n.toInt by omega)
    exact up_hi (by omega)
  · exact fun _ _ => rfl
theorem opB_slots {n : Int32} (hV : INV L c r nl nk x) (e1 : p7_slots c nl nk x n v1 c1) (e2 : p8_slots c1 c nl nk x n v2 c2) : v1 = v2 ∧ INV L c2 r nl nk x := by
  have h16 := CI_nl16 hV.2.2.2.1
  rcases e1 with ⟨h, rfl, rfl⟩ | ⟨h, rfl, rfl⟩ <;> rcases e2 with ⟨g, rfl, rfl⟩ | ⟨g, rfl, rfl⟩
  · refine ⟨rfl, ?_⟩
    have t1 := tn_int (show 0 ≤ n.toInt by omega)
    exact INV_pair hV (Or.inl ⟨rfl, rfl, rfl, rfl⟩) (Or.inl (by omega)) (fun a b => absurd a (by omega)) (fun lo hi hb => ⟨tn n, tn_eq (by omega), by have e := bnd_S h16 hb; omega, by have e := bnd_S h16 hb; omega⟩)
  · exact absurd h g
  · exact absurd g h
  · exact ⟨rfl, hV⟩
theorem opA_gap {n : Int32} (hV : INV L c r nl nk x) (e1 : p7_gap c nl nk x n v1 c1) : ∀ k, 300 ≤ k → c1 k = c k := by
  have h16 := CI_nl16 hV.2.2.2.1
  rcases e1 with ⟨h, rfl, rfl⟩ | ⟨h, rfl, rfl⟩
  · have h := h
    have t1 := tn_int h.1
    exact up_hi (by omega)
  · exact fun _ _ => rfl
theorem opB_gap {n : Int32} (hV : INV L c r nl nk x) (e1 : p7_gap c nl nk x n v1 c1) (e2 : p8_gap c1 c nl nk x n v2 c2) : v1 = v2 ∧ INV L c2 r nl nk x := by
  have h16 := CI_nl16 hV.2.2.2.1
  rcases e1 with ⟨h, rfl, rfl⟩ | ⟨h, rfl, rfl⟩ <;> rcases e2 with ⟨g, rfl, rfl⟩ | ⟨g, rfl, rfl⟩
  · refine ⟨rfl, ?_⟩
    have t1 := tn_int h.1
    exact INV_pair hV (Or.inr (Or.inl ⟨rfl, rfl, rfl, rfl⟩)) (Or.inl (by omega)) (fun a b => absurd a (by omega)) (fun lo hi hb => ⟨tn n, tn_eq (by omega), by have e := bnd_G h16 hb; omega, by have e := bnd_G h16 hb; omega⟩)
  · exact absurd h g
  · exact absurd g h
  · exact ⟨rfl, hV⟩
theorem opA_make {week n : Int32} (hV : INV L c r nl nk x) (e1 : p7_make c nl nk x week n v1 c1) : ∀ k, 300 ≤ k → c1 k = c k := by
  have h16 := CI_nl16 hV.2.2.2.1
  rcases e1 with ⟨h, rfl, rfl⟩ | ⟨h, rfl, rfl⟩
  · have h := h
    have t1 := tn_int h.1.1
    have t2 := tn_int h.2.1
    exact up_hi (by omega)
  · exact fun _ _ => rfl
theorem opB_make {week n : Int32} (hV : INV L c r nl nk x) (e1 : p7_make c nl nk x week n v1 c1) (e2 : p8_make c1 c nl nk x week n v2 c2) : v1 = v2 ∧ INV L c2 r nl nk x := by
  have h16 := CI_nl16 hV.2.2.2.1
  rcases e1 with ⟨h, rfl, rfl⟩ | ⟨h, rfl, rfl⟩ <;> rcases e2 with ⟨g, rfl, rfl⟩ | ⟨g, rfl, rfl⟩
  · refine ⟨rfl, ?_⟩
    have t1 := tn_int h.1.1
    have t2 := tn_int h.2.1
    exact INV_pair hV (Or.inr (Or.inr (Or.inr (Or.inr (Or.inr (Or.inr (Or.inr (Or.inr (Or.inr (Or.inr (Or.inr (Or.inr (Or.inr (Or.inl ⟨rfl, by omega, rfl, rfl⟩)))))))))))))) (Or.inl (by omega)) (fun a b => absurd a (by omega)) (fun lo hi hb => ⟨tn n, tn_eq (by omega), by have e := bnd_9 h16 hb; omega, by have e := bnd_9 h16 hb; omega⟩)
  · exact absurd h g
  · exact absurd g h
  · exact ⟨rfl, hV⟩
theorem opA_damp {week is : Int32} (hV : INV L c r nl nk x) (e1 : p7_damp c nl nk x week is v1 c1) : ∀ k, 300 ≤ k → c1 k = c k := by
  rcases e1 with ⟨h, rfl, rfl⟩ | ⟨h, rfl, rfl⟩
  · exact up_hi (by omega)
  · exact fun _ _ => rfl
theorem opB_damp {week is : Int32} (hV : INV L c r nl nk x) (hb : is = 0 ∨ is = 1) (e1 : p7_damp c nl nk x week is v1 c1) (e2 : p8_damp c1 c nl nk x week is v2 c2) : v1 = v2 ∧ INV L c2 r nl nk x := by
  rcases e1 with ⟨h, rfl, rfl⟩ | ⟨h, rfl, rfl⟩ <;> rcases e2 with ⟨g, rfl, rfl⟩ | ⟨g, rfl, rfl⟩
  · refine ⟨rfl, ?_⟩
    have t1 := tn_int h.1
    refine INV_pair hV (Or.inr (Or.inr (Or.inr (Or.inr (Or.inr (Or.inr (Or.inr (Or.inr (Or.inr (Or.inr (Or.inr (Or.inr (Or.inl ⟨rfl, by omega, rfl, rfl⟩))))))))))))) (Or.inl (by omega)) (fun a b => absurd a (by omega)) (fun lo hi hd => ?_)
    have e := bnd_8 (CI_nl16 hV.2.2.2.1) hd
    rcases hb with rfl | rfl
    · exact ⟨0, rfl, by omega, by omega⟩
    · exact ⟨1, rfl, by omega, by omega⟩
  · exact absurd h g
  · exact absurd g h
  · exact ⟨rfl, hV⟩
theorem opA_lose {sheet : Int32} (hV : INV L c r nl nk x) (e1 : p7_lose c nl nk x sheet v1 c1) : ∀ k, 300 ≤ k → c1 k = c k := by
  have h16 := CI_nl16 hV.2.2.2.1
  rcases e1 with ⟨h, rfl, rfl⟩ | ⟨h, h2, rfl, rfl⟩ | ⟨h, h2, rfl, rfl⟩
  · exact fun _ _ => rfl
  · exact up_hi (by omega)
  · have t1 := tn_int h.1
    exact up_hi (by omega)
theorem opB_lose {sheet : Int32} (hV : INV L c r nl nk x) (e1 : p7_lose c nl nk x sheet v1 c1) (e2 : p8_lose c1 c nl nk x sheet v2 c2) : v1 = v2 ∧ INV L c2 r nl nk x := by
  rcases e1 with ⟨h, rfl, rfl⟩ | ⟨h, h2, rfl, rfl⟩ | ⟨h, h2, rfl, rfl⟩ <;> rcases e2 with ⟨g, rfl, rfl⟩ | ⟨g, g2, rfl, rfl⟩ | ⟨g, g2, rfl, rfl⟩
  · exact ⟨rfl, hV⟩
  · exact absurd g h
  · exact absurd g h
  · exact absurd h g
  · exact ⟨rfl, INV_fi hV 1⟩
  · omega
  · exact absurd h g
  · omega
  · have t1 := tn_int h.1
    exact ⟨rfl, INV_lose hV (by omega)⟩
theorem opA_put {sheet form i val : Int32} (hV : INV L c r nl nk x) (e1 : p7_put c nl nk x sheet form i val v1 c1) : ∀ k, 300 ≤ k → c1 k = c k := by
  rcases e1 with (⟨h, rfl, rfl⟩ | ⟨h, h2, h3, rfl, rfl⟩ | ⟨h, h2, h3, h4, rfl, rfl⟩ | ⟨h, h2, h3, h4, h5, rfl, rfl⟩) | ⟨h, rfl, rfl⟩
  · exact fun _ _ => rfl
  · exact up_hi (by omega)
  · exact up_hi (by omega)
  · exact up_hi (by omega)
  · have t1 := tn_int h.1.1
    exact up_hi (by omega)
theorem opB_put {sheet form i val : Int32} (hV : INV L c r nl nk x) (e1 : p7_put c nl nk x sheet form i val v1 c1) (e2 : p8_put c1 c nl nk x sheet form i val v2 c2) : v1 = v2 ∧ INV L c2 r nl nk x := by
  rcases e1 with (⟨h, rfl, rfl⟩ | ⟨h, h2, h3, rfl, rfl⟩ | ⟨h, h2, h3, h4, rfl, rfl⟩ | ⟨h, h2, h3, h4, h5, rfl, rfl⟩) | ⟨h, rfl, rfl⟩ <;> rcases e2 with (⟨g, rfl, rfl⟩ | ⟨g, g2, g3, rfl, rfl⟩ | ⟨g, g2, g3, g4, rfl, rfl⟩ | ⟨g, g2, g3, g4, g5, rfl, rfl⟩) | ⟨g, rfl, rfl⟩
  · exact ⟨rfl, hV⟩
  · exfalso; omega
  · exfalso; omega
  · exfalso; omega
  · exfalso; omega
  · exfalso; omega
  · exact ⟨rfl, INV_fi hV 1⟩
  · exfalso; omega
  · exfalso; omega
  · exfalso; omega
  · exfalso; omega
  · exfalso; omega
  · exact ⟨rfl, INV_fi hV 3⟩
  · exfalso; omega
  · exfalso; omega
  · exfalso; omega
  · exfalso; omega
  · exfalso; omega
  · exact ⟨rfl, INV_fi hV 2⟩
  · exfalso; omega
  · exfalso; omega
  · exfalso; omega
  · exfalso; omega
  · exfalso; omega
  · have t1 := tn_int h.1.1
    have t2 := tn_int h.2.2.2.2.1
    exact ⟨rfl, INV_put hV (by omega) (by omega)⟩
theorem opA_get {sheet form i : Int32} (hV : INV L c r nl nk x) (e1 : p7_get c nl nk x sheet form i v1 c1) : ∀ k, 300 ≤ k → c1 k = c k := by
  rcases e1 with ⟨rfl, ⟨t, ⟨h, rfl, rfl⟩ | ⟨h, h2, h3, rfl, rfl⟩ | ⟨h, h2, h3, h4, rfl, rfl⟩ | ⟨h, h2, h3, h4, h5, rfl, rfl⟩⟩⟩ | ⟨h, rfl, rfl⟩
  · exact fun _ _ => rfl
  · exact up_hi (by omega)
  · exact up_hi (by omega)
  · exact up_hi (by omega)
  · exact fun _ _ => rfl
theorem opB_get {sheet form i : Int32} (hV : INV L c r nl nk x) (e1 : p7_get c nl nk x sheet form i v1 c1) (e2 : p8_get c1 c nl nk x sheet form i v2 c2) : v1 = v2 ∧ INV L c2 r nl nk x := by
  rcases e1 with ⟨rfl, ⟨t, ⟨h, rfl, rfl⟩ | ⟨h, h2, h3, rfl, rfl⟩ | ⟨h, h2, h3, h4, rfl, rfl⟩ | ⟨h, h2, h3, h4, h5, rfl, rfl⟩⟩⟩ | ⟨h, rfl, rfl⟩ <;> rcases e2 with ⟨rfl, ⟨t, ⟨g, rfl, rfl⟩ | ⟨g, g2, g3, rfl, rfl⟩ | ⟨g, g2, g3, g4, rfl, rfl⟩ | ⟨g, g2, g3, g4, g5, rfl, rfl⟩⟩⟩ | ⟨g, rfl, rfl⟩
  · exact ⟨rfl, hV⟩
  · exfalso; omega
  · exfalso; omega
  · exfalso; omega
  · exfalso; omega
  · exfalso; omega
  · exact ⟨rfl, INV_fi hV 1⟩
  · exfalso; omega
  · exfalso; omega
  · exfalso; omega
  · exfalso; omega
  · exfalso; omega
  · exact ⟨rfl, INV_fi hV 3⟩
  · exfalso; omega
  · exfalso; omega
  · exfalso; omega
  · exfalso; omega
  · exfalso; omega
  · exact ⟨rfl, INV_fi hV 2⟩
  · exfalso; omega
  · exfalso; omega
  · exfalso; omega
  · exfalso; omega
  · exfalso; omega
  · exact ⟨rfl, hV⟩
theorem opA_copy {sa i sb j n : Int32} (hV : INV L c r nl nk x) (e1 : p7_copy c nl nk x sa i sb j n v1 c1) : ∀ k, 300 ≤ k → c1 k = c k := by
  rcases e1 with ⟨h, rfl, rfl⟩ | ⟨h, h2, rfl, rfl⟩ | ⟨h, h2, h3, rfl, rfl⟩ | ⟨h, h2, h3, h4, rfl, rfl⟩ | ⟨h, h2, h3, h4, rfl, rfl⟩
  · exact fun _ _ => rfl
  · exact up_hi (by omega)
  · exact up_hi (by omega)
  · exact up_hi (by omega)
  · have t1 := tn_int h.2.1
    exact fun k hk => up1_k c _ (by omega)
theorem opB_copy {sa i sb j n : Int32} (hV : INV L c r nl nk x) (e1 : p7_copy c nl nk x sa i sb j n v1 c1) (e2 : p8_copy c1 c nl nk x sa i sb j n v2 c2) : v1 = v2 ∧ INV L c2 r nl nk x := by
  rcases e1 with ⟨h, rfl, rfl⟩ | ⟨h, h2, rfl, rfl⟩ | ⟨h, h2, h3, rfl, rfl⟩ | ⟨h, h2, h3, h4, rfl, rfl⟩ | ⟨h, h2, h3, h4, rfl, rfl⟩ <;> rcases e2 with ⟨g, rfl, rfl⟩ | ⟨g, g2, rfl, rfl⟩ | ⟨g, g2, g3, rfl, rfl⟩ | ⟨g, g2, g3, g4, rfl, rfl⟩ | ⟨g, g2, g3, g4, rfl, rfl⟩
  · exact ⟨rfl, hV⟩
  · exfalso; omega
  · exfalso; omega
  · exfalso; omega
  · exfalso; omega
  · exfalso; omega
  · exact ⟨rfl, INV_fi hV 1⟩
  · exfalso; omega
  · exfalso; omega
  · exfalso; omega
  · exfalso; omega
  · exfalso; omega
  · exact ⟨rfl, INV_fi hV 4⟩
  · exfalso; omega
  · exfalso; omega
  · exfalso; omega
  · exfalso; omega
  · exfalso; omega
  · exact ⟨rfl, INV_fi hV 2⟩
  · exfalso; omega
  · exfalso; omega
  · exfalso; omega
  · exfalso; omega
  · exfalso; omega
  · have t1 := tn_int h.1.1
    have t2 := tn_int h.2.1
    have t3 := tn_int h4.1.1
    have t4 := tn_int h4.2.1
    have t5 := tn_int h4.1.2.1
    refine ⟨rfl, INV_copy hV (sa := tn sa) (i0 := tn i) (sb := tn sb) (j0 := tn j) (n := tn n) (by omega) (by omega) (by omega) (by omega) (fun k q a b => ?_) (fun q => ?_) (fun k q a b e => ?_) (fun q => ?_)⟩
    · rw [up1_k _ _ (by omega), up1_k _ _ (by omega), up1_k _ _ b]
    · rw [up1_k _ _ (by omega), up1_k _ _ (by omega), up1_self]; rfl
    · rw [up1_k _ _ b, up1_k _ _ e, up1_k _ _ (by omega)]
    · rw [up1_self, up1_k _ _ (show (326 : Nat) ≠ 50 + tn sb by omega)]
theorem opA_sheet {sheet form n : Int32} (hV : INV L c r nl nk x) (e1 : p7_sheet c nl nk x sheet form n v1 c1) : ∀ k, 300 ≤ k → c1 k = c k := by
  rcases e1 with ⟨h, rfl, rfl⟩ | ⟨h, h2, rfl, rfl⟩ | ⟨h, h2, hv, rfl⟩
  · exact fun _ _ => rfl
  · exact up_hi (by omega)
  · have t1 := tn_int h.1.1
    exact fun k hk => by rw [up1_k _ _ (by omega), up2_row _ _ _ (by omega), up2_row _ _ _ (by omega), up2_row _ _ _ (by omega)]
theorem opB_sheet {sheet form n : Int32} (hV : INV L c r nl nk x) (e1 : p7_sheet c nl nk x sheet form n v1 c1) (e2 : p8_sheet c1 c nl nk x sheet form n v2 c2) : v1 = v2 ∧ INV L c2 r nl nk x := by
  rcases e1 with ⟨h, rfl, rfl⟩ | ⟨h, h2, rfl, rfl⟩ | ⟨h, h2, hv, rfl⟩ <;> rcases e2 with ⟨g, rfl, rfl⟩ | ⟨g, g2, rfl, rfl⟩ | ⟨g, g2, gv, rfl⟩
  · exact ⟨rfl, hV⟩
  · exfalso; omega
  · exfalso; omega
  · exfalso; omega
  · exact ⟨rfl, INV_fi hV 5⟩
  · exfalso; omega
  · exfalso; omega
  · exfalso; omega
  · have t1 := tn_int h.1.1
    have t2 := tn_int h.2.1.1
    have t3 := tn_int h2
    have hl : ln (50 + tn sheet) = 60 := ln_it (by omega)
    refine ⟨hv.trans gv.symm, INV_sheet hV (s := tn sheet) (f := tn form) (m := tn n) (by omega) (by omega) (by omega) (fun k j a b e => ?_) ?_ ?_ ?_ (fun i hi => ?_) (fun k j a b e f => ?_) ?_ ?_ (fun i hi => ?_)⟩
    · rw [up1_k _ _ (by omega), up2_row _ _ _ (by omega), up2_row _ _ _ (by omega), up1_k _ _ e, up2_ne _ _ (by omega), up2_ne _ _ (by omega), up2_ne _ _ (by omega)]
    · rw [up1_k _ _ (by omega), up2_row _ _ _ (by omega), up2_row _ _ _ (by omega), up1_k _ _ (by omega), up2_ne _ _ (by omega), up2_ne _ _ (by omega), up2_self]
    · rw [up1_k _ _ (by omega), up2_row _ _ _ (by omega), up2_row _ _ _ (by omega), up1_k _ _ (by omega), up2_ne _ _ (by omega), up2_self]; exact tn_eq (by omega)
    · rw [up1_k _ _ (by omega), up2_row _ _ _ (by omega), up2_row _ _ _ (by omega), up1_k _ _ (by omega), up2_self]; exact tn_eq (by omega)
    · rw [up1_k _ _ (by omega), up2_row _ _ _ (by omega), up2_row _ _ _ (by omega), up1_self, if_pos (by omega)]
    · by_cases z : k = 326
      · subst z
        rw [up1_self, if_neg (by omega), up2_row _ _ _ (by omega), up2_row _ _ _ (by omega), up1_k _ _ (by omega), up2_row _ _ _ (by omega), up2_row _ _ _ (by omega), up2_row _ _ _ (by omega)]
      · rw [up1_k _ _ z, up2_ne _ _ e, up2_ne _ _ b, up1_k _ _ (by omega), up2_row _ _ _ (by omega), up2_row _ _ _ (by omega), up2_row _ _ _ (by omega)]
    · rw [up1_k _ _ (by omega), up2_row _ _ _ (by omega), up2_self]; exact tn_eq (by omega)
    · rw [up1_k _ _ (by omega), up2_self]; exact tn_eq (by omega)
    · rw [up1_self, if_pos (by omega)]
theorem opA_cut {word turn look i : Int32} (hV : INV L c r nl nk x) (e1 : p7_cut c nl nk x word turn look i v1 c1) : ∀ k, 300 ≤ k → c1 k = c k := by
  exact fun k hk => e1.1 k (by omega)
theorem opB_cut {word turn look i : Int32} (hV : INV L c r nl nk x) (e1 : p7_cut c nl nk x word turn look i v1 c1) (e2 : p8_cut c1 c nl nk x word turn look i v2 c2) : v1 = v2 ∧ INV L c2 r nl nk x := by
  exact ⟨e1.2.trans e2.2.symm, INV_r4 hV (fun k a _ => e1.1 k a) (off311_lo e2.1)⟩
theorem opA_readings {sheet : Int32} (hV : INV L c r nl nk x) (e1 : p7_readings c nl nk x sheet v1 c1) : ∀ k, 300 ≤ k → c1 k = c k := by
  rcases e1 with (⟨h, rfl, rfl⟩ | ⟨h, h2, rfl, rfl⟩) | ⟨h, h2, rfl⟩
  · exact fun _ _ => rfl
  · exact up_hi (by omega)
  · exact fun k hk => h2 k (by omega)
theorem opB_readings {sheet : Int32} (hV : INV L c r nl nk x) (e1 : p7_readings c nl nk x sheet v1 c1) (e2 : p8_readings c1 c nl nk x sheet v2 c2) : v1 = v2 ∧ INV L c2 r nl nk x := by
  rcases e1 with (⟨h, rfl, rfl⟩ | ⟨h, h2, rfl, rfl⟩) | ⟨h, h2, rfl⟩ <;> rcases e2 with (⟨g, rfl, rfl⟩ | ⟨g, g2, rfl, rfl⟩) | ⟨g, g2, rfl⟩
  · exact ⟨rfl, hV⟩
  · exfalso; omega
  · exfalso; omega
  · exfalso; omega
  · exact ⟨rfl, INV_fi hV 1⟩
  · exfalso; omega
  · exfalso; omega
  · exfalso; omega
  · exact ⟨rfl, INV_r4 hV (fun k a _ => h2 k a) (FrR_lo g2)⟩
theorem opA_words {sheet : Int32} (hV : INV L c r nl nk x) (e1 : p7_words c nl nk x sheet v1 c1) : ∀ k, 300 ≤ k → c1 k = c k := by
  rcases e1 with (⟨h, rfl, rfl⟩ | ⟨h, h2, rfl, rfl⟩) | ⟨h, h2, rfl⟩
  · exact fun _ _ => rfl
  · exact up_hi (by omega)
  · exact fun k hk => h2 k (by omega)
theorem opB_words {sheet : Int32} (hV : INV L c r nl nk x) (e1 : p7_words c nl nk x sheet v1 c1) (e2 : p8_words c1 c nl nk x sheet v2 c2) : v1 = v2 ∧ INV L c2 r nl nk x := by
  rcases e1 with (⟨h, rfl, rfl⟩ | ⟨h, h2, rfl, rfl⟩) | ⟨h, h2, rfl⟩ <;> rcases e2 with (⟨g, rfl, rfl⟩ | ⟨g, g2, rfl, rfl⟩) | ⟨g, g2, rfl⟩
  · exact ⟨rfl, hV⟩
  · exfalso; omega
  · exfalso; omega
  · exfalso; omega
  · exact ⟨rfl, INV_fi hV 1⟩
  · exfalso; omega
  · exfalso; omega
  · exfalso; omega
  · exact ⟨rfl, INV_r4 hV (fun k a _ => h2 k a) (FrR_lo g2)⟩
theorem opA_reading {sheet i : Int32} (hV : INV L c r nl nk x) (e1 : p7_reading c nl nk x sheet i v1 c1) : ∀ k, 300 ≤ k → c1 k = c k := by
  rcases e1 with ⟨h, rfl, rfl⟩ | ⟨h, ⟨h2, rfl, rfl⟩ | ⟨h2, h3, rfl, rfl⟩⟩ | ⟨h, h2, h3, h4⟩
  · exact fun _ _ => rfl
  · exact fun _ _ => rfl
  · exact up_hi (by omega)
  · exact fun k hk => h3 k (by omega)
theorem opB_reading {sheet i : Int32} (hV : INV L c r nl nk x) (e1 : p7_reading c nl nk x sheet i v1 c1) (e2 : p8_reading c1 c nl nk x sheet i v2 c2) : v1 = v2 ∧ INV L c2 r nl nk x := by
  rcases e1 with ⟨h, rfl, rfl⟩ | ⟨h, ⟨h2, rfl, rfl⟩ | ⟨h2, h3, rfl, rfl⟩⟩ | ⟨h, h2, h3, h4⟩ <;> rcases e2 with ⟨g, rfl, rfl⟩ | ⟨g, ⟨g2, rfl, rfl⟩ | ⟨g2, g3, rfl, rfl⟩⟩ | ⟨g, g2, g3, g4⟩
  · exact ⟨rfl, hV⟩
  · exfalso; omega
  · exfalso; omega
  · exfalso; omega
  · exfalso; omega
  · exact ⟨rfl, hV⟩
  · exfalso; omega
  · exfalso; omega
  · exfalso; omega
  · exfalso; omega
  · exact ⟨rfl, INV_fi hV 1⟩
  · exfalso; omega
  · exfalso; omega
  · exfalso; omega
  · exfalso; omega
  · refine ⟨?_, INV_r4 hV (fun k a _ => h3 k a) (FrR_lo g3)⟩
    have t1 := tn_int h
    have hi2 : i.toInt < 2147483648 := Int32.toInt_lt i
    have q := g4 (tn i) (by omega) (tn_eq h)
    rcases h4 with ⟨w, b, t, a1, a2, a3, a4, a5, a6, rfl⟩ | ⟨rfl, a1⟩
    · have hh : HIT c x (tn sheet) w b t (tn i) := ⟨a1, a2, a3, a4, a5, a6⟩
      rcases q with ⟨b1, -⟩ | ⟨-, w', b', t', hq, rfl⟩
      · have z := HIT_b hh
        have z2 := sumF_mn (f := rdC c x (tn sheet)) (show w + 1 ≤ 8 by omega)
        exfalso; omega
      · obtain ⟨rfl, rfl, rfl⟩ := HIT_uni hh hq
        rfl
    · rcases q with ⟨-, rfl⟩ | ⟨b1, -⟩
      · rfl
      · exfalso; omega
theorem opB_late {word : Int32} (hV : INV L c r nl nk x) (e1 : p7_late c nl nk x word v1) (e2 : p8_late c c nl nk x word v2 c2) : v1 = v2 ∧ INV L c2 r nl nk x := by
  rcases e2 with ⟨g, rfl, rfl⟩ | ⟨g, g2, rfl⟩
  · exact ⟨e1.trans (if_neg g), hV⟩
  · exact ⟨e1.trans (if_pos g), INV_r4 hV (fun _ _ _ => rfl) (FrO_lo g2)⟩
theorem opB_spoiled {word : Int32} (hV : INV L c r nl nk x) (e1 : p7_spoiled c nl nk x word v1) (e2 : p8_spoiled c c nl nk x word v2 c2) : v1 = v2 ∧ INV L c2 r nl nk x := by
  rcases e2 with ⟨g, rfl, rfl⟩ | ⟨g, g2, rfl⟩
  · exact ⟨e1.trans (if_neg g), hV⟩
  · exact ⟨e1.trans (if_pos g), INV_r4 hV (fun _ _ _ => rfl) (FrO_lo g2)⟩
theorem opB_order {word i : Int32} (hV : INV L c r nl nk x) (e1 : p7_order c nl nk x word i v1) (e2 : p8_order c c nl nk x word i v2 c2) : v1 = v2 ∧ INV L c2 r nl nk x := by
  rcases e1 with ⟨h, h2⟩ | ⟨h, rfl⟩ <;> rcases e2 with ⟨g, rfl, rfl⟩ | ⟨g, g2, q, hq, rfl, hq2⟩
  · exact absurd h g
  · refine ⟨?_, INV_r4 hV (fun _ _ _ => rfl) (FrO_lo g2)⟩
    rcases h2 with ⟨p, hp, rfl, hp2, -⟩ | ⟨-, h3⟩
    · rw [rank_inj hp hq (hp2.trans hq2.symm)]
    · exact absurd hq2 (h3 q hq)
  · exact ⟨rfl, hV⟩
  · exact absurd g h
theorem op_trace {stick : Int32} (e1 : p7_trace c nl nk x stick v1) (e2 : p8_trace c2 c nl nk x stick v2) : v1 = v2 := by
  rcases e1 with ⟨k, hk, rfl, h1, h2⟩ | ⟨rfl, h2⟩ <;> rcases e2 with ⟨q, hq, rfl, g1, g2⟩ | ⟨rfl, g2⟩
  · rcases Nat.lt_trichotomy k q with z | z | z
    · exact absurd h1 (g2 k z)
    · rw [z]
    · exact absurd g1 (h2 q z)
  · exact absurd h1 (g2 k hk)
  · exact absurd g1 (h2 q hq)
  · rfl
theorem opA_letter {a : Nat → Nat} {g : Nat → Nat → Int64} {wi mi so : Int32} {ω : Wo} (hV : INV L c r nl nk x) (e1 : p7_letter a L c g r nl nk x wi mi so v1 ω) : ∃ a' L' c1 g' r', ω = (a', L', c1, g', r') ∧ a' 0 = a 0 ∧ a' 300 = a 300 ∧ zLv L' nl nk ∧ RM r' ∧ ∀ k, 300 ≤ k → c1 k = c k := by
  have h16 := CI_nl16 hV.2.2.2.1
  rcases e1 with ⟨h, rfl, rfl⟩ | ⟨h, h2, rfl, rfl⟩ | ⟨h, h2, rfl, a', ha, rfl⟩
  · exact ⟨_, _, _, _, _, rfl, rfl, rfl, hV.1, hV.2.2.1, fun _ _ => rfl⟩
  · exact ⟨_, _, _, _, _, rfl, rfl, rfl, hV.1, hV.2.2.1, fun _ _ => rfl⟩
  · refine ⟨_, _, _, _, _, rfl, ha 0 (by omega) (by omega), ha 300 (by omega) (by omega), fun k hk => List.mem_append_left _ (List.mem_append_left _ (hV.1 k hk)), ?_, fun k hk => ?_⟩
    · have hM := hV.2.2.1
      unfold RM at hM ⊢
      rw [up2_row _ _ _ (by omega), up2_row _ _ _ (by omega), up1_k _ _ (by omega), up1_k _ _ (by omega)]; exact hM
    · rw [up2_row _ _ _ (by omega), up1_k _ _ (by omega), up2_row _ _ _ (by omega), up2_row _ _ _ (by omega), up2_row _ _ _ (by omega), up1_k _ _ (by omega)]
theorem opB_letter {a : Nat → Nat} {g : Nat → Nat → Int64} {wi mi so : Int32} {ω : Wo} (hV : INV L c r nl nk x) (e1 : p7_letter a L c g r nl nk x wi mi so v1 ω) (e2 : p8_letter ω.2.2.1 c nl nk x wi mi so v2 c2) : v1 = v2 ∧ ∃ nl', INV ω.2.1 c2 ω.2.2.2.2 nl' nk x := by
  have h16 := CI_nl16 hV.2.2.2.1
  rcases e1 with ⟨h, rfl, rfl⟩ | ⟨h, h2, rfl, rfl⟩ | ⟨h, h2, rfl, a', ha, rfl⟩ <;> rcases e2 with ⟨q, rfl, rfl⟩ | ⟨q, q2, rfl, rfl⟩ | ⟨q, q2, rfl, rfl⟩
  · exact ⟨rfl, nl, hV⟩
  · exact absurd q h
  · exact absurd q h
  · exact absurd h q
  · exact ⟨rfl, nl, hV⟩
  · exfalso; omega
  · exact absurd h q
  · exfalso; omega
  · have t1 := tn_int (show 0 ≤ wi.toInt by omega)
    have t2 := tn_int (show 0 ≤ mi.toInt by omega)
    have t3 := tn_int (show 0 ≤ so.toInt by omega)
    refine ⟨rfl, nl + 1, INV_letter hV (a1 := tn wi) (a2 := tn mi) (a3 := tn so) h2 (by omega) (by omega) (by omega) (fun k j a b e f => ?_) ?_ ?_ ?_ ?_ (fun j => ?_) (fun k j a b e f z => ?_) ?_ ?_ ?_ ?_⟩ <;> dsimp only
    · simp (disch := omega) only [up2_ne, up1_k]
    · simp (disch := omega) only [up2_ne, up1_k, up2_self]
    · simp (disch := omega) only [up2_ne, up1_k, up2_self]; exact tn_eq (by omega)
    · simp (disch := omega) only [up2_ne, up1_k, up2_self]; exact tn_eq (by omega)
    · simp (disch := omega) only [up2_ne, up1_k, up2_self]; exact tn_eq (by omega)
    · simp (disch := omega) only [up2_ne, up1_k, up2_self, up1_self]
    · simp (disch := omega) only [up2_ne, up1_k]
    · simp (disch := omega) only [up2_ne, up2_self]; exact tn_eq (by omega)
    · simp (disch := omega) only [up2_ne, up2_self]; exact tn_eq (by omega)
    · simp (disch := omega) only [up2_ne, up2_self]; exact tn_eq (by omega)
    · simp (disch := omega) only [up2_self]
theorem opA_spell {a : Nat → Nat} {g : Nat → Nat → Int64} {word letter : Int32} {ω : Wo} (hV : INV L c r nl nk x) (e1 : p7_spell a L c g r nl nk x word letter v1 ω) : ∃ a' L' c1 g' r', ω = (a', L', c1, g', r') ∧ a' 0 = a 0 ∧ a' 300 = a 300 ∧ zLv L' nl nk ∧ RM r' ∧ ∀ k, 300 ≤ k → c1 k = c k := by
  rcases e1 with ⟨h, rfl, rfl⟩ | ⟨h, h2, rfl, rfl⟩ | ⟨h, h2, rfl, rfl⟩
  · exact ⟨_, _, _, _, _, rfl, rfl, rfl, hV.1, hV.2.2.1, fun _ _ => rfl⟩
  · exact ⟨_, _, _, _, _, rfl, rfl, rfl, hV.1, hV.2.2.1, fun _ _ => rfl⟩
  · have t1 := tn_int h.1.1
    refine ⟨_, _, _, _, _, rfl, rfl, rfl, hV.1, ?_, up_hi (by omega)⟩
    have hM := hV.2.2.1
    unfold RM at hM ⊢
    rw [up2_row _ _ _ (by omega)]; exact hM
theorem opB_spell {a : Nat → Nat} {g : Nat → Nat → Int64} {word letter : Int32} {ω : Wo} (hV : INV L c r nl nk x) (e1 : p7_spell a L c g r nl nk x word letter v1 ω) (e2 : p8_spell ω.2.2.1 c nl nk x word letter v2 c2) : v1 = v2 ∧ ∃ x', INV ω.2.1 c2 ω.2.2.2.2 nl nk x' := by
  rcases e1 with ⟨h, rfl, rfl⟩ | ⟨h, h2, rfl, rfl⟩ | ⟨h, h2, rfl, rfl⟩ <;> rcases e2 with ⟨q, rfl, rfl⟩ | ⟨q, q2, rfl, rfl⟩ | ⟨q, q2, rfl, rfl⟩
  · exact ⟨rfl, x, hV⟩
  · exact absurd q h
  · exact absurd q h
  · exact absurd h q
  · exact ⟨rfl, x, hV⟩
  · exfalso; omega
  · exact absurd h q
  · exfalso; omega
  · have t1 := tn_int h.1.1
    have t2 := tn_int h.2.1
    have z := INV_spell hV (w := tn word) (q := tn letter) (by omega) rfl h2 (by omega)
    rw [← tn_eq h.2.1] at z
    exact ⟨rfl, _, z⟩
theorem opA_lump {a : Nat → Nat} {g : Nat → Nat → Int64} {word hand day len : Int32} {ω : Wo} (hV : INV L c r nl nk x) (e1 : p7_lump a L c g r nl nk x word hand day len v1 ω) : ∃ a' L' c1 g' r', ω = (a', L', c1, g', r') ∧ a' 0 = a 0 ∧ a' 300 = a 300 ∧ zLv L' nl nk ∧ RM r' ∧ ∀ k, 300 ≤ k → c1 k = c k := by
  have h40 := CI_nk40 hV.2.2.2.1
  rcases e1 with ⟨h, rfl, rfl⟩ | ⟨h, h2, rfl, rfl⟩ | ⟨h, h2, h3, rfl, rfl⟩ | ⟨h, h2, h3, rfl, a', ha, rfl⟩
  · exact ⟨_, _, _, _, _, rfl, rfl, rfl, hV.1, hV.2.2.1, fun _ _ => rfl⟩
  · exact ⟨_, _, _, _, _, rfl, rfl, rfl, hV.1, hV.2.2.1, fun _ _ => rfl⟩
  · exact ⟨_, _, _, _, _, rfl, rfl, rfl, hV.1, hV.2.2.1, fun _ _ => rfl⟩
  · refine ⟨_, _, _, _, _, rfl, ha 0 (by omega), ha 300 (by omega), fun k hk => List.mem_append_left _ (hV.1 k hk), ?_, fun k hk => ?_⟩
    · have hM := hV.2.2.1
      unfold RM at hM ⊢
      rw [up2_row _ _ _ (by omega), up1_k _ _ (by omega)]; exact hM
    · simp (disch := omega) only [up2_row, up1_k]
theorem opB_lump {a : Nat → Nat} {g : Nat → Nat → Int64} {word hand day len : Int32} {ω : Wo} (hV : INV L c r nl nk x) (e1 : p7_lump a L c g r nl nk x word hand day len v1 ω) (e2 : p8_lump ω.2.2.1 c nl nk x word hand day len v2 c2) : v1 = v2 ∧ ∃ nk', INV ω.2.1 c2 ω.2.2.2.2 nl nk' x := by
  have h40 := CI_nk40 hV.2.2.2.1
  rcases e1 with ⟨h, rfl, rfl⟩ | ⟨h, h2, rfl, rfl⟩ | ⟨h, h2, h3, rfl, rfl⟩ | ⟨h, h2, h3, rfl, a', ha, rfl⟩ <;> rcases e2 with ⟨q, rfl, rfl⟩ | ⟨q, q2, rfl, rfl⟩ | ⟨q, q2, q3, rfl, rfl⟩ | ⟨q, q2, q3, rfl, rfl⟩
  · exact ⟨rfl, nk, hV⟩
  · exact absurd q h
  · exact absurd q h
  · exact absurd q h
  · exact absurd h q
  · exact ⟨rfl, nk, hV⟩
  · exact absurd q2 h2
  · exact absurd q2 h2
  · exact absurd h q
  · exact absurd h2 q2
  · exact ⟨rfl, nk, hV⟩
  · exfalso; omega
  · exact absurd h q
  · exact absurd h2 q2
  · exfalso; omega
  · have t1 := tn_int h.1.1
    have t2 := tn_int h.2.1.1
    have t3 := tn_int (show 0 ≤ day.toInt by omega)
    have t4 := tn_int (show 0 ≤ len.toInt by omega)
    have hI := hV.2.2.2.1
    have s0 := (CI_set hI).1.2.2
    have hm : tn len * nn c 5 0 ≤ 200 * 200 := Nat.mul_le_mul (by omega) s0
    refine ⟨rfl, nk + 1, ?_⟩
    generalize hB : tn len * nn c 5 0 = B at hm
    have hd : (B - 2 * nn c 5 1) / nn c 5 2 ≤ B - 2 * nn c 5 1 := Nat.div_le_self _ _
    dsimp only
    generalize (B - 2 * nn c 5 1) / nn c 5 2 = S at hd
    generalize hE : B - S * nn c 5 2 = E
    have hE2 : E ≤ B := by omega
    refine INV_lump hV (w0 := tn word) (d0 := tn hand) (t0 := tn day) (st := S) (sc := E) h3 (by omega) (by omega) (by omega) (by omega) (by omega) (fun k j a b e => ?_) ?_ ?_ ?_ ?_ ?_ ?_ ?_ ?_ ?_ (fun k j a b e => ?_) (fun i hi => ?_) ?_ ?_ ?_
    · simp (disch := omega) only [up2_ne, up1_k]
    · simp (disch := omega) only [up2_ne, up1_k, up2_self]; exact tn_eq (by omega)
    · simp (disch := omega) only [up2_ne, up1_k, up2_self]; exact tn_eq (by omega)
    · simp (disch := omega) only [up2_ne, up1_k, up2_self]; exact tn_eq (by omega)
    · simp (disch := omega) only [up2_ne, up1_k, up2_self]
    · simp (disch := omega) only [up2_ne, up1_k, up2_self]
    · simp (disch := omega) only [up2_ne, up1_k, up2_self]
    · simp (disch := omega) only [up2_ne, up1_k, up2_self]
    · simp (disch := omega) only [up2_ne, up1_k, up2_self]
    · simp (disch := omega) only [up2_ne, up1_k, up2_self]
    · simp (disch := omega) only [up2_ne, up1_k]
    · rcases (show i = 0 ∨ i = 1 ∨ i = 2 ∨ i = 3 ∨ i = 4 ∨ i = 5 by omega) with rfl | rfl | rfl | rfl | rfl | rfl <;> simp (disch := omega) only [up2_ne, up1_k, up2_self, Nat.add_zero]
    · simp (disch := omega) only [up2_ne, up1_k, up2_self]
    · simp (disch := omega) only [up2_ne, up1_k, up2_self]
    · simp (disch := omega) only [up2_self]
theorem opA_stock {a : Nat → Nat} {g : Nat → Nat → Int64} {fr to b what : Int32} {ω : Wo} (e1 : p7_stock a L c g r nl nk x fr to b what v1 ω) : ∃ c1 g', ω = (a, L, c1, g', r) ∧ (∀ k, k ≠ 10 → c1 k = c k) ∧ v1 = stockC c fr to b what := by
  obtain ⟨c1, g', rfl, h1, h2⟩ := e1
  exact ⟨c1, g', rfl, h1, h2⟩
theorem opB_stock (hV : INV L c r nl nk x) (h : ∀ k, k ≠ 10 → c1 k = c k) : INV L c1 r nl nk x := INV_r4 (c1 := c1) hV (fun k _ b => h k b) ⟨fun _ _ => rfl, lks_rf c1⟩
theorem opA_set {a : Nat → Nat} {g : Nat → Nat → Int64} {what n : Int32} {ω : Wo} (e1 : p7_set a L c g r nl nk x what n v1 ω) : ∃ c1, ω = (a, L, c1, g, r) ∧ ∀ k, 300 ≤ k → c1 k = c k := by
  obtain ⟨c1, rfl, ⟨h, rfl, rfl⟩ | ⟨h, rfl, rfl⟩⟩ := e1
  · exact ⟨_, rfl, up_hi (by omega)⟩
  · exact ⟨_, rfl, fun _ _ => rfl⟩
theorem leV_i : ∀ j, j < 4 → (leV j).toInt = (([10, 0, 1, 0] : List Int).getD j 0) ∧ (moV j).toInt = (([200, 1000, 1000, 100] : List Int).getD j 0) := by decide
theorem opB_set {a : Nat → Nat} {g : Nat → Nat → Int64} {what n : Int32} {ω : Wo} (hV : INV L c r nl nk x) (e1 : p7_set a L c g r nl nk x what n v1 ω) (e2 : p8_set ω.2.2.1 c nl nk x what n v2 c2) : v1 = v2 ∧ INV L c2 r nl nk x := by
  obtain ⟨c1, rfl, ⟨h, rfl, rfl⟩ | ⟨h, rfl, rfl⟩⟩ := e1 <;> rcases e2 with ⟨q, rfl, rfl⟩ | ⟨q, rfl, rfl⟩
  · refine ⟨rfl, ?_⟩
    have t1 := tn_int h.1.1
    have h16 := CI_nl16 hV.2.2.2.1
    have h2 := h.2
    refine INV_pair hV (Or.inr (Or.inr (Or.inr (Or.inr (Or.inr (Or.inl ⟨rfl, by omega, rfl, rfl⟩)))))) (Or.inl (by omega)) (fun a b => absurd a (by omega)) (fun lo hi hb => ?_)
    rw [(leV_i (tn what) (by omega)).1, (leV_i (tn what) (by omega)).2] at h2
    rcases (show tn what = 0 ∨ tn what = 1 ∨ tn what = 2 ∨ tn what = 3 by omega) with e | e | e | e <;> rw [e] at h2 hb
    · have z := bnd_50 h16 hb
      have h3 : (10 : Int) ≤ n.toInt ∧ n.toInt ≤ 200 := h2
      have t2 := tn_int (show 0 ≤ n.toInt by omega)
      exact ⟨tn n, tn_eq (by omega), by omega, by omega⟩
    · have z := bnd_51 h16 hb
      have h3 : (0 : Int) ≤ n.toInt ∧ n.toInt ≤ 1000 := h2
      have t2 := tn_int (show 0 ≤ n.toInt by omega)
      exact ⟨tn n, tn_eq (by omega), by omega, by omega⟩
    · have z := bnd_52 h16 hb
      have h3 : (1 : Int) ≤ n.toInt ∧ n.toInt ≤ 1000 := h2
      have t2 := tn_int (show 0 ≤ n.toInt by omega)
      exact ⟨tn n, tn_eq (by omega), by omega, by omega⟩
    · have z := bnd_53 h16 hb
      have h3 : (0 : Int) ≤ n.toInt ∧ n.toInt ≤ 100 := h2
      have t2 := tn_int (show 0 ≤ n.toInt by omega)
      exact ⟨tn n, tn_eq (by omega), by omega, by omega⟩
  · exact absurd h q
  · exact absurd q h
  · exact ⟨rfl, hV⟩
end OPS
