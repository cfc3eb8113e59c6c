theorem L_add {x y : Int64} {X Y : Int} (hx : x.toInt = X) (hy : y.toInt = Y) (h1 : -9000000000000000000 ≤ X + Y) (h2 : X + Y ≤ 9000000000000000000) : (x + y).toInt = X + Y := by
  rw [Int64.toInt_add, hx, hy]; apply Int.bmod_eq_of_le <;> omega
theorem L_sub {x y : Int64} {X Y : Int} (hx : x.toInt = X) (hy : y.toInt = Y) (h1 : -9000000000000000000 ≤ X - Y) (h2 : X - Y ≤ 9000000000000000000) : (x - y).toInt = X - Y := by
  rw [Int64.toInt_sub, hx, hy]; apply Int.bmod_eq_of_le <;> omega
theorem L_mul {x y : Int64} {X Y : Int} (hx : x.toInt = X) (hy : y.toInt = Y) (h1 : -9000000000000000000 ≤ X * Y) (h2 : X * Y ≤ 9000000000000000000) : (x * y).toInt = X * Y := by
  rw [Int64.toInt_mul, hx, hy]; apply Int.bmod_eq_of_le <;> omega
theorem L_div100 {x : Int64} {X : Int} (hx : x.toInt = X) (h1 : 0 ≤ X) (h2 : X ≤ 9000000000000000000) : (x / 100).toInt = X / 100 := by
  rw [Int64.toInt_div, hx, show (100 : Int64).toInt = 100 from by decide, Int.tdiv_eq_ediv_of_nonneg h1]
  apply Int.bmod_eq_of_le <;> omega
theorem tI_subI {x y : Int32} (hx : 0 ≤ x.toInt) (hy : 0 ≤ y.toInt) : (x - y).toInt = x.toInt - y.toInt := by
  have a1 := Int32.toInt_lt x
  have b1 := Int32.toInt_lt y
  rw [Int32.toInt_sub]; apply Int.bmod_eq_of_le <;> omega
theorem tL_sub {x y : Int32} (hx : 0 ≤ x.toInt) (hy : 0 ≤ y.toInt) : x.toInt64 - y.toInt64 = (x - y).toInt64 := by
  have a1 := Int32.toInt_lt x
  have b1 := Int32.toInt_lt y
  apply Int64.toInt_inj.mp
  rw [L_sub (tL (X := x.toInt) rfl) (tL (X := y.toInt) rfl) (by omega) (by omega), Int32.toInt_toInt64, tI_subI hx hy]
theorem L_asub (z : Int64) {x y : Int32} (hx : 0 ≤ x.toInt) (hy : 0 ≤ y.toInt) : z + x.toInt64 - y.toInt64 = z + (x - y).toInt64 := by
  rw [← tL_sub hx hy, Int64.sub_eq_add_neg, Int64.sub_eq_add_neg, Int64.add_assoc]
theorem mxp {x y : Int32} (hx : x = -1 ∨ 0 ≤ x.toInt) (hy : y = -1 ∨ 0 ≤ y.toInt) : mx x y = -1 ∨ 0 ≤ (mx x y).toInt := by
  by_cases e : x < y
  · rw [show mx x y = y from if_pos e]; exact hy
  · rw [show mx x y = x from if_neg e]; exact hx
theorem mnp {x y : Int32} (hx : x = -1 ∨ 0 ≤ x.toInt) (hy : y = -1 ∨ 0 ≤ y.toInt) : mn x y = -1 ∨ 0 ≤ (mn x y).toInt := by
  by_cases e : y < x
  · rw [show mn x y = y from if_pos e]; exact hy
  · rw [show mn x y = x from if_neg e]; exact hx
theorem mx0 (y : Int32) : 0 ≤ (mx 0 y).toInt := by
  by_cases e : (0 : Int32) < y
  · rw [show mx 0 y = y from if_pos e]; rw [tI_lt, show (0 : Int32).toInt = 0 from by decide] at e; omega
  · rw [show mx 0 y = 0 from if_neg e]; decide
theorem foreC_nn (d : Nat → Nat → Int32) (wk : Nat) : 0 ≤ (foreC d wk).toInt := by
  have h0 := wantC_or d 0 wk
  have h1 := wantC_or d 1 wk
  have h2 := wantC_or d 2 wk
  show 0 ≤ (fore3 (wantC d 0 wk) (wantC d 1 wk) (wantC d 2 wk)).toInt
  unfold fore3
  split
  · exact mx0 _
  · rename_i hne
    exact (mxp (mnp h0 h1) (mnp (mxp h0 h1) h2)).resolve_left hne
theorem leC_le {d : Nat → Nat → Int32} {mo : Int32} {f j : Nat} (h : wbC d mo f (j + 1) ≤ leC d mo f j) : leC d mo f (j + 1) = leC d mo f j := by
  rw [leC]
  by_cases e : wbC d mo f (j + 1) < leC d mo f j
  · rw [if_pos e]
  · rw [if_neg e]; exact Int64.le_antisymm h (Int64.not_lt.mp e)
theorem leC_gt {d : Nat → Nat → Int32} {mo : Int32} {f j : Nat} (h : ¬ wbC d mo f (j + 1) ≤ leC d mo f j) : leC d mo f (j + 1) = wbC d mo f (j + 1) := by
  rw [leC]; exact if_neg (fun e => h (Int64.le_of_lt e))
theorem stC_bd {d : Nat → Nat → Int32} {nl nk : Nat} (hI : CI d nl nk) {f : Nat} {b : Int32} (hb : 0 ≤ b.toInt ∧ b.toInt ≤ 100000) : ∀ j, f + j ≤ 52 → 0 ≤ (stC d f b j).1.toInt ∧ 0 ≤ (stC d f b j).2.2.1.toInt ∧ (stC d f b j).1.toInt + (stC d f b j).2.2.1.toInt ≤ 100000 + 10000 * (j : Int)
  | 0, _ => by
    show 0 ≤ b.toInt64.toInt ∧ 0 ≤ (0 : Int64).toInt ∧ b.toInt64.toInt + (0 : Int64).toInt ≤ _
    rw [Int32.toInt_toInt64, show (0 : Int64).toInt = 0 from by decide]; omega
  | j + 1, hj => by
    have ih := stC_bd hI (f := f) hb j (by omega)
    have hm := (CI_wk hI (show f + j < 52 by omega)).2
    have hm2 := hm.2
    have hmI : (d 9 (f + j)).toInt = (nn d 9 (f + j) : Int) := by rw [hm.1]; exact nI_toInt (by omega)
    have hfo := foreC_nn d (f + j)
    have hfo2 := Int32.toInt_lt (foreC d (f + j))
    have ht := (CI_set hI).2.2.2
    have ht2 := ht.2
    have htI : (d 5 3).toInt = (nn d 5 3 : Int) := by rw [ht.1]; exact nI_toInt (by omega)
    have hv : ((stC d f b j).1 + (d 9 (f + j) - foreC d (f + j)).toInt64).toInt = (stC d f b j).1.toInt + ((nn d 9 (f + j) : Int) - (foreC d (f + j)).toInt) := L_add rfl (by rw [Int32.toInt_toInt64, tI_subI (by omega) hfo, hmI]) (by omega) (by omega)
    generalize hV : (stC d f b j).1 + (d 9 (f + j) - foreC d (f + j)).toInt64 = V at hv
    have hl : ∃ l0 : Int64, (if V < 0 then 0 else V) = l0 ∧ 0 ≤ l0.toInt ∧ l0.toInt + (stC d f b j).2.2.1.toInt ≤ 100000 + 10000 * ((j + 1 : Nat) : Int) := by
      by_cases e : V < 0
      · exact ⟨0, if_pos e, by decide, by rw [show (0 : Int64).toInt = 0 from by decide]; omega⟩
      · refine ⟨V, if_neg e, ?_, by omega⟩
        rw [Int64.lt_iff_toInt_lt, show (0 : Int64).toInt = 0 from by decide] at e; omega
    obtain ⟨l0, hl0, h1, h2⟩ := hl
    have hp : l0.toInt * (nn d 5 3 : Int) ≤ l0.toInt * 100 := Int.mul_le_mul_of_nonneg_left (by omega) h1
    have hp0 : 0 ≤ l0.toInt * (nn d 5 3 : Int) := Int.mul_nonneg h1 (by omega)
    have hq : (l0 * (d 5 3).toInt64 / 100).toInt = l0.toInt * (nn d 5 3 : Int) / 100 := L_div100 (L_mul rfl (by rw [Int32.toInt_toInt64, htI]) (by omega) (by omega)) hp0 (by omega)
    simp only [stC]
    rw [hV, hl0]
    by_cases hd : nn d 8 (f + j) = 0
    · rw [if_pos hd]; exact ⟨h1, ih.2.1, h2⟩
    · rw [if_neg hd]
      show 0 ≤ (l0 - l0 * (d 5 3).toInt64 / 100).toInt ∧ 0 ≤ ((stC d f b j).2.2.1 + l0 * (d 5 3).toInt64 / 100).toInt ∧ (l0 - l0 * (d 5 3).toInt64 / 100).toInt + ((stC d f b j).2.2.1 + l0 * (d 5 3).toInt64 / 100).toInt ≤ _
      rw [L_sub rfl hq (by omega) (by omega), L_add rfl hq (by omega) (by omega)]
      omega
theorem amI_id {v : Int64} (h : v.toInt ≤ 2147483647) : amI v = v.toInt32 := by
  unfold amI; rw [if_neg (by rw [Int64.lt_iff_toInt_lt, show (2147483647 : Int64).toInt = 2147483647 from by decide]; omega)]
theorem amI_le {v : Int64} (h : v ≤ 2147483647) : amI v = v.toInt32 := by
  unfold amI; rw [if_neg (Int64.not_lt.mpr h)]
theorem amI_gt {v : Int64} (h : ¬ v ≤ 2147483647) : amI v = 2147483647 := by
  unfold amI; rw [if_pos (Int64.not_le.mp h)]; decide

set_option maxHeartbeats 4000000 in
set_option maxRecDepth 100000 in
theorem c_X8_ahead (l : Launch) (D : va_G) (cy : Nat → ClassId) (a : Nat → Nat) (L : List Nat) (c : Nat → Nat → Int32) (g : Nat → Nat → Int64) (r : Nat → Nat → Option Nat) (nl nk : Nat) (hL : zLv L nl nk) (hM : RM r) (d : Nat → Nat → Int32) (hI : CI d nl nk) (x : Nat → Nat → Nat) (hX : XL d nl x) (hK : LK d c nl nk x) (fr to mo : Int32) : zPI l yX8_ahead wsX8_ahead { frames := 2, cells := 0, slots := 0, locals := 45 } D cy a L c g r [Value.ref (a 300), Value.int fr, Value.int to, Value.int mo] (fun v => v = if 0 ≤ fr.toInt ∧ fr.toInt ≤ to.toInt ∧ to.toInt ≤ 51 ∧ 0 ≤ mo.toInt ∧ mo.toInt ≤ 10000 then amI (leC d mo (tn fr) (tn to + 1 - tn fr)) else -2) := by
  refine z_enter cX8_ahead 9 (some .int) (by decide) (Nat.le_of_ble_eq_true rfl) ?_
  intro p e s m below meth co C hin
  have C : zC p s m _ meth co D cy _ cX8_ahead 9 (some .int) wsX8_ahead RX8 := C
  refine z_iload_n C dX8_ahead_0 rfl (q := 2) rfl ?_
  refine z_pI C (z_runS C (As := [Value.int to]) (rest := []) (c_X8_isWeek l D cy a L c g r to) (va_cwS 1 C.2.2.2.2.2.1 gX8_ahead_X8_isWeek rfl rfl rfl (by decide +kernel) ⟨Nat.le_of_ble_eq_true rfl, Nat.le_of_ble_eq_true rfl⟩) rfl rfl (Nat.le_of_ble_eq_true rfl) dX8_ahead_1 ⟨Nat.zero_le _, Nat.zero_le _⟩) (fun v1 e1 => ?_)
  rcases e1 with ⟨rfl, e1⟩ | ⟨rfl, e1⟩
  · refine z_if_eq C dX8_ahead_4 (tgt := 30) (by decide) (fun h4 => absurd h4 (by decide)) (fun h4 => ?_)
    refine z_iload_n C dX8_ahead_7 rfl (q := 1) rfl ?_
    refine z_i2l C dX8_ahead_8 (v := fr.toInt64) rfl ?_
    refine z_lconst C dX8_ahead_9 (v := 0) (by decide) ?_
    refine z_iload_n C dX8_ahead_10 rfl (q := 2) rfl ?_
    refine z_i2l C dX8_ahead_11 (v := to.toInt64) rfl ?_
    refine z_pI C (z_runS C (As := [Value.long (fr.toInt64), Value.long 0, Value.long (to.toInt64)]) (rest := []) (c_X8_in l D cy a L c g r fr.toInt64 0 to.toInt64 (V := fr.toInt) (LO := 0) (HI := to.toInt) (tL rfl) (show (0 : Int64).toInt = 0 from by decide) (tL rfl)) (va_cwS 3 C.2.2.2.2.2.1 gX8_ahead_X8_in rfl rfl rfl (by decide +kernel) ⟨Nat.le_of_ble_eq_true rfl, Nat.le_of_ble_eq_true rfl⟩) rfl rfl (Nat.le_of_ble_eq_true rfl) dX8_ahead_12 ⟨Nat.zero_le _, Nat.zero_le _⟩) (fun v12 e12 => ?_)
    rcases e12 with ⟨rfl, e12⟩ | ⟨rfl, e12⟩
    · obtain ⟨f, hf, rfl⟩ := arg_nI (v := fr) (b := 51) ⟨e12.1, by omega⟩
      have tf := nI_toInt (n := f) (by omega)
      have uf := tn_nI (j := f) (by omega)
      obtain ⟨t, ht, rfl⟩ := arg_nI (v := to) (b := 51) ⟨by omega, by omega⟩
      have tt := nI_toInt (n := t) (by omega)
      have ut := tn_nI (j := t) (by omega)
      refine z_if_eq C dX8_ahead_15 (tgt := 30) (by decide) (fun h15 => absurd h15 (by decide)) (fun h15 => ?_)
      refine z_iload_n C dX8_ahead_18 rfl (q := 3) rfl ?_
      refine z_i2l C dX8_ahead_19 (v := mo.toInt64) rfl ?_
      refine z_lconst C dX8_ahead_20 (v := 0) (by decide) ?_
      refine z_ldc2 C dX8_ahead_21 (v := 10000) (by decide +kernel) ?_
      refine z_pI C (z_runS C (As := [Value.long (mo.toInt64), Value.long 0, Value.long 10000]) (rest := []) (c_X8_in l D cy a L c g r mo.toInt64 0 10000 (V := mo.toInt) (LO := 0) (HI := 10000) (tL rfl) (show (0 : Int64).toInt = 0 from by decide) (show (10000 : Int64).toInt = 10000 from by decide)) (va_cwS 3 C.2.2.2.2.2.1 gX8_ahead_X8_in rfl rfl rfl (by decide +kernel) ⟨Nat.le_of_ble_eq_true rfl, Nat.le_of_ble_eq_true rfl⟩) rfl rfl (Nat.le_of_ble_eq_true rfl) dX8_ahead_24 ⟨Nat.zero_le _, Nat.zero_le _⟩) (fun v24 e24 => ?_)
      rcases e24 with ⟨rfl, e24⟩ | ⟨rfl, e24⟩
      · refine z_if_ne C dX8_ahead_27 (tgt := 33) (by decide) (fun h27 => ?_) (fun h27 => absurd h27 (by decide))
        refine z_lconst C dX8_ahead_33 (v := 0) (by decide) ?_
        refine z_lstore C dX8_ahead_34 (by decide) (lv' := [(4, Value.long 0), (0, Value.ref (a 300)), (1, Value.int (nI f)), (2, Value.int (nI t)), (3, Value.int mo)]) rfl ?_
        refine z_lconst C dX8_ahead_36 (v := 0) (by decide) ?_
        refine z_lstore C dX8_ahead_37 (by decide) (lv' := [(6, Value.long 0), (4, Value.long 0), (0, Value.ref (a 300)), (1, Value.int (nI f)), (2, Value.int (nI t)), (3, Value.int mo)]) rfl ?_
        refine z_iload_n C dX8_ahead_39 rfl (q := 3) rfl ?_
        refine z_steq (st' := [Value.int (nI (f + 0))]) rfl ?_
        refine z_istore C dX8_ahead_40 (by decide) (lv' := [(8, Value.int (nI (f + 0))), (6, Value.long 0), (4, Value.long 0), (0, Value.ref (a 300)), (1, Value.int (nI f)), (2, Value.int (nI t)), (3, Value.int mo)]) rfl ?_
        refine z_lveq (lv' := [(8, Value.int (nI (f + 0))), (6, Value.long (wbC d mo f 0)), (4, Value.long (leC d mo f 0)), (0, Value.ref (a 300)), (1, Value.int (nI f)), (2, Value.int (nI t)), (3, Value.int mo)]) rfl ?_
        refine z_for 0 ((t + 1 - f)) (Nat.zero_le _) (fun j => [(8, Value.int (nI (f + j))), (6, Value.long (wbC d mo f j)), (4, Value.long (leC d mo f j)), (0, Value.ref (a 300)), (1, Value.int (nI f)), (2, Value.int (nI t)), (3, Value.int mo)]) (fun j => c) (fun j => g) ?_ ?_
        · refine z_iload C dX8_ahead_42 (q := 0) rfl ?_
          refine z_iload_n C dX8_ahead_44 rfl (q := 5) rfl ?_
          refine z_icmp_gt C dX8_ahead_45 (tgt := 86) (by decide) (fun h45 => ?_) (fun h45 => absurd (nI_lt (by omega) (by omega)) h45)
          refine z_lload C dX8_ahead_86 (q := 2) rfl ?_
          refine z_ldc2 C dX8_ahead_88 (v := 2147483647) (by decide +kernel) ?_
          refine z_lcmp C dX8_ahead_91 ?_
          refine z_if_le C dX8_ahead_92 (tgt := 100) (by decide) (fun h92 => ?_) (fun h92 => ?_)
          · have q92 := lgc_le.mp h92
            refine z_lload C dX8_ahead_100 (q := 2) rfl ?_
            refine z_l2i C dX8_ahead_102 (v := (leC d mo f ((t + 1 - f))).toInt32) rfl ?_
            exact z_iret C rfl (Nat.le_refl _) (Nat.le_refl _) dX8_ahead_103 ⟨rfl, by rw [if_pos (by omega), uf, ut]; exact (amI_le q92).symm⟩
          · have q92 := fun z => h92 (lgc_le.mpr z)
            refine z_ldc C dX8_ahead_95 (v := 2147483647) (by decide +kernel) ?_
            refine z_goto C dX8_ahead_97 (tgt := 103) (by decide) ?_
            exact z_iret C rfl (Nat.le_refl _) (Nat.le_refl _) dX8_ahead_103 ⟨rfl, by rw [if_pos (by omega), uf, ut]; exact (amI_gt q92).symm⟩
        · intro j hlj hj ihj
          refine z_iload C dX8_ahead_42 (q := 0) rfl ?_
          refine z_iload_n C dX8_ahead_44 rfl (q := 5) rfl ?_
          refine z_icmp_gt C dX8_ahead_45 (tgt := 86) (by decide) (fun h45 => absurd h45 (nI_nlt (by omega) (by omega))) (fun h45 => ?_)
          refine z_lload C dX8_ahead_48 (q := 1) rfl ?_
          refine z_aload_n C dX8_ahead_50 rfl (q := 3) rfl ?_
          refine z_iload C dX8_ahead_51 (q := 0) rfl ?_
          refine z_pI C (z_runV C (As := [Value.int (nI (f + j))]) (rest := [Value.long (wbC d mo f j)]) (c_X8_foretoldOf l D cy a L c g r nl nk hL hM d hI x hX hK (f + j) (by omega)) (cwV 1 C.2.2.2.2.2.1 gX8_ahead_X8_foretoldOf rfl rfl rfl (by decide +kernel) ⟨Nat.le_of_ble_eq_true rfl, Nat.le_of_ble_eq_true rfl⟩) (hL _ (by unfold live; omega)) (zF_k8 (by rfl)) rfl rfl rfl rfl (Nat.le_of_ble_eq_true rfl) dX8_ahead_53 ⟨Nat.zero_le _, Nat.zero_le _⟩) (fun v53 e53 => ?_)
          rw [fore_eq] at e53
          subst e53
          refine z_i2l C dX8_ahead_56 (v := (foreC d (f + j)).toInt64) rfl ?_
          refine z_iload_n C dX8_ahead_57 rfl (q := 6) rfl ?_
          refine z_i2l C dX8_ahead_58 (v := mo.toInt64) rfl ?_
          refine z_lsub C dX8_ahead_59 (v := (foreC d (f + j) - mo).toInt64) (tL_sub (foreC_nn d _) e24.1) ?_
          refine z_ladd C dX8_ahead_60 (v := wbC d mo f (j + 1)) rfl ?_
          refine z_lstore C dX8_ahead_61 (by decide) (lv' := [(6, Value.long (wbC d mo f (j + 1))), (8, Value.int (nI (f + j))), (4, Value.long (leC d mo f j)), (0, Value.ref (a 300)), (1, Value.int (nI f)), (2, Value.int (nI t)), (3, Value.int mo)]) rfl ?_
          refine z_lload C dX8_ahead_63 (q := 0) rfl ?_
          refine z_lload C dX8_ahead_65 (q := 2) rfl ?_
          refine z_lcmp C dX8_ahead_67 ?_
          refine z_if_le C dX8_ahead_68 (tgt := 76) (by decide) (fun h68 => ?_) (fun h68 => ?_)
          · have q68 := lgc_le.mp h68
            refine z_lload C dX8_ahead_76 (q := 2) rfl ?_
            refine z_lstore C dX8_ahead_78 (by decide) (lv' := [(4, Value.long (leC d mo f j)), (6, Value.long (wbC d mo f (j + 1))), (8, Value.int (nI (f + j))), (0, Value.ref (a 300)), (1, Value.int (nI f)), (2, Value.int (nI t)), (3, Value.int mo)]) rfl ?_
            refine z_iinc C dX8_ahead_80 (q := 2) rfl (v := nI (f + (j + 1))) (nI_1 _) (by decide) (lv' := [(8, Value.int (nI (f + (j + 1)))), (4, Value.long (leC d mo f j)), (6, Value.long (wbC d mo f (j + 1))), (0, Value.ref (a 300)), (1, Value.int (nI f)), (2, Value.int (nI t)), (3, Value.int mo)]) rfl ?_
            refine z_goto C dX8_ahead_83 (tgt := 42) (by decide) ?_
            refine z_sub [0, 2, 1, 3, 4, 5, 6] (lv' := [(8, Value.int (nI (f + (j + 1)))), (6, Value.long (wbC d mo f (j + 1))), (4, Value.long (leC d mo f j)), (0, Value.ref (a 300)), (1, Value.int (nI f)), (2, Value.int (nI t)), (3, Value.int mo)]) rfl ?_
            rw [leC_le q68] at ihj
            exact ihj
          · have q68 := fun z => h68 (lgc_le.mpr z)
            refine z_lload C dX8_ahead_71 (q := 0) rfl ?_
            refine z_goto C dX8_ahead_73 (tgt := 78) (by decide) ?_
            refine z_lstore C dX8_ahead_78 (by decide) (lv' := [(4, Value.long (wbC d mo f (j + 1))), (6, Value.long (wbC d mo f (j + 1))), (8, Value.int (nI (f + j))), (0, Value.ref (a 300)), (1, Value.int (nI f)), (2, Value.int (nI t)), (3, Value.int mo)]) rfl ?_
            refine z_iinc C dX8_ahead_80 (q := 2) rfl (v := nI (f + (j + 1))) (nI_1 _) (by decide) (lv' := [(8, Value.int (nI (f + (j + 1)))), (4, Value.long (wbC d mo f (j + 1))), (6, Value.long (wbC d mo f (j + 1))), (0, Value.ref (a 300)), (1, Value.int (nI f)), (2, Value.int (nI t)), (3, Value.int mo)]) rfl ?_
            refine z_goto C dX8_ahead_83 (tgt := 42) (by decide) ?_
            refine z_sub [0, 2, 1, 3, 4, 5, 6] (lv' := [(8, Value.int (nI (f + (j + 1)))), (6, Value.long (wbC d mo f (j + 1))), (4, Value.long (wbC d mo f (j + 1))), (0, Value.ref (a 300)), (1, Value.int (nI f)), (2, Value.int (nI t)), (3, Value.int mo)]) rfl ?_
            rw [leC_gt q68] at ihj
            exact ihj
      · refine z_if_ne C dX8_ahead_27 (tgt := 33) (by decide) (fun h27 => absurd h27 (by decide)) (fun h27 => ?_)
        refine z_bipush C dX8_ahead_30 (v := -2) (by decide) ?_
        exact z_iret C rfl (Nat.le_refl _) (Nat.le_refl _) dX8_ahead_32 ⟨rfl, by rw [if_neg (by omega)]⟩
    · refine z_if_eq C dX8_ahead_15 (tgt := 30) (by decide) (fun h15 => ?_) (fun h15 => absurd h15 (by decide))
      refine z_bipush C dX8_ahead_30 (v := -2) (by decide) ?_
      exact z_iret C rfl (Nat.le_refl _) (Nat.le_refl _) dX8_ahead_32 ⟨rfl, by rw [if_neg (by omega)]⟩
  · refine z_if_eq C dX8_ahead_4 (tgt := 30) (by decide) (fun h4 => ?_) (fun h4 => absurd h4 (by decide))
    refine z_bipush C dX8_ahead_30 (v := -2) (by decide) ?_
    exact z_iret C rfl (Nat.le_refl _) (Nat.le_refl _) dX8_ahead_32 ⟨rfl, by rw [if_neg (by omega)]⟩

set_option maxHeartbeats 4000000 in
set_option maxRecDepth 100000 in
theorem c_X8_stock (l : Launch) (D : va_G) (cy : Nat → ClassId) (a : Nat → Nat) (L : List Nat) (c : Nat → Nat → Int32) (g : Nat → Nat → Int64) (r : Nat → Nat → Option Nat) (nl nk : Nat) (hL : zLv L nl nk) (hM : RM r) (d : Nat → Nat → Int32) (hI : CI d nl nk) (x : Nat → Nat → Nat) (hX : XL d nl x) (hK : LK d c nl nk x) (fr to b what : Int32) : zPI l yX8_stock wsX8_stock { frames := 2, cells := 0, slots := 0, locals := 45 } D cy a L c g r [Value.ref (a 300), Value.int fr, Value.int to, Value.int b, Value.int what] (fun v => v = stockC d fr to b what) := by
  refine z_enter cX8_stock 15 (some .int) (by decide) (Nat.le_of_ble_eq_true rfl) ?_
  intro p e s m below meth co C hin
  have C : zC p s m _ meth co D cy _ cX8_stock 15 (some .int) wsX8_stock RX8 := C
  have i8 : ∀ w ∈ wsX80, w ∈ wsX8_stock := by decide +kernel
  refine z_iload_n C dX8_stock_0 rfl (q := 2) rfl ?_
  refine z_pI C (z_runS C (As := [Value.int to]) (rest := []) (c_X8_isWeek l D cy a L c g r to) (va_cwS 1 C.2.2.2.2.2.1 gX8_stock_X8_isWeek rfl rfl rfl (by decide +kernel) ⟨Nat.le_of_ble_eq_true rfl, Nat.le_of_ble_eq_true rfl⟩) rfl rfl (Nat.le_of_ble_eq_true rfl) dX8_stock_1 ⟨Nat.zero_le _, Nat.zero_le _⟩) (fun v1 e1 => ?_)
  rcases e1 with ⟨rfl, e1⟩ | ⟨rfl, e1⟩
  · refine z_if_eq C dX8_stock_4 (tgt := 43) (by decide) (fun h4 => absurd h4 (by decide)) (fun h4 => ?_)
    refine z_iload_n C dX8_stock_7 rfl (q := 1) rfl ?_
    refine z_i2l C dX8_stock_8 (v := fr.toInt64) rfl ?_
    refine z_lconst C dX8_stock_9 (v := 0) (by decide) ?_
    refine z_iload_n C dX8_stock_10 rfl (q := 2) rfl ?_
    refine z_i2l C dX8_stock_11 (v := to.toInt64) rfl ?_
    refine z_pI C (z_runS C (As := [Value.long (fr.toInt64), Value.long 0, Value.long (to.toInt64)]) (rest := []) (c_X8_in l D cy a L c g r fr.toInt64 0 to.toInt64 (V := fr.toInt) (LO := 0) (HI := to.toInt) (tL rfl) (show (0 : Int64).toInt = 0 from by decide) (tL rfl)) (va_cwS 3 C.2.2.2.2.2.1 gX8_stock_X8_in rfl rfl rfl (by decide +kernel) ⟨Nat.le_of_ble_eq_true rfl, Nat.le_of_ble_eq_true rfl⟩) rfl rfl (Nat.le_of_ble_eq_true rfl) dX8_stock_12 ⟨Nat.zero_le _, Nat.zero_le _⟩) (fun v12 e12 => ?_)
    rcases e12 with ⟨rfl, e12⟩ | ⟨rfl, e12⟩
    · obtain ⟨f, hf, rfl⟩ := arg_nI (v := fr) (b := 51) ⟨e12.1, by omega⟩
      have tf := nI_toInt (n := f) (by omega)
      have uf := tn_nI (j := f) (by omega)
      obtain ⟨t, ht, rfl⟩ := arg_nI (v := to) (b := 51) ⟨by omega, by omega⟩
      have tt := nI_toInt (n := t) (by omega)
      have ut := tn_nI (j := t) (by omega)
      refine z_if_eq C dX8_stock_15 (tgt := 43) (by decide) (fun h15 => absurd h15 (by decide)) (fun h15 => ?_)
      refine z_iload_n C dX8_stock_18 rfl (q := 3) rfl ?_
      refine z_i2l C dX8_stock_19 (v := b.toInt64) rfl ?_
      refine z_lconst C dX8_stock_20 (v := 0) (by decide) ?_
      refine z_ldc2 C dX8_stock_21 (v := 100000) (by decide +kernel) ?_
      refine z_pI C (z_runS C (As := [Value.long (b.toInt64), Value.long 0, Value.long 100000]) (rest := []) (c_X8_in l D cy a L c g r b.toInt64 0 100000 (V := b.toInt) (LO := 0) (HI := 100000) (tL rfl) (show (0 : Int64).toInt = 0 from by decide) (show (100000 : Int64).toInt = 100000 from by decide)) (va_cwS 3 C.2.2.2.2.2.1 gX8_stock_X8_in rfl rfl rfl (by decide +kernel) ⟨Nat.le_of_ble_eq_true rfl, Nat.le_of_ble_eq_true rfl⟩) rfl rfl (Nat.le_of_ble_eq_true rfl) dX8_stock_24 ⟨Nat.zero_le _, Nat.zero_le _⟩) (fun v24 e24 => ?_)
      rcases e24 with ⟨rfl, e24⟩ | ⟨rfl, e24⟩
      · refine z_if_eq C dX8_stock_27 (tgt := 43) (by decide) (fun h27 => absurd h27 (by decide)) (fun h27 => ?_)
        refine z_iload C dX8_stock_30 (q := 4) rfl ?_
        refine z_i2l C dX8_stock_32 (v := what.toInt64) rfl ?_
        refine z_lconst C dX8_stock_33 (v := 0) (by decide) ?_
        refine z_ldc2 C dX8_stock_34 (v := 3) (by decide +kernel) ?_
        refine z_pI C (z_runS C (As := [Value.long (what.toInt64), Value.long 0, Value.long 3]) (rest := []) (c_X8_in l D cy a L c g r what.toInt64 0 3 (V := what.toInt) (LO := 0) (HI := 3) (tL rfl) (show (0 : Int64).toInt = 0 from by decide) (show (3 : Int64).toInt = 3 from by decide)) (va_cwS 3 C.2.2.2.2.2.1 gX8_stock_X8_in rfl rfl rfl (by decide +kernel) ⟨Nat.le_of_ble_eq_true rfl, Nat.le_of_ble_eq_true rfl⟩) rfl rfl (Nat.le_of_ble_eq_true rfl) dX8_stock_37 ⟨Nat.zero_le _, Nat.zero_le _⟩) (fun v37 e37 => ?_)
        rcases e37 with ⟨rfl, e37⟩ | ⟨rfl, e37⟩
        · refine z_if_ne C dX8_stock_40 (tgt := 46) (by decide) (fun h40 => ?_) (fun h40 => absurd h40 (by decide))
          refine z_iload_n C dX8_stock_46 rfl (q := 3) rfl ?_
          refine z_i2l C dX8_stock_47 (v := b.toInt64) rfl ?_
          refine z_lstore C dX8_stock_48 (by decide) (lv' := [(5, Value.long (b.toInt64)), (0, Value.ref (a 300)), (1, Value.int (nI f)), (2, Value.int (nI t)), (3, Value.int b), (4, Value.int what)]) rfl ?_
          refine z_lconst C dX8_stock_50 (v := 0) (by decide) ?_
          refine z_lstore C dX8_stock_51 (by decide) (lv' := [(7, Value.long 0), (5, Value.long (b.toInt64)), (0, Value.ref (a 300)), (1, Value.int (nI f)), (2, Value.int (nI t)), (3, Value.int b), (4, Value.int what)]) rfl ?_
          refine z_lconst C dX8_stock_53 (v := 0) (by decide) ?_
          refine z_lstore C dX8_stock_54 (by decide) (lv' := [(9, Value.long 0), (7, Value.long 0), (5, Value.long (b.toInt64)), (0, Value.ref (a 300)), (1, Value.int (nI f)), (2, Value.int (nI t)), (3, Value.int b), (4, Value.int what)]) rfl ?_
          refine z_iconst C dX8_stock_56 (v := -1) (by decide) ?_
          refine z_istore C dX8_stock_57 (by decide) (lv' := [(11, Value.int (-1)), (9, Value.long 0), (7, Value.long 0), (5, Value.long (b.toInt64)), (0, Value.ref (a 300)), (1, Value.int (nI f)), (2, Value.int (nI t)), (3, Value.int b), (4, Value.int what)]) rfl ?_
          refine z_iload_n C dX8_stock_59 rfl (q := 5) rfl ?_
          refine z_steq (st' := [Value.int (nI (f + 0))]) rfl ?_
          refine z_istore C dX8_stock_60 (by decide) (lv' := [(12, Value.int (nI (f + 0))), (11, Value.int (-1)), (9, Value.long 0), (7, Value.long 0), (5, Value.long (b.toInt64)), (0, Value.ref (a 300)), (1, Value.int (nI f)), (2, Value.int (nI t)), (3, Value.int b), (4, Value.int what)]) rfl ?_
          refine z_lveq (lv' := [(12, Value.int (nI (f + 0))), (11, Value.int ((stC d f b 0).2.2.2)), (9, Value.long ((stC d f b 0).2.2.1)), (7, Value.long ((stC d f b 0).2.1)), (5, Value.long ((stC d f b 0).1)), (0, Value.ref (a 300)), (1, Value.int (nI f)), (2, Value.int (nI t)), (3, Value.int b), (4, Value.int what)]) rfl ?_
          refine z_for 0 ((t + 1 - f)) (Nat.zero_le _) (fun j => [(12, Value.int (nI (f + j))), (11, Value.int ((stC d f b j).2.2.2)), (9, Value.long ((stC d f b j).2.2.1)), (7, Value.long ((stC d f b j).2.1)), (5, Value.long ((stC d f b j).1)), (0, Value.ref (a 300)), (1, Value.int (nI f)), (2, Value.int (nI t)), (3, Value.int b), (4, Value.int what)]) (fun j => c) (fun j => g) ?_ ?_
          · have hbd := stC_bd hI (f := f) (b := b) ⟨e24.1, e24.2⟩ (t + 1 - f) (by omega)
            refine z_iload C dX8_stock_62 (q := 0) rfl ?_
            refine z_iload_n C dX8_stock_64 rfl (q := 7) rfl ?_
            refine z_icmp_gt C dX8_stock_65 (tgt := 175) (by decide) (fun h65 => ?_) (fun h65 => absurd (nI_lt (by omega) (by omega)) h65)
            refine z_iload C dX8_stock_175 (q := 9) rfl ?_
            by_cases hs0 : what.toInt = 0
            · refine z_tableIn C dX8_stock_177 (off := 27) (tgt := 204) (by omega) (by omega) (by rw [hs0]; rfl) (by decide) ?_
              refine z_lload C dX8_stock_204 (q := 4) rfl ?_
              refine z_l2i C dX8_stock_206 (v := ((stC d f b ((t + 1 - f))).1).toInt32) rfl ?_
              exact z_iret C rfl (Nat.le_refl _) (Nat.le_refl _) dX8_stock_207 ⟨rfl, by rw [stockC, if_pos (by omega), uf, ut, if_pos (by omega)]; exact (amI_id (by omega)).symm⟩
            · skip
              by_cases hs1 : what.toInt = 1
              · refine z_tableIn C dX8_stock_177 (off := 31) (tgt := 208) (by omega) (by omega) (by rw [hs1]; rfl) (by decide) ?_
                refine z_lload C dX8_stock_208 (q := 3) rfl ?_
                refine z_ldc2 C dX8_stock_210 (v := 2147483647) (by decide +kernel) ?_
                refine z_lcmp C dX8_stock_213 ?_
                refine z_if_le C dX8_stock_214 (tgt := 222) (by decide) (fun h214 => ?_) (fun h214 => ?_)
                · have q214 := lgc_le.mp h214
                  refine z_lload C dX8_stock_222 (q := 3) rfl ?_
                  refine z_l2i C dX8_stock_224 (v := ((stC d f b ((t + 1 - f))).2.1).toInt32) rfl ?_
                  exact z_iret C rfl (Nat.le_refl _) (Nat.le_refl _) dX8_stock_225 ⟨rfl, by rw [stockC, if_pos (by omega), uf, ut, if_neg (by omega), if_pos (by omega)]; exact (amI_le q214).symm⟩
                · have q214 := fun z => h214 (lgc_le.mpr z)
                  refine z_ldc C dX8_stock_217 (v := 2147483647) (by decide +kernel) ?_
                  refine z_goto C dX8_stock_219 (tgt := 225) (by decide) ?_
                  exact z_iret C rfl (Nat.le_refl _) (Nat.le_refl _) dX8_stock_225 ⟨rfl, by rw [stockC, if_pos (by omega), uf, ut, if_neg (by omega), if_pos (by omega)]; exact (amI_gt q214).symm⟩
              · skip
                by_cases hs2 : what.toInt = 2
                · refine z_tableIn C dX8_stock_177 (off := 49) (tgt := 226) (by omega) (by omega) (by rw [hs2]; rfl) (by decide) ?_
                  refine z_lload C dX8_stock_226 (q := 2) rfl ?_
                  refine z_l2i C dX8_stock_228 (v := ((stC d f b ((t + 1 - f))).2.2.1).toInt32) rfl ?_
                  exact z_iret C rfl (Nat.le_refl _) (Nat.le_refl _) dX8_stock_229 ⟨rfl, by rw [stockC, if_pos (by omega), uf, ut, if_neg (by omega), if_neg (by omega), if_pos (by omega)]; exact (amI_id (by omega)).symm⟩
                · skip
                  refine z_tableOut C dX8_stock_177 (by omega) (tgt := 230) (by decide) ?_
                  refine z_iload C dX8_stock_230 (q := 1) rfl ?_
                  exact z_iret C rfl (Nat.le_refl _) (Nat.le_refl _) dX8_stock_232 ⟨rfl, by rw [stockC, if_pos (by omega), uf, ut, if_neg (by omega), if_neg (by omega), if_neg (by omega)]⟩
          · intro j hlj hj ihj
            have hm := (CI_wk hI (show f + j < 52 by omega)).2
            have hm2 := hm.2
            have hmI : 0 ≤ (d 9 (f + j)).toInt := by rw [hm.1, nI_toInt (by omega)]; omega
            have hdw := (CI_wk hI (show f + j < 52 by omega)).1
            have hd2 := hdw.2
            refine z_iload C dX8_stock_62 (q := 0) rfl ?_
            refine z_iload_n C dX8_stock_64 rfl (q := 7) rfl ?_
            refine z_icmp_gt C dX8_stock_65 (tgt := 175) (by decide) (fun h65 => absurd h65 (nI_nlt (by omega) (by omega))) (fun h65 => ?_)
            refine z_lload C dX8_stock_68 (q := 4) rfl ?_
            refine z_aload_n C dX8_stock_70 rfl (q := 5) rfl ?_
            refine zg_X8_makes C (k := 300) (hL _ (by unfold live; omega)) (by rfl) i8 (by decide +kernel) (k' := 323) (RM_makes hM) dX8_stock_71 ?_
            refine z_iload C dX8_stock_74 (q := 0) rfl ?_
            refine z_iaload C (k := 323) (hL _ (by unfold live; omega)) (by rfl) (j := (f + j)) rfl (by rw [show ln 323 = 52 from rfl]; omega) (by rw [show ln 323 = 52 from rfl]; decide) (v := d 9 (f + j)) (LK_wk hK (by omega)).2 dX8_stock_76 ?_
            refine z_i2l C dX8_stock_77 (v := (d 9 (f + j)).toInt64) rfl ?_
            refine z_ladd C dX8_stock_78 (v := ((stC d f b j).1) + ((d 9 (f + j)).toInt64)) rfl ?_
            refine z_lstore C dX8_stock_79 (by decide) (lv' := [(5, Value.long (((stC d f b j).1) + ((d 9 (f + j)).toInt64))), (12, Value.int (nI (f + j))), (11, Value.int ((stC d f b j).2.2.2)), (9, Value.long ((stC d f b j).2.2.1)), (7, Value.long ((stC d f b j).2.1)), (0, Value.ref (a 300)), (1, Value.int (nI f)), (2, Value.int (nI t)), (3, Value.int b), (4, Value.int what)]) rfl ?_
            refine z_lload C dX8_stock_81 (q := 0) rfl ?_
            refine z_aload_n C dX8_stock_83 rfl (q := 5) rfl ?_
            refine z_iload C dX8_stock_84 (q := 1) rfl ?_
            refine z_pI C (z_runV C (As := [Value.int (nI (f + j))]) (rest := [Value.long (((stC d f b j).1) + ((d 9 (f + j)).toInt64))]) (c_X8_foretoldOf l D cy a L c g r nl nk hL hM d hI x hX hK (f + j) (by omega)) (cwV 1 C.2.2.2.2.2.1 gX8_stock_X8_foretoldOf rfl rfl rfl (by decide +kernel) ⟨Nat.le_of_ble_eq_true rfl, Nat.le_of_ble_eq_true rfl⟩) (hL _ (by unfold live; omega)) (zF_k8 (by rfl)) rfl rfl rfl rfl (Nat.le_of_ble_eq_true rfl) dX8_stock_86 ⟨Nat.zero_le _, Nat.zero_le _⟩) (fun v86 e86 => ?_)
            rw [fore_eq] at e86
            subst e86
            refine z_i2l C dX8_stock_89 (v := (foreC d (f + j)).toInt64) rfl ?_
            refine z_lsub C dX8_stock_90 (v := (stC d f b j).1 + (d 9 (f + j) - foreC d (f + j)).toInt64) (L_asub _ hmI (foreC_nn d _)) ?_
            refine z_lstore C dX8_stock_91 (by decide) (lv' := [(5, Value.long ((stC d f b j).1 + (d 9 (f + j) - foreC d (f + j)).toInt64)), (12, Value.int (nI (f + j))), (11, Value.int ((stC d f b j).2.2.2)), (9, Value.long ((stC d f b j).2.2.1)), (7, Value.long ((stC d f b j).2.1)), (0, Value.ref (a 300)), (1, Value.int (nI f)), (2, Value.int (nI t)), (3, Value.int b), (4, Value.int what)]) rfl ?_
            refine z_lload C dX8_stock_93 (q := 0) rfl ?_
            refine z_lconst C dX8_stock_95 (v := 0) (by decide) ?_
            refine z_lcmp C dX8_stock_96 ?_
            refine z_if_ge C dX8_stock_97 (tgt := 125) (by decide) (fun h97 => ?_) (fun h97 => ?_)
            · have q97 := lgc_ge.mp h97
              refine z_aload_n C dX8_stock_125 rfl (q := 5) rfl ?_
              refine zg_X8_isDamp C (k := 300) (hL _ (by unfold live; omega)) (by rfl) i8 (by decide +kernel) (k' := 322) (RM_isDamp hM) dX8_stock_126 ?_
              refine z_iload C dX8_stock_129 (q := 1) rfl ?_
              refine z_baload C (k := 322) (hL _ (by unfold live; omega)) (by rfl) (j := (f + j)) rfl (by rw [show ln 322 = 52 from rfl]; omega) (by rw [show ln 322 = 52 from rfl]; decide) (v := nI (nn d 8 (f + j))) ((LK_wk hK (by omega)).1.trans hdw.1) dX8_stock_131 ?_
              refine z_if_eq C dX8_stock_132 (tgt := 152) (by decide) (fun h132 => ?_) (fun h132 => ?_)
              · have q132 := iv_eq (y := 0) (nI_toInt (by omega)) (show (0 : Int32).toInt = 0 from by decide) h132
                refine z_lconst C dX8_stock_152 (v := 0) (by decide) ?_
                refine z_lstore C dX8_stock_153 (by decide) (lv' := [(13, Value.long 0), (5, Value.long ((stC d f b j).1 + (d 9 (f + j) - foreC d (f + j)).toInt64)), (12, Value.int (nI (f + j))), (11, Value.int ((stC d f b j).2.2.2)), (9, Value.long ((stC d f b j).2.2.1)), (7, Value.long ((stC d f b j).2.1)), (0, Value.ref (a 300)), (1, Value.int (nI f)), (2, Value.int (nI t)), (3, Value.int b), (4, Value.int what)]) rfl ?_
                refine z_lload C dX8_stock_155 (q := 1) rfl ?_
                refine z_lload C dX8_stock_157 (q := 0) rfl ?_
                refine z_lsub C dX8_stock_159 (v := (stC d f b j).1 + (d 9 (f + j) - foreC d (f + j)).toInt64) (Int64.sub_zero _) ?_
                refine z_lstore C dX8_stock_160 (by decide) (lv' := [(5, Value.long ((stC d f b j).1 + (d 9 (f + j) - foreC d (f + j)).toInt64)), (13, Value.long 0), (12, Value.int (nI (f + j))), (11, Value.int ((stC d f b j).2.2.2)), (9, Value.long ((stC d f b j).2.2.1)), (7, Value.long ((stC d f b j).2.1)), (0, Value.ref (a 300)), (1, Value.int (nI f)), (2, Value.int (nI t)), (3, Value.int b), (4, Value.int what)]) rfl ?_
                refine z_lload C dX8_stock_162 (q := 4) rfl ?_
                refine z_lload C dX8_stock_164 (q := 1) rfl ?_
                refine z_ladd C dX8_stock_166 (v := (stC d f b j).2.2.1) (Int64.add_zero _) ?_
                refine z_lstore C dX8_stock_167 (by decide) (lv' := [(9, Value.long ((stC d f b j).2.2.1)), (5, Value.long ((stC d f b j).1 + (d 9 (f + j) - foreC d (f + j)).toInt64)), (13, Value.long 0), (12, Value.int (nI (f + j))), (11, Value.int ((stC d f b j).2.2.2)), (7, Value.long ((stC d f b j).2.1)), (0, Value.ref (a 300)), (1, Value.int (nI f)), (2, Value.int (nI t)), (3, Value.int b), (4, Value.int what)]) rfl ?_
                refine z_iinc C dX8_stock_169 (q := 3) rfl (v := nI (f + (j + 1))) (nI_1 _) (by decide) (lv' := [(12, Value.int (nI (f + (j + 1)))), (9, Value.long ((stC d f b j).2.2.1)), (5, Value.long ((stC d f b j).1 + (d 9 (f + j) - foreC d (f + j)).toInt64)), (13, Value.long 0), (11, Value.int ((stC d f b j).2.2.2)), (7, Value.long ((stC d f b j).2.1)), (0, Value.ref (a 300)), (1, Value.int (nI f)), (2, Value.int (nI t)), (3, Value.int b), (4, Value.int what)]) rfl ?_
                refine z_goto C dX8_stock_172 (tgt := 62) (by decide) ?_
                refine z_sub [0, 4, 1, 5, 2, 6, 7, 8, 9, 10] (lv' := [(12, Value.int (nI (f + (j + 1)))), (11, Value.int ((stC d f b j).2.2.2)), (9, Value.long ((stC d f b j).2.2.1)), (7, Value.long ((stC d f b j).2.1)), (5, Value.long ((stC d f b j).1 + (d 9 (f + j) - foreC d (f + j)).toInt64)), (0, Value.ref (a 300)), (1, Value.int (nI f)), (2, Value.int (nI t)), (3, Value.int b), (4, Value.int what)]) rfl ?_
                rw [show (stC d f b (j + 1)) = ((stC d f b j).1 + (d 9 (f + j) - foreC d (f + j)).toInt64, (stC d f b j).2.1, (stC d f b j).2.2.1, (stC d f b j).2.2.2) from by have hv0 := Int64.not_lt.mpr q97; simp only [stC]; rw [if_pos (by omega), if_neg hv0, if_neg hv0, if_neg (fun z => hv0 z.1)]] at ihj
                exact ihj
              · have q132 := iv_ne (y := 0) (nI_toInt (by omega)) (show (0 : Int32).toInt = 0 from by decide) h132
                refine z_lload C dX8_stock_135 (q := 0) rfl ?_
                refine z_aload_n C dX8_stock_137 rfl (q := 5) rfl ?_
                refine zg_X8_told C (k := 300) (hL _ (by unfold live; omega)) (by rfl) i8 (by decide +kernel) (k' := 301) (RM_told hM) dX8_stock_138 ?_
                refine z_iconst C dX8_stock_141 (v := 3) (by decide) ?_
                refine z_iaload C (k := 301) (hL _ (by unfold live; omega)) (by rfl) (j := 3) (by decide) (by rw [show ln 301 = 4 from rfl]; omega) (by rw [show ln 301 = 4 from rfl]; decide) (v := d 5 3) (LK_told hK (by decide)) dX8_stock_142 ?_
                refine z_i2l C dX8_stock_143 (v := (d 5 3).toInt64) rfl ?_
                refine z_lmul C dX8_stock_144 (v := ((stC d f b j).1 + (d 9 (f + j) - foreC d (f + j)).toInt64) * ((d 5 3).toInt64)) rfl ?_
                refine z_ldc2 C dX8_stock_145 (v := 100) (by decide +kernel) ?_
                refine z_ldiv C dX8_stock_148 (by decide) (v := (((stC d f b j).1 + (d 9 (f + j) - foreC d (f + j)).toInt64) * ((d 5 3).toInt64)) / 100) rfl ?_
                refine z_goto C dX8_stock_149 (tgt := 153) (by decide) ?_
                refine z_lstore C dX8_stock_153 (by decide) (lv' := [(13, Value.long ((((stC d f b j).1 + (d 9 (f + j) - foreC d (f + j)).toInt64) * ((d 5 3).toInt64)) / 100)), (5, Value.long ((stC d f b j).1 + (d 9 (f + j) - foreC d (f + j)).toInt64)), (12, Value.int (nI (f + j))), (11, Value.int ((stC d f b j).2.2.2)), (9, Value.long ((stC d f b j).2.2.1)), (7, Value.long ((stC d f b j).2.1)), (0, Value.ref (a 300)), (1, Value.int (nI f)), (2, Value.int (nI t)), (3, Value.int b), (4, Value.int what)]) rfl ?_
                refine z_lload C dX8_stock_155 (q := 1) rfl ?_
                refine z_lload C dX8_stock_157 (q := 0) rfl ?_
                refine z_lsub C dX8_stock_159 (v := ((stC d f b j).1 + (d 9 (f + j) - foreC d (f + j)).toInt64) - ((((stC d f b j).1 + (d 9 (f + j) - foreC d (f + j)).toInt64) * ((d 5 3).toInt64)) / 100)) rfl ?_
                refine z_lstore C dX8_stock_160 (by decide) (lv' := [(5, Value.long (((stC d f b j).1 + (d 9 (f + j) - foreC d (f + j)).toInt64) - ((((stC d f b j).1 + (d 9 (f + j) - foreC d (f + j)).toInt64) * ((d 5 3).toInt64)) / 100))), (13, Value.long ((((stC d f b j).1 + (d 9 (f + j) - foreC d (f + j)).toInt64) * ((d 5 3).toInt64)) / 100)), (12, Value.int (nI (f + j))), (11, Value.int ((stC d f b j).2.2.2)), (9, Value.long ((stC d f b j).2.2.1)), (7, Value.long ((stC d f b j).2.1)), (0, Value.ref (a 300)), (1, Value.int (nI f)), (2, Value.int (nI t)), (3, Value.int b), (4, Value.int what)]) rfl ?_
                refine z_lload C dX8_stock_162 (q := 4) rfl ?_
                refine z_lload C dX8_stock_164 (q := 1) rfl ?_
                refine z_ladd C dX8_stock_166 (v := ((stC d f b j).2.2.1) + ((((stC d f b j).1 + (d 9 (f + j) - foreC d (f + j)).toInt64) * ((d 5 3).toInt64)) / 100)) rfl ?_
                refine z_lstore C dX8_stock_167 (by decide) (lv' := [(9, Value.long (((stC d f b j).2.2.1) + ((((stC d f b j).1 + (d 9 (f + j) - foreC d (f + j)).toInt64) * ((d 5 3).toInt64)) / 100))), (5, Value.long (((stC d f b j).1 + (d 9 (f + j) - foreC d (f + j)).toInt64) - ((((stC d f b j).1 + (d 9 (f + j) - foreC d (f + j)).toInt64) * ((d 5 3).toInt64)) / 100))), (13, Value.long ((((stC d f b j).1 + (d 9 (f + j) - foreC d (f + j)).toInt64) * ((d 5 3).toInt64)) / 100)), (12, Value.int (nI (f + j))), (11, Value.int ((stC d f b j).2.2.2)), (7, Value.long ((stC d f b j).2.1)), (0, Value.ref (a 300)), (1, Value.int (nI f)), (2, Value.int (nI t)), (3, Value.int b), (4, Value.int what)]) rfl ?_
                refine z_iinc C dX8_stock_169 (q := 3) rfl (v := nI (f + (j + 1))) (nI_1 _) (by decide) (lv' := [(12, Value.int (nI (f + (j + 1)))), (9, Value.long (((stC d f b j).2.2.1) + ((((stC d f b j).1 + (d 9 (f + j) - foreC d (f + j)).toInt64) * ((d 5 3).toInt64)) / 100))), (5, Value.long (((stC d f b j).1 + (d 9 (f + j) - foreC d (f + j)).toInt64) - ((((stC d f b j).1 + (d 9 (f + j) - foreC d (f + j)).toInt64) * ((d 5 3).toInt64)) / 100))), (13, Value.long ((((stC d f b j).1 + (d 9 (f + j) - foreC d (f + j)).toInt64) * ((d 5 3).toInt64)) / 100)), (11, Value.int ((stC d f b j).2.2.2)), (7, Value.long ((stC d f b j).2.1)), (0, Value.ref (a 300)), (1, Value.int (nI f)), (2, Value.int (nI t)), (3, Value.int b), (4, Value.int what)]) rfl ?_
                refine z_goto C dX8_stock_172 (tgt := 62) (by decide) ?_
                refine z_sub [0, 4, 1, 5, 2, 6, 7, 8, 9, 10] (lv' := [(12, Value.int (nI (f + (j + 1)))), (11, Value.int ((stC d f b j).2.2.2)), (9, Value.long (((stC d f b j).2.2.1) + ((((stC d f b j).1 + (d 9 (f + j) - foreC d (f + j)).toInt64) * ((d 5 3).toInt64)) / 100))), (7, Value.long ((stC d f b j).2.1)), (5, Value.long (((stC d f b j).1 + (d 9 (f + j) - foreC d (f + j)).toInt64) - ((((stC d f b j).1 + (d 9 (f + j) - foreC d (f + j)).toInt64) * ((d 5 3).toInt64)) / 100))), (0, Value.ref (a 300)), (1, Value.int (nI f)), (2, Value.int (nI t)), (3, Value.int b), (4, Value.int what)]) rfl ?_
                rw [show (stC d f b (j + 1)) = (((stC d f b j).1 + (d 9 (f + j) - foreC d (f + j)).toInt64) - ((((stC d f b j).1 + (d 9 (f + j) - foreC d (f + j)).toInt64) * ((d 5 3).toInt64)) / 100), (stC d f b j).2.1, ((stC d f b j).2.2.1) + ((((stC d f b j).1 + (d 9 (f + j) - foreC d (f + j)).toInt64) * ((d 5 3).toInt64)) / 100), (stC d f b j).2.2.2) from by have hv0 := Int64.not_lt.mpr q97; simp only [stC]; rw [if_neg (by omega), if_neg hv0, if_neg hv0, if_neg (fun z => hv0 z.1)]] at ihj
                exact ihj
            · have q97 := fun z => h97 (lgc_ge.mpr z)
              refine z_lload C dX8_stock_100 (q := 4) rfl ?_
              refine z_lload C dX8_stock_102 (q := 0) rfl ?_
              refine z_lsub C dX8_stock_104 (v := ((stC d f b j).2.1) - ((stC d f b j).1 + (d 9 (f + j) - foreC d (f + j)).toInt64)) rfl ?_
              refine z_lstore C dX8_stock_105 (by decide) (lv' := [(7, Value.long (((stC d f b j).2.1) - ((stC d f b j).1 + (d 9 (f + j) - foreC d (f + j)).toInt64))), (5, Value.long ((stC d f b j).1 + (d 9 (f + j) - foreC d (f + j)).toInt64)), (12, Value.int (nI (f + j))), (11, Value.int ((stC d f b j).2.2.2)), (9, Value.long ((stC d f b j).2.2.1)), (0, Value.ref (a 300)), (1, Value.int (nI f)), (2, Value.int (nI t)), (3, Value.int b), (4, Value.int what)]) rfl ?_
              refine z_iload C dX8_stock_107 (q := 3) rfl ?_
              refine z_iconst C dX8_stock_109 (v := -1) (by decide) ?_
              refine z_icmp_ne C dX8_stock_110 (tgt := 118) (by decide) (fun h110 => ?_) (fun h110 => ?_)
              · refine z_iload C dX8_stock_118 (q := 3) rfl ?_
                refine z_istore C dX8_stock_120 (by decide) (lv' := [(11, Value.int ((stC d f b j).2.2.2)), (7, Value.long (((stC d f b j).2.1) - ((stC d f b j).1 + (d 9 (f + j) - foreC d (f + j)).toInt64))), (5, Value.long ((stC d f b j).1 + (d 9 (f + j) - foreC d (f + j)).toInt64)), (12, Value.int (nI (f + j))), (9, Value.long ((stC d f b j).2.2.1)), (0, Value.ref (a 300)), (1, Value.int (nI f)), (2, Value.int (nI t)), (3, Value.int b), (4, Value.int what)]) rfl ?_
                refine z_lconst C dX8_stock_122 (v := 0) (by decide) ?_
                refine z_lstore C dX8_stock_123 (by decide) (lv' := [(5, Value.long 0), (11, Value.int ((stC d f b j).2.2.2)), (7, Value.long (((stC d f b j).2.1) - ((stC d f b j).1 + (d 9 (f + j) - foreC d (f + j)).toInt64))), (12, Value.int (nI (f + j))), (9, Value.long ((stC d f b j).2.2.1)), (0, Value.ref (a 300)), (1, Value.int (nI f)), (2, Value.int (nI t)), (3, Value.int b), (4, Value.int what)]) rfl ?_
                refine z_aload_n C dX8_stock_125 rfl (q := 5) rfl ?_
                refine zg_X8_isDamp C (k := 300) (hL _ (by unfold live; omega)) (by rfl) i8 (by decide +kernel) (k' := 322) (RM_isDamp hM) dX8_stock_126 ?_
                refine z_iload C dX8_stock_129 (q := 3) rfl ?_
                refine z_baload C (k := 322) (hL _ (by unfold live; omega)) (by rfl) (j := (f + j)) rfl (by rw [show ln 322 = 52 from rfl]; omega) (by rw [show ln 322 = 52 from rfl]; decide) (v := nI (nn d 8 (f + j))) ((LK_wk hK (by omega)).1.trans hdw.1) dX8_stock_131 ?_
                refine z_if_eq C dX8_stock_132 (tgt := 152) (by decide) (fun h132 => ?_) (fun h132 => ?_)
                · have q132 := iv_eq (y := 0) (nI_toInt (by omega)) (show (0 : Int32).toInt = 0 from by decide) h132
                  refine z_lconst C dX8_stock_152 (v := 0) (by decide) ?_
                  refine z_lstore C dX8_stock_153 (by decide) (lv' := [(13, Value.long 0), (5, Value.long 0), (11, Value.int ((stC d f b j).2.2.2)), (7, Value.long (((stC d f b j).2.1) - ((stC d f b j).1 + (d 9 (f + j) - foreC d (f + j)).toInt64))), (12, Value.int (nI (f + j))), (9, Value.long ((stC d f b j).2.2.1)), (0, Value.ref (a 300)), (1, Value.int (nI f)), (2, Value.int (nI t)), (3, Value.int b), (4, Value.int what)]) rfl ?_
                  refine z_lload C dX8_stock_155 (q := 1) rfl ?_
                  refine z_lload C dX8_stock_157 (q := 0) rfl ?_
                  refine z_lsub C dX8_stock_159 (v := 0) (Int64.sub_zero _) ?_
                  refine z_lstore C dX8_stock_160 (by decide) (lv' := [(5, Value.long 0), (13, Value.long 0), (11, Value.int ((stC d f b j).2.2.2)), (7, Value.long (((stC d f b j).2.1) - ((stC d f b j).1 + (d 9 (f + j) - foreC d (f + j)).toInt64))), (12, Value.int (nI (f + j))), (9, Value.long ((stC d f b j).2.2.1)), (0, Value.ref (a 300)), (1, Value.int (nI f)), (2, Value.int (nI t)), (3, Value.int b), (4, Value.int what)]) rfl ?_
                  refine z_lload C dX8_stock_162 (q := 5) rfl ?_
                  refine z_lload C dX8_stock_164 (q := 1) rfl ?_
                  refine z_ladd C dX8_stock_166 (v := (stC d f b j).2.2.1) (Int64.add_zero _) ?_
                  refine z_lstore C dX8_stock_167 (by decide) (lv' := [(9, Value.long ((stC d f b j).2.2.1)), (5, Value.long 0), (13, Value.long 0), (11, Value.int ((stC d f b j).2.2.2)), (7, Value.long (((stC d f b j).2.1) - ((stC d f b j).1 + (d 9 (f + j) - foreC d (f + j)).toInt64))), (12, Value.int (nI (f + j))), (0, Value.ref (a 300)), (1, Value.int (nI f)), (2, Value.int (nI t)), (3, Value.int b), (4, Value.int what)]) rfl ?_
                  refine z_iinc C dX8_stock_169 (q := 5) rfl (v := nI (f + (j + 1))) (nI_1 _) (by decide) (lv' := [(12, Value.int (nI (f + (j + 1)))), (9, Value.long ((stC d f b j).2.2.1)), (5, Value.long 0), (13, Value.long 0), (11, Value.int ((stC d f b j).2.2.2)), (7, Value.long (((stC d f b j).2.1) - ((stC d f b j).1 + (d 9 (f + j) - foreC d (f + j)).toInt64))), (0, Value.ref (a 300)), (1, Value.int (nI f)), (2, Value.int (nI t)), (3, Value.int b), (4, Value.int what)]) rfl ?_
                  refine z_goto C dX8_stock_172 (tgt := 62) (by decide) ?_
                  refine z_sub [0, 4, 1, 5, 2, 6, 7, 8, 9, 10] (lv' := [(12, Value.int (nI (f + (j + 1)))), (11, Value.int ((stC d f b j).2.2.2)), (9, Value.long ((stC d f b j).2.2.1)), (7, Value.long (((stC d f b j).2.1) - ((stC d f b j).1 + (d 9 (f + j) - foreC d (f + j)).toInt64))), (5, Value.long 0), (0, Value.ref (a 300)), (1, Value.int (nI f)), (2, Value.int (nI t)), (3, Value.int b), (4, Value.int what)]) rfl ?_
                  rw [show (stC d f b (j + 1)) = (0, ((stC d f b j).2.1) - ((stC d f b j).1 + (d 9 (f + j) - foreC d (f + j)).toInt64), (stC d f b j).2.2.1, (stC d f b j).2.2.2) from by have hv0 := Int64.not_le.mp q97; simp only [stC]; rw [if_pos (by omega), if_pos hv0, if_pos hv0, if_neg (fun z => h110 z.2)]] at ihj
                  exact ihj
                · have q132 := iv_ne (y := 0) (nI_toInt (by omega)) (show (0 : Int32).toInt = 0 from by decide) h132
                  refine z_lload C dX8_stock_135 (q := 0) rfl ?_
                  refine z_aload_n C dX8_stock_137 rfl (q := 5) rfl ?_
                  refine zg_X8_told C (k := 300) (hL _ (by unfold live; omega)) (by rfl) i8 (by decide +kernel) (k' := 301) (RM_told hM) dX8_stock_138 ?_
                  refine z_iconst C dX8_stock_141 (v := 3) (by decide) ?_
                  refine z_iaload C (k := 301) (hL _ (by unfold live; omega)) (by rfl) (j := 3) (by decide) (by rw [show ln 301 = 4 from rfl]; omega) (by rw [show ln 301 = 4 from rfl]; decide) (v := d 5 3) (LK_told hK (by decide)) dX8_stock_142 ?_
                  refine z_i2l C dX8_stock_143 (v := (d 5 3).toInt64) rfl ?_
                  refine z_lmul C dX8_stock_144 (v := 0 * ((d 5 3).toInt64)) rfl ?_
                  refine z_ldc2 C dX8_stock_145 (v := 100) (by decide +kernel) ?_
                  refine z_ldiv C dX8_stock_148 (by decide) (v := (0 * ((d 5 3).toInt64)) / 100) rfl ?_
                  refine z_goto C dX8_stock_149 (tgt := 153) (by decide) ?_
                  refine z_lstore C dX8_stock_153 (by decide) (lv' := [(13, Value.long ((0 * ((d 5 3).toInt64)) / 100)), (5, Value.long 0), (11, Value.int ((stC d f b j).2.2.2)), (7, Value.long (((stC d f b j).2.1) - ((stC d f b j).1 + (d 9 (f + j) - foreC d (f + j)).toInt64))), (12, Value.int (nI (f + j))), (9, Value.long ((stC d f b j).2.2.1)), (0, Value.ref (a 300)), (1, Value.int (nI f)), (2, Value.int (nI t)), (3, Value.int b), (4, Value.int what)]) rfl ?_
                  refine z_lload C dX8_stock_155 (q := 1) rfl ?_
                  refine z_lload C dX8_stock_157 (q := 0) rfl ?_
                  refine z_lsub C dX8_stock_159 (v := 0 - ((0 * ((d 5 3).toInt64)) / 100)) rfl ?_
                  refine z_lstore C dX8_stock_160 (by decide) (lv' := [(5, Value.long (0 - ((0 * ((d 5 3).toInt64)) / 100))), (13, Value.long ((0 * ((d 5 3).toInt64)) / 100)), (11, Value.int ((stC d f b j).2.2.2)), (7, Value.long (((stC d f b j).2.1) - ((stC d f b j).1 + (d 9 (f + j) - foreC d (f + j)).toInt64))), (12, Value.int (nI (f + j))), (9, Value.long ((stC d f b j).2.2.1)), (0, Value.ref (a 300)), (1, Value.int (nI f)), (2, Value.int (nI t)), (3, Value.int b), (4, Value.int what)]) rfl ?_
                  refine z_lload C dX8_stock_162 (q := 5) rfl ?_
                  refine z_lload C dX8_stock_164 (q := 1) rfl ?_
                  refine z_ladd C dX8_stock_166 (v := ((stC d f b j).2.2.1) + ((0 * ((d 5 3).toInt64)) / 100)) rfl ?_
                  refine z_lstore C dX8_stock_167 (by decide) (lv' := [(9, Value.long (((stC d f b j).2.2.1) + ((0 * ((d 5 3).toInt64)) / 100))), (5, Value.long (0 - ((0 * ((d 5 3).toInt64)) / 100))), (13, Value.long ((0 * ((d 5 3).toInt64)) / 100)), (11, Value.int ((stC d f b j).2.2.2)), (7, Value.long (((stC d f b j).2.1) - ((stC d f b j).1 + (d 9 (f + j) - foreC d (f + j)).toInt64))), (12, Value.int (nI (f + j))), (0, Value.ref (a 300)), (1, Value.int (nI f)), (2, Value.int (nI t)), (3, Value.int b), (4, Value.int what)]) rfl ?_
                  refine z_iinc C dX8_stock_169 (q := 5) rfl (v := nI (f + (j + 1))) (nI_1 _) (by decide) (lv' := [(12, Value.int (nI (f + (j + 1)))), (9, Value.long (((stC d f b j).2.2.1) + ((0 * ((d 5 3).toInt64)) / 100))), (5, Value.long (0 - ((0 * ((d 5 3).toInt64)) / 100))), (13, Value.long ((0 * ((d 5 3).toInt64)) / 100)), (11, Value.int ((stC d f b j).2.2.2)), (7, Value.long (((stC d f b j).2.1) - ((stC d f b j).1 + (d 9 (f + j) - foreC d (f + j)).toInt64))), (0, Value.ref (a 300)), (1, Value.int (nI f)), (2, Value.int (nI t)), (3, Value.int b), (4, Value.int what)]) rfl ?_
                  refine z_goto C dX8_stock_172 (tgt := 62) (by decide) ?_
                  refine z_sub [0, 4, 1, 5, 2, 6, 7, 8, 9, 10] (lv' := [(12, Value.int (nI (f + (j + 1)))), (11, Value.int ((stC d f b j).2.2.2)), (9, Value.long (((stC d f b j).2.2.1) + ((0 * ((d 5 3).toInt64)) / 100))), (7, Value.long (((stC d f b j).2.1) - ((stC d f b j).1 + (d 9 (f + j) - foreC d (f + j)).toInt64))), (5, Value.long (0 - ((0 * ((d 5 3).toInt64)) / 100))), (0, Value.ref (a 300)), (1, Value.int (nI f)), (2, Value.int (nI t)), (3, Value.int b), (4, Value.int what)]) rfl ?_
                  rw [show (stC d f b (j + 1)) = (0 - ((0 * ((d 5 3).toInt64)) / 100), ((stC d f b j).2.1) - ((stC d f b j).1 + (d 9 (f + j) - foreC d (f + j)).toInt64), ((stC d f b j).2.2.1) + ((0 * ((d 5 3).toInt64)) / 100), (stC d f b j).2.2.2) from by have hv0 := Int64.not_le.mp q97; simp only [stC]; rw [if_neg (by omega), if_pos hv0, if_pos hv0, if_neg (fun z => h110 z.2)]] at ihj
                  exact ihj
              · refine z_iload C dX8_stock_113 (q := 2) rfl ?_
                refine z_goto C dX8_stock_115 (tgt := 120) (by decide) ?_
                refine z_istore C dX8_stock_120 (by decide) (lv' := [(11, Value.int (nI (f + j))), (7, Value.long (((stC d f b j).2.1) - ((stC d f b j).1 + (d 9 (f + j) - foreC d (f + j)).toInt64))), (5, Value.long ((stC d f b j).1 + (d 9 (f + j) - foreC d (f + j)).toInt64)), (12, Value.int (nI (f + j))), (9, Value.long ((stC d f b j).2.2.1)), (0, Value.ref (a 300)), (1, Value.int (nI f)), (2, Value.int (nI t)), (3, Value.int b), (4, Value.int what)]) rfl ?_
                refine z_lconst C dX8_stock_122 (v := 0) (by decide) ?_
                refine z_lstore C dX8_stock_123 (by decide) (lv' := [(5, Value.long 0), (11, Value.int (nI (f + j))), (7, Value.long (((stC d f b j).2.1) - ((stC d f b j).1 + (d 9 (f + j) - foreC d (f + j)).toInt64))), (12, Value.int (nI (f + j))), (9, Value.long ((stC d f b j).2.2.1)), (0, Value.ref (a 300)), (1, Value.int (nI f)), (2, Value.int (nI t)), (3, Value.int b), (4, Value.int what)]) rfl ?_
                refine z_aload_n C dX8_stock_125 rfl (q := 5) rfl ?_
                refine zg_X8_isDamp C (k := 300) (hL _ (by unfold live; omega)) (by rfl) i8 (by decide +kernel) (k' := 322) (RM_isDamp hM) dX8_stock_126 ?_
                refine z_iload C dX8_stock_129 (q := 3) rfl ?_
                refine z_baload C (k := 322) (hL _ (by unfold live; omega)) (by rfl) (j := (f + j)) rfl (by rw [show ln 322 = 52 from rfl]; omega) (by rw [show ln 322 = 52 from rfl]; decide) (v := nI (nn d 8 (f + j))) ((LK_wk hK (by omega)).1.trans hdw.1) dX8_stock_131 ?_
                refine z_if_eq C dX8_stock_132 (tgt := 152) (by decide) (fun h132 => ?_) (fun h132 => ?_)
                · have q132 := iv_eq (y := 0) (nI_toInt (by omega)) (show (0 : Int32).toInt = 0 from by decide) h132
                  refine z_lconst C dX8_stock_152 (v := 0) (by decide) ?_
                  refine z_lstore C dX8_stock_153 (by decide) (lv' := [(13, Value.long 0), (5, Value.long 0), (11, Value.int (nI (f + j))), (7, Value.long (((stC d f b j).2.1) - ((stC d f b j).1 + (d 9 (f + j) - foreC d (f + j)).toInt64))), (12, Value.int (nI (f + j))), (9, Value.long ((stC d f b j).2.2.1)), (0, Value.ref (a 300)), (1, Value.int (nI f)), (2, Value.int (nI t)), (3, Value.int b), (4, Value.int what)]) rfl ?_
                  refine z_lload C dX8_stock_155 (q := 1) rfl ?_
                  refine z_lload C dX8_stock_157 (q := 0) rfl ?_
                  refine z_lsub C dX8_stock_159 (v := 0) (Int64.sub_zero _) ?_
                  refine z_lstore C dX8_stock_160 (by decide) (lv' := [(5, Value.long 0), (13, Value.long 0), (11, Value.int (nI (f + j))), (7, Value.long (((stC d f b j).2.1) - ((stC d f b j).1 + (d 9 (f + j) - foreC d (f + j)).toInt64))), (12, Value.int (nI (f + j))), (9, Value.long ((stC d f b j).2.2.1)), (0, Value.ref (a 300)), (1, Value.int (nI f)), (2, Value.int (nI t)), (3, Value.int b), (4, Value.int what)]) rfl ?_
                  refine z_lload C dX8_stock_162 (q := 5) rfl ?_
                  refine z_lload C dX8_stock_164 (q := 1) rfl ?_
                  refine z_ladd C dX8_stock_166 (v := (stC d f b j).2.2.1) (Int64.add_zero _) ?_
                  refine z_lstore C dX8_stock_167 (by decide) (lv' := [(9, Value.long ((stC d f b j).2.2.1)), (5, Value.long 0), (13, Value.long 0), (11, Value.int (nI (f + j))), (7, Value.long (((stC d f b j).2.1) - ((stC d f b j).1 + (d 9 (f + j) - foreC d (f + j)).toInt64))), (12, Value.int (nI (f + j))), (0, Value.ref (a 300)), (1, Value.int (nI f)), (2, Value.int (nI t)), (3, Value.int b), (4, Value.int what)]) rfl ?_
                  refine z_iinc C dX8_stock_169 (q := 5) rfl (v := nI (f + (j + 1))) (nI_1 _) (by decide) (lv' := [(12, Value.int (nI (f + (j + 1)))), (9, Value.long ((stC d f b j).2.2.1)), (5, Value.long 0), (13, Value.long 0), (11, Value.int (nI (f + j))), (7, Value.long (((stC d f b j).2.1) - ((stC d f b j).1 + (d 9 (f + j) - foreC d (f + j)).toInt64))), (0, Value.ref (a 300)), (1, Value.int (nI f)), (2, Value.int (nI t)), (3, Value.int b), (4, Value.int what)]) rfl ?_
                  refine z_goto C dX8_stock_172 (tgt := 62) (by decide) ?_
                  refine z_sub [0, 4, 1, 5, 2, 6, 7, 8, 9, 10] (lv' := [(12, Value.int (nI (f + (j + 1)))), (11, Value.int (nI (f + j))), (9, Value.long ((stC d f b j).2.2.1)), (7, Value.long (((stC d f b j).2.1) - ((stC d f b j).1 + (d 9 (f + j) - foreC d (f + j)).toInt64))), (5, Value.long 0), (0, Value.ref (a 300)), (1, Value.int (nI f)), (2, Value.int (nI t)), (3, Value.int b), (4, Value.int what)]) rfl ?_
                  rw [show (stC d f b (j + 1)) = (0, ((stC d f b j).2.1) - ((stC d f b j).1 + (d 9 (f + j) - foreC d (f + j)).toInt64), (stC d f b j).2.2.1, nI (f + j)) from by have hv0 := Int64.not_le.mp q97; simp only [stC]; rw [if_pos (by omega), if_pos hv0, if_pos hv0, if_pos ⟨hv0, h110⟩]] at ihj
                  exact ihj
                · have q132 := iv_ne (y := 0) (nI_toInt (by omega)) (show (0 : Int32).toInt = 0 from by decide) h132
                  refine z_lload C dX8_stock_135 (q := 0) rfl ?_
                  refine z_aload_n C dX8_stock_137 rfl (q := 5) rfl ?_
                  refine zg_X8_told C (k := 300) (hL _ (by unfold live; omega)) (by rfl) i8 (by decide +kernel) (k' := 301) (RM_told hM) dX8_stock_138 ?_
                  refine z_iconst C dX8_stock_141 (v := 3) (by decide) ?_
                  refine z_iaload C (k := 301) (hL _ (by unfold live; omega)) (by rfl) (j := 3) (by decide) (by rw [show ln 301 = 4 from rfl]; omega) (by rw [show ln 301 = 4 from rfl]; decide) (v := d 5 3) (LK_told hK (by decide)) dX8_stock_142 ?_
                  refine z_i2l C dX8_stock_143 (v := (d 5 3).toInt64) rfl ?_
                  refine z_lmul C dX8_stock_144 (v := 0 * ((d 5 3).toInt64)) rfl ?_
                  refine z_ldc2 C dX8_stock_145 (v := 100) (by decide +kernel) ?_
                  refine z_ldiv C dX8_stock_148 (by decide) (v := (0 * ((d 5 3).toInt64)) / 100) rfl ?_
                  refine z_goto C dX8_stock_149 (tgt := 153) (by decide) ?_
                  refine z_lstore C dX8_stock_153 (by decide) (lv' := [(13, Value.long ((0 * ((d 5 3).toInt64)) / 100)), (5, Value.long 0), (11, Value.int (nI (f + j))), (7, Value.long (((stC d f b j).2.1) - ((stC d f b j).1 + (d 9 (f + j) - foreC d (f + j)).toInt64))), (12, Value.int (nI (f + j))), (9, Value.long ((stC d f b j).2.2.1)), (0, Value.ref (a 300)), (1, Value.int (nI f)), (2, Value.int (nI t)), (3, Value.int b), (4, Value.int what)]) rfl ?_
                  refine z_lload C dX8_stock_155 (q := 1) rfl ?_
                  refine z_lload C dX8_stock_157 (q := 0) rfl ?_
                  refine z_lsub C dX8_stock_159 (v := 0 - ((0 * ((d 5 3).toInt64)) / 100)) rfl ?_
                  refine z_lstore C dX8_stock_160 (by decide) (lv' := [(5, Value.long (0 - ((0 * ((d 5 3).toInt64)) / 100))), (13, Value.long ((0 * ((d 5 3).toInt64)) / 100)), (11, Value.int (nI (f + j))), (7, Value.long (((stC d f b j).2.1) - ((stC d f b j).1 + (d 9 (f + j) - foreC d (f + j)).toInt64))), (12, Value.int (nI (f + j))), (9, Value.long ((stC d f b j).2.2.1)), (0, Value.ref (a 300)), (1, Value.int (nI f)), (2, Value.int (nI t)), (3, Value.int b), (4, Value.int what)]) rfl ?_
                  refine z_lload C dX8_stock_162 (q := 5) rfl ?_
                  refine z_lload C dX8_stock_164 (q := 1) rfl ?_
                  refine z_ladd C dX8_stock_166 (v := ((stC d f b j).2.2.1) + ((0 * ((d 5 3).toInt64)) / 100)) rfl ?_
                  refine z_lstore C dX8_stock_167 (by decide) (lv' := [(9, Value.long (((stC d f b j).2.2.1) + ((0 * ((d 5 3).toInt64)) / 100))), (5, Value.long (0 - ((0 * ((d 5 3).toInt64)) / 100))), (13, Value.long ((0 * ((d 5 3).toInt64)) / 100)), (11, Value.int (nI (f + j))), (7, Value.long (((stC d f b j).2.1) - ((stC d f b j).1 + (d 9 (f + j) - foreC d (f + j)).toInt64))), (12, Value.int (nI (f + j))), (0, Value.ref (a 300)), (1, Value.int (nI f)), (2, Value.int (nI t)), (3, Value.int b), (4, Value.int what)]) rfl ?_
                  refine z_iinc C dX8_stock_169 (q := 5) rfl (v := nI (f + (j + 1))) (nI_1 _) (by decide) (lv' := [(12, Value.int (nI (f + (j + 1)))), (9, Value.long (((stC d f b j).2.2.1) + ((0 * ((d 5 3).toInt64)) / 100))), (5, Value.long (0 - ((0 * ((d 5 3).toInt64)) / 100))), (13, Value.long ((0 * ((d 5 3).toInt64)) / 100)), (11, Value.int (nI (f + j))), (7, Value.long (((stC d f b j).2.1) - ((stC d f b j).1 + (d 9 (f + j) - foreC d (f + j)).toInt64))), (0, Value.ref (a 300)), (1, Value.int (nI f)), (2, Value.int (nI t)), (3, Value.int b), (4, Value.int what)]) rfl ?_
                  refine z_goto C dX8_stock_172 (tgt := 62) (by decide) ?_
                  refine z_sub [0, 4, 1, 5, 2, 6, 7, 8, 9, 10] (lv' := [(12, Value.int (nI (f + (j + 1)))), (11, Value.int (nI (f + j))), (9, Value.long (((stC d f b j).2.2.1) + ((0 * ((d 5 3).toInt64)) / 100))), (7, Value.long (((stC d f b j).2.1) - ((stC d f b j).1 + (d 9 (f + j) - foreC d (f + j)).toInt64))), (5, Value.long (0 - ((0 * ((d 5 3).toInt64)) / 100))), (0, Value.ref (a 300)), (1, Value.int (nI f)), (2, Value.int (nI t)), (3, Value.int b), (4, Value.int what)]) rfl ?_
                  rw [show (stC d f b (j + 1)) = (0 - ((0 * ((d 5 3).toInt64)) / 100), ((stC d f b j).2.1) - ((stC d f b j).1 + (d 9 (f + j) - foreC d (f + j)).toInt64), ((stC d f b j).2.2.1) + ((0 * ((d 5 3).toInt64)) / 100), nI (f + j)) from by have hv0 := Int64.not_le.mp q97; simp only [stC]; rw [if_neg (by omega), if_pos hv0, if_pos hv0, if_pos ⟨hv0, h110⟩]] at ihj
                  exact ihj
        · refine z_if_ne C dX8_stock_40 (tgt := 46) (by decide) (fun h40 => absurd h40 (by decide)) (fun h40 => ?_)
          refine z_bipush C dX8_stock_43 (v := -2) (by decide) ?_
          exact z_iret C rfl (Nat.le_refl _) (Nat.le_refl _) dX8_stock_45 ⟨rfl, by rw [stockC, if_neg (by omega)]⟩
      · refine z_if_eq C dX8_stock_27 (tgt := 43) (by decide) (fun h27 => ?_) (fun h27 => absurd h27 (by decide))
        refine z_bipush C dX8_stock_43 (v := -2) (by decide) ?_
        exact z_iret C rfl (Nat.le_refl _) (Nat.le_refl _) dX8_stock_45 ⟨rfl, by rw [stockC, if_neg (by omega)]⟩
    · refine z_if_eq C dX8_stock_15 (tgt := 43) (by decide) (fun h15 => ?_) (fun h15 => absurd h15 (by decide))
      refine z_bipush C dX8_stock_43 (v := -2) (by decide) ?_
      exact z_iret C rfl (Nat.le_refl _) (Nat.le_refl _) dX8_stock_45 ⟨rfl, by rw [stockC, if_neg (by omega)]⟩
  · refine z_if_eq C dX8_stock_4 (tgt := 43) (by decide) (fun h4 => ?_) (fun h4 => absurd h4 (by decide))
    refine z_bipush C dX8_stock_43 (v := -2) (by decide) ?_
    exact z_iret C rfl (Nat.le_refl _) (Nat.le_refl _) dX8_stock_45 ⟨rfl, by rw [stockC, if_neg (by omega)]⟩
