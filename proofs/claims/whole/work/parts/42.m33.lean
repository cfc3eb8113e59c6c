theorem tL_add (x y : Int32) : (x.toInt64 + y.toInt64).toInt = x.toInt + y.toInt := by
  have a1 := Int32.toInt_lt x
  have a2 := Int32.le_toInt x
  have b1 := Int32.toInt_lt y
  have b2 := Int32.le_toInt y
  rw [Int64.toInt_add, Int32.toInt_toInt64, Int32.toInt_toInt64]
  apply Int.bmod_eq_of_le <;> omega
theorem iL_le {x y : Int64} {X Y : Int} (hx : x.toInt = X) (hy : y.toInt = Y) (h : x ≤ y) : X ≤ Y := by rw [← hx, ← hy]; exact Int64.le_iff_toInt_le.mp h
theorem iL_nle {x y : Int64} {X Y : Int} (hx : x.toInt = X) (hy : y.toInt = Y) (h : ¬ x ≤ y) : Y < X := by rw [← hx, ← hy]; rw [Int64.le_iff_toInt_le] at h; omega
theorem cq_0 (c : Nat → Nat → Int32) (k : Nat) (f : Nat → Int32) : up1 c k (fun q => if q < 0 then f q else c k q) = c := by
  funext k' q; unfold up1; split
  · rename_i h; subst h; exact if_neg (by omega)
  · rfl
theorem cq_step (c : Nat → Nat → Int32) (k i : Nat) (f : Nat → Int32) : up2 (up1 c k (fun q => if q < i then f q else c k q)) k i (f i) = up1 c k (fun q => if q < i + 1 then f q else c k q) := by
  funext k' q; unfold up2 up1
  by_cases hk : k' = k
  · subst hk
    simp only [if_true]
    by_cases hq : q = i
    · subst hq; rw [if_pos rfl, if_pos (by omega)]
    · rw [if_neg hq]
      by_cases h2 : q < i
      · rw [if_pos h2, if_pos (by omega)]
      · rw [if_neg h2, if_neg (by omega)]
  · simp [hk]
theorem cp_0 (c : Nat → Nat → Int32) (k b : Nat) (f g : Nat → Int32) (h : g = c k) : up1 c k (fun q => if b ≤ q ∧ q < b + 0 then f (q - b) else g q) = c := by
  subst h
  funext k' q; unfold up1; split
  · rename_i h; subst h; exact if_neg (by omega)
  · rfl
theorem cp_step (c : Nat → Nat → Int32) (k b i : Nat) (f g : Nat → Int32) : up2 (up1 c k (fun q => if b ≤ q ∧ q < b + i then f (q - b) else g q)) k (b + i) (f i) = up1 c k (fun q => if b ≤ q ∧ q < b + (i + 1) then f (q - b) else g q) := by
  funext k' q; unfold up2 up1
  by_cases hk : k' = k
  · subst hk
    simp only [if_true]
    by_cases hq : q = b + i
    · subst hq; rw [if_pos rfl, if_pos (by omega), show b + i - b = i by omega]
    · rw [if_neg hq]
      by_cases h2 : b ≤ q ∧ q < b + i
      · rw [if_pos h2, if_pos (by omega)]
      · rw [if_neg h2, if_neg (by omega)]
  · simp [hk]

set_option maxHeartbeats 4000000 in
set_option maxRecDepth 100000 in
theorem c_X8_copy (l : Launch) (D : va_G) (cy : Nat → ClassId) (a : Nat → Nat) (L : List Nat) (c : Nat → Nat → Int32) (g : Nat → Nat → Int64) (r : Nat → Nat → Option Nat) (nl nk : Nat) (hL : zLv L nl nk) (hM : RM r) (d : Nat → Nat → Int32) (hI : CI d nl nk) (x : Nat → Nat → Nat) (hX : XL d nl x) (hK : LK d c nl nk x) (sa i sb j n : Int32) : zCI l yX8_copy wsX8_copy { frames := 2, cells := 0, slots := 0, locals := 45 } D cy a L c g r [Value.ref (a 300), Value.int sa, Value.int i, Value.int sb, Value.int j, Value.int n] (fun v c' => (¬ ((0 ≤ sa.toInt ∧ sa.toInt ≤ 3) ∧ (0 ≤ sb.toInt ∧ sb.toInt ≤ 3)) ∧ v = -2 ∧ c' = c) ∨ (((0 ≤ sa.toInt ∧ sa.toInt ≤ 3) ∧ (0 ≤ sb.toInt ∧ sb.toInt ≤ 3)) ∧ (nn d (40 + tn sa) 1 = 1 ∨ nn d (40 + tn sb) 1 = 1) ∧ v = -11 ∧ c' = up2 c 300 27 1) ∨ (((0 ≤ sa.toInt ∧ sa.toInt ≤ 3) ∧ (0 ≤ sb.toInt ∧ sb.toInt ≤ 3)) ∧ ¬ (nn d (40 + tn sa) 1 = 1 ∨ nn d (40 + tn sb) 1 = 1) ∧ ¬ nn d (40 + tn sa) 2 = nn d (40 + tn sb) 2 ∧ v = -14 ∧ c' = up2 c 300 27 4) ∨ (((0 ≤ sa.toInt ∧ sa.toInt ≤ 3) ∧ (0 ≤ sb.toInt ∧ sb.toInt ≤ 3)) ∧ ¬ (nn d (40 + tn sa) 1 = 1 ∨ nn d (40 + tn sb) 1 = 1) ∧ nn d (40 + tn sa) 2 = nn d (40 + tn sb) 2 ∧ ¬ ((0 ≤ i.toInt ∧ 0 ≤ n.toInt ∧ i.toInt + n.toInt ≤ (nn d (40 + tn sa) 3 : Int)) ∧ (0 ≤ j.toInt ∧ 0 ≤ n.toInt ∧ j.toInt + n.toInt ≤ (nn d (40 + tn sb) 3 : Int))) ∧ v = -12 ∧ c' = up2 c 300 27 2) ∨ (((0 ≤ sa.toInt ∧ sa.toInt ≤ 3) ∧ (0 ≤ sb.toInt ∧ sb.toInt ≤ 3)) ∧ ¬ (nn d (40 + tn sa) 1 = 1 ∨ nn d (40 + tn sb) 1 = 1) ∧ nn d (40 + tn sa) 2 = nn d (40 + tn sb) 2 ∧ ((0 ≤ i.toInt ∧ 0 ≤ n.toInt ∧ i.toInt + n.toInt ≤ (nn d (40 + tn sa) 3 : Int)) ∧ (0 ≤ j.toInt ∧ 0 ≤ n.toInt ∧ j.toInt + n.toInt ≤ (nn d (40 + tn sb) 3 : Int))) ∧ v = 1 ∧ c' = up1 (up1 c 327 (fun q => if q < tn n then c 326 (60 * tn sa + tn i + q) else c 327 q)) 326 (fun q => if 60 * tn sb + tn j ≤ q ∧ q < 60 * tn sb + tn j + tn n then c 326 (60 * tn sa + tn i + (q - (60 * tn sb + tn j))) else c 326 q))) := by
  refine z_enter cX8_copy 7 (some .int) (by decide) (Nat.le_of_ble_eq_true rfl) ?_
  intro p e s m below meth co C hin
  have C : zC p s m _ meth co D cy _ cX8_copy 7 (some .int) wsX8_copy RX8 := C
  have i8 : ∀ w ∈ wsX80, w ∈ wsX8_copy := by decide +kernel
  refine z_iload_n C dX8_copy_0 rfl (q := 1) rfl ?_
  refine z_pI C (z_runS C (As := [Value.int sa]) (rest := []) (c_X8_isSheet l D cy a L c g r sa) (va_cwS 1 C.2.2.2.2.2.1 gX8_copy_X8_isSheet rfl rfl rfl (by decide +kernel) ⟨Nat.le_of_ble_eq_true rfl, Nat.le_of_ble_eq_true rfl⟩) rfl rfl (Nat.le_of_ble_eq_true rfl) dX8_copy_1 ⟨Nat.zero_le _, Nat.zero_le _⟩) (fun v1 e1 => ?_)
  rcases e1 with ⟨rfl, e1⟩ | ⟨rfl, e1⟩
  · obtain ⟨x1, hx1, rfl⟩ := arg_nI (b := 3) e1
    have tx1 := nI_toInt (n := x1) (by omega)
    have ux1 := tn_nI (j := x1) (by omega)
    have usa := ux1
    have oa := (CI_sh hI hx1).1.2
    have fa := (CI_sh hI hx1).2.1.2
    have na := (CI_sh hI hx1).2.2.2
    refine z_if_eq C dX8_copy_4 (tgt := 14) (by decide) (fun h4 => absurd h4 (by decide)) (fun h4 => ?_)
    refine z_iload_n C dX8_copy_7 rfl (q := 3) rfl ?_
    refine z_pI C (z_runS C (As := [Value.int sb]) (rest := []) (c_X8_isSheet l D cy a L c g r sb) (va_cwS 1 C.2.2.2.2.2.1 gX8_copy_X8_isSheet rfl rfl rfl (by decide +kernel) ⟨Nat.le_of_ble_eq_true rfl, Nat.le_of_ble_eq_true rfl⟩) rfl rfl (Nat.le_of_ble_eq_true rfl) dX8_copy_8 ⟨Nat.zero_le _, Nat.zero_le _⟩) (fun v8 e8 => ?_)
    rcases e8 with ⟨rfl, e8⟩ | ⟨rfl, e8⟩
    · obtain ⟨y1, hy1, rfl⟩ := arg_nI (b := 3) e8
      have ty1 := nI_toInt (n := y1) (by omega)
      have uy1 := tn_nI (j := y1) (by omega)
      have usb := uy1
      have ob := (CI_sh hI hy1).1.2
      have fb := (CI_sh hI hy1).2.1.2
      have nb := (CI_sh hI hy1).2.2.2
      refine z_if_ne C dX8_copy_11 (tgt := 17) (by decide) (fun h11 => ?_) (fun h11 => absurd h11 (by decide))
      refine z_aload_n C dX8_copy_17 rfl (q := 0) rfl ?_
      refine zg_X8_forms C (k := 300) (hL _ (by unfold live; omega)) (by rfl) i8 (by decide +kernel) (k' := 324) (RM_forms hM) dX8_copy_18 ?_
      refine z_iload_n C dX8_copy_21 rfl (q := 1) rfl ?_
      have ho22 := (CI_sh hI (show x1 < 4 by omega)).1.2
      have hf22 := (CI_sh hI (show x1 < 4 by omega)).2.1.2
      have h0 : nn d (40 + x1) 1 = 1 ∨ nn d (40 + x1) 1 = 0 := by omega
      rcases h0 with h0 | h0
      · refine z_iaload C (k := 324) (hL _ (by unfold live; omega)) (by rfl) (j := x1) rfl (by rw [show ln 324 = 4 from rfl]; omega) (by decide) (v := -1) ((LK_fo hK (by omega)).trans (if_pos h0)) dX8_copy_22 ?_
        refine z_if_lt C dX8_copy_23 (tgt := 35) (by decide) (fun h23 => ?_) (fun h23 => absurd h23 (by decide))
        refine z_aload_n C dX8_copy_35 rfl (q := 0) rfl ?_
        refine z_iconst C dX8_copy_36 (v := 1) (by decide) ?_
        refine z_cI C (z_runV C (As := [Value.int 1]) (rest := []) (c_X8_met l D cy a L c g r nl nk hL 1) (cwV 1 C.2.2.2.2.2.1 gX8_copy_X8_met rfl rfl rfl (by decide +kernel) ⟨Nat.le_of_ble_eq_true rfl, Nat.le_of_ble_eq_true rfl⟩) (hL _ (by unfold live; omega)) (zF_k8 (by rfl)) rfl rfl rfl rfl (Nat.le_of_ble_eq_true rfl) dX8_copy_37 ⟨Nat.zero_le _, Nat.zero_le _⟩) (fun v37 c37 e37 => ?_)
        obtain ⟨rfl, rfl⟩ := e37
        exact z_iret C rfl (Nat.le_refl _) (Nat.le_refl _) dX8_copy_40 ⟨_, rfl, Or.inr (Or.inl ⟨by omega, by rw [usa, usb]; omega, by decide, rfl⟩)⟩
      · refine z_iaload C (k := 324) (hL _ (by unfold live; omega)) (by rfl) (j := x1) rfl (by rw [show ln 324 = 4 from rfl]; omega) (by decide) (v := nI (nn d (40 + x1) 2)) ((LK_fo hK (by omega)).trans ((if_neg (by omega)).trans (CI_sh hI (by omega)).2.1.1)) dX8_copy_22 ?_
        refine z_if_lt C dX8_copy_23 (tgt := 35) (by decide) (fun h23 => absurd h23 (i32_max (by rw [nI_toInt (by omega)]; omega))) (fun h23 => ?_)
        refine z_aload_n C dX8_copy_26 rfl (q := 0) rfl ?_
        refine zg_X8_forms C (k := 300) (hL _ (by unfold live; omega)) (by rfl) i8 (by decide +kernel) (k' := 324) (RM_forms hM) dX8_copy_27 ?_
        refine z_iload_n C dX8_copy_30 rfl (q := 3) rfl ?_
        have ho31 := (CI_sh hI (show y1 < 4 by omega)).1.2
        have hf31 := (CI_sh hI (show y1 < 4 by omega)).2.1.2
        have h1 : nn d (40 + y1) 1 = 1 ∨ nn d (40 + y1) 1 = 0 := by omega
        rcases h1 with h1 | h1
        · refine z_iaload C (k := 324) (hL _ (by unfold live; omega)) (by rfl) (j := y1) rfl (by rw [show ln 324 = 4 from rfl]; omega) (by decide) (v := -1) ((LK_fo hK (by omega)).trans (if_pos h1)) dX8_copy_31 ?_
          refine z_if_ge C dX8_copy_32 (tgt := 41) (by decide) (fun h32 => absurd h32 (by decide)) (fun h32 => ?_)
          refine z_aload_n C dX8_copy_35 rfl (q := 0) rfl ?_
          refine z_iconst C dX8_copy_36 (v := 1) (by decide) ?_
          refine z_cI C (z_runV C (As := [Value.int 1]) (rest := []) (c_X8_met l D cy a L c g r nl nk hL 1) (cwV 1 C.2.2.2.2.2.1 gX8_copy_X8_met rfl rfl rfl (by decide +kernel) ⟨Nat.le_of_ble_eq_true rfl, Nat.le_of_ble_eq_true rfl⟩) (hL _ (by unfold live; omega)) (zF_k8 (by rfl)) rfl rfl rfl rfl (Nat.le_of_ble_eq_true rfl) dX8_copy_37 ⟨Nat.zero_le _, Nat.zero_le _⟩) (fun v37 c37 e37 => ?_)
          obtain ⟨rfl, rfl⟩ := e37
          exact z_iret C rfl (Nat.le_refl _) (Nat.le_refl _) dX8_copy_40 ⟨_, rfl, Or.inr (Or.inl ⟨by omega, by rw [usa, usb]; omega, by decide, rfl⟩)⟩
        · refine z_iaload C (k := 324) (hL _ (by unfold live; omega)) (by rfl) (j := y1) rfl (by rw [show ln 324 = 4 from rfl]; omega) (by decide) (v := nI (nn d (40 + y1) 2)) ((LK_fo hK (by omega)).trans ((if_neg (by omega)).trans (CI_sh hI (by omega)).2.1.1)) dX8_copy_31 ?_
          refine z_if_ge C dX8_copy_32 (tgt := 41) (by decide) (fun h32 => ?_) (fun h32 => absurd (nI_pos' (by omega)) h32)
          refine z_aload_n C dX8_copy_41 rfl (q := 0) rfl ?_
          refine zg_X8_forms C (k := 300) (hL _ (by unfold live; omega)) (by rfl) i8 (by decide +kernel) (k' := 324) (RM_forms hM) dX8_copy_42 ?_
          refine z_iload_n C dX8_copy_45 rfl (q := 1) rfl ?_
          refine z_iaload C (k := 324) (hL _ (by unfold live; omega)) (by rfl) (j := x1) rfl (by rw [show ln 324 = 4 from rfl]; omega) (by rw [show ln 324 = 4 from rfl]; decide) (v := nI (nn d (40 + x1) 2)) ((LK_fo hK (by omega)).trans ((if_neg (by omega)).trans (CI_sh hI (by omega)).2.1.1)) dX8_copy_46 ?_
          refine z_aload_n C dX8_copy_47 rfl (q := 0) rfl ?_
          refine zg_X8_forms C (k := 300) (hL _ (by unfold live; omega)) (by rfl) i8 (by decide +kernel) (k' := 324) (RM_forms hM) dX8_copy_48 ?_
          refine z_iload_n C dX8_copy_51 rfl (q := 3) rfl ?_
          refine z_iaload C (k := 324) (hL _ (by unfold live; omega)) (by rfl) (j := y1) rfl (by rw [show ln 324 = 4 from rfl]; omega) (by rw [show ln 324 = 4 from rfl]; decide) (v := nI (nn d (40 + y1) 2)) ((LK_fo hK (by omega)).trans ((if_neg (by omega)).trans (CI_sh hI (by omega)).2.1.1)) dX8_copy_52 ?_
          refine z_icmp_eq C dX8_copy_53 (tgt := 62) (by decide) (fun h53 => ?_) (fun h53 => ?_)
          · have q53 := iv_eq (nI_toInt (by omega)) (nI_toInt (by omega)) h53
            refine z_iload_n C dX8_copy_62 rfl (q := 2) rfl ?_
            refine z_if_lt C dX8_copy_63 (tgt := 111) (by decide) (fun h63 => ?_) (fun h63 => ?_)
            · have q63 := iv_lt rfl (show (0 : Int32).toInt = 0 from by decide) h63
              refine z_aload_n C dX8_copy_111 rfl (q := 0) rfl ?_
              refine z_iconst C dX8_copy_112 (v := 2) (by decide) ?_
              refine z_cI C (z_runV C (As := [Value.int 2]) (rest := []) (c_X8_met l D cy a L c g r nl nk hL 2) (cwV 1 C.2.2.2.2.2.1 gX8_copy_X8_met rfl rfl rfl (by decide +kernel) ⟨Nat.le_of_ble_eq_true rfl, Nat.le_of_ble_eq_true rfl⟩) (hL _ (by unfold live; omega)) (zF_k8 (by rfl)) rfl rfl rfl rfl (Nat.le_of_ble_eq_true rfl) dX8_copy_113 ⟨Nat.zero_le _, Nat.zero_le _⟩) (fun v113 c113 e113 => ?_)
              obtain ⟨rfl, rfl⟩ := e113
              exact z_iret C rfl (Nat.le_refl _) (Nat.le_refl _) dX8_copy_116 ⟨_, rfl, Or.inr (Or.inr (Or.inr (Or.inl ⟨by omega, by rw [usa, usb]; omega, by rw [usa, usb]; omega, by rw [usa, usb]; omega, by decide, rfl⟩)))⟩
            · have q63 := iv_nlt rfl (show (0 : Int32).toInt = 0 from by decide) h63
              refine z_iload C dX8_copy_66 (q := 4) rfl ?_
              refine z_if_lt C dX8_copy_68 (tgt := 111) (by decide) (fun h68 => ?_) (fun h68 => ?_)
              · have q68 := iv_lt rfl (show (0 : Int32).toInt = 0 from by decide) h68
                refine z_aload_n C dX8_copy_111 rfl (q := 0) rfl ?_
                refine z_iconst C dX8_copy_112 (v := 2) (by decide) ?_
                refine z_cI C (z_runV C (As := [Value.int 2]) (rest := []) (c_X8_met l D cy a L c g r nl nk hL 2) (cwV 1 C.2.2.2.2.2.1 gX8_copy_X8_met rfl rfl rfl (by decide +kernel) ⟨Nat.le_of_ble_eq_true rfl, Nat.le_of_ble_eq_true rfl⟩) (hL _ (by unfold live; omega)) (zF_k8 (by rfl)) rfl rfl rfl rfl (Nat.le_of_ble_eq_true rfl) dX8_copy_113 ⟨Nat.zero_le _, Nat.zero_le _⟩) (fun v113 c113 e113 => ?_)
                obtain ⟨rfl, rfl⟩ := e113
                exact z_iret C rfl (Nat.le_refl _) (Nat.le_refl _) dX8_copy_116 ⟨_, rfl, Or.inr (Or.inr (Or.inr (Or.inl ⟨by omega, by rw [usa, usb]; omega, by rw [usa, usb]; omega, by rw [usa, usb]; omega, by decide, rfl⟩)))⟩
              · have q68 := iv_nlt rfl (show (0 : Int32).toInt = 0 from by decide) h68
                refine z_iload C dX8_copy_71 (q := 5) rfl ?_
                refine z_if_lt C dX8_copy_73 (tgt := 111) (by decide) (fun h73 => ?_) (fun h73 => ?_)
                · have q73 := iv_lt rfl (show (0 : Int32).toInt = 0 from by decide) h73
                  refine z_aload_n C dX8_copy_111 rfl (q := 0) rfl ?_
                  refine z_iconst C dX8_copy_112 (v := 2) (by decide) ?_
                  refine z_cI C (z_runV C (As := [Value.int 2]) (rest := []) (c_X8_met l D cy a L c g r nl nk hL 2) (cwV 1 C.2.2.2.2.2.1 gX8_copy_X8_met rfl rfl rfl (by decide +kernel) ⟨Nat.le_of_ble_eq_true rfl, Nat.le_of_ble_eq_true rfl⟩) (hL _ (by unfold live; omega)) (zF_k8 (by rfl)) rfl rfl rfl rfl (Nat.le_of_ble_eq_true rfl) dX8_copy_113 ⟨Nat.zero_le _, Nat.zero_le _⟩) (fun v113 c113 e113 => ?_)
                  obtain ⟨rfl, rfl⟩ := e113
                  exact z_iret C rfl (Nat.le_refl _) (Nat.le_refl _) dX8_copy_116 ⟨_, rfl, Or.inr (Or.inr (Or.inr (Or.inl ⟨by omega, by rw [usa, usb]; omega, by rw [usa, usb]; omega, by rw [usa, usb]; omega, by decide, rfl⟩)))⟩
                · have q73 := iv_nlt rfl (show (0 : Int32).toInt = 0 from by decide) h73
                  refine z_iload_n C dX8_copy_76 rfl (q := 2) rfl ?_
                  refine z_i2l C dX8_copy_77 (v := i.toInt64) rfl ?_
                  refine z_iload C dX8_copy_78 (q := 5) rfl ?_
                  refine z_i2l C dX8_copy_80 (v := n.toInt64) rfl ?_
                  refine z_ladd C dX8_copy_81 (v := i.toInt64 + n.toInt64) rfl ?_
                  refine z_aload_n C dX8_copy_82 rfl (q := 0) rfl ?_
                  refine zg_X8_sizes C (k := 300) (hL _ (by unfold live; omega)) (by rfl) i8 (by decide +kernel) (k' := 325) (RM_sizes hM) dX8_copy_83 ?_
                  refine z_iload_n C dX8_copy_86 rfl (q := 1) rfl ?_
                  refine z_iaload C (k := 325) (hL _ (by unfold live; omega)) (by rfl) (j := x1) rfl (by rw [show ln 325 = 4 from rfl]; omega) (by rw [show ln 325 = 4 from rfl]; decide) (v := nI (nn d (40 + x1) 3)) (LK_si hK hI (by omega)) dX8_copy_87 ?_
                  refine z_i2l C dX8_copy_88 (v := (nI (nn d (40 + x1) 3)).toInt64) rfl ?_
                  refine z_lcmp C dX8_copy_89 ?_
                  refine z_if_gt C dX8_copy_90 (tgt := 111) (by decide) (fun h90 => ?_) (fun h90 => ?_)
                  · have q90 := lgc_gt.mp h90
                    have f90 := iL_lt (tL (nI_toInt (by omega))) (tL_add i n) q90
                    refine z_aload_n C dX8_copy_111 rfl (q := 0) rfl ?_
                    refine z_iconst C dX8_copy_112 (v := 2) (by decide) ?_
                    refine z_cI C (z_runV C (As := [Value.int 2]) (rest := []) (c_X8_met l D cy a L c g r nl nk hL 2) (cwV 1 C.2.2.2.2.2.1 gX8_copy_X8_met rfl rfl rfl (by decide +kernel) ⟨Nat.le_of_ble_eq_true rfl, Nat.le_of_ble_eq_true rfl⟩) (hL _ (by unfold live; omega)) (zF_k8 (by rfl)) rfl rfl rfl rfl (Nat.le_of_ble_eq_true rfl) dX8_copy_113 ⟨Nat.zero_le _, Nat.zero_le _⟩) (fun v113 c113 e113 => ?_)
                    obtain ⟨rfl, rfl⟩ := e113
                    exact z_iret C rfl (Nat.le_refl _) (Nat.le_refl _) dX8_copy_116 ⟨_, rfl, Or.inr (Or.inr (Or.inr (Or.inl ⟨by omega, by rw [usa, usb]; omega, by rw [usa, usb]; omega, by rw [usa, usb]; omega, by decide, rfl⟩)))⟩
                  · have q90 := fun z => h90 (lgc_gt.mpr z)
                    have f90 := iL_nlt (tL (nI_toInt (by omega))) (tL_add i n) q90
                    refine z_iload C dX8_copy_93 (q := 4) rfl ?_
                    refine z_i2l C dX8_copy_95 (v := j.toInt64) rfl ?_
                    refine z_iload C dX8_copy_96 (q := 5) rfl ?_
                    refine z_i2l C dX8_copy_98 (v := n.toInt64) rfl ?_
                    refine z_ladd C dX8_copy_99 (v := j.toInt64 + n.toInt64) rfl ?_
                    refine z_aload_n C dX8_copy_100 rfl (q := 0) rfl ?_
                    refine zg_X8_sizes C (k := 300) (hL _ (by unfold live; omega)) (by rfl) i8 (by decide +kernel) (k' := 325) (RM_sizes hM) dX8_copy_101 ?_
                    refine z_iload_n C dX8_copy_104 rfl (q := 3) rfl ?_
                    refine z_iaload C (k := 325) (hL _ (by unfold live; omega)) (by rfl) (j := y1) rfl (by rw [show ln 325 = 4 from rfl]; omega) (by rw [show ln 325 = 4 from rfl]; decide) (v := nI (nn d (40 + y1) 3)) (LK_si hK hI (by omega)) dX8_copy_105 ?_
                    refine z_i2l C dX8_copy_106 (v := (nI (nn d (40 + y1) 3)).toInt64) rfl ?_
                    refine z_lcmp C dX8_copy_107 ?_
                    refine z_if_le C dX8_copy_108 (tgt := 117) (by decide) (fun h108 => ?_) (fun h108 => ?_)
                    · have q108 := lgc_le.mp h108
                      have f108 := iL_le (tL_add j n) (tL (nI_toInt (by omega))) q108
                      obtain ⟨i1, hi1, rfl⟩ := arg_big q63
                      have ti1 := nI_toInt (n := i1) (by omega)
                      have ui1 := tn_nI (j := i1) (by omega)
                      obtain ⟨j1, hj1, rfl⟩ := arg_big q68
                      have tj1 := nI_toInt (n := j1) (by omega)
                      have uj1 := tn_nI (j := j1) (by omega)
                      obtain ⟨n1, hn1, rfl⟩ := arg_big q73
                      have tn1 := nI_toInt (n := n1) (by omega)
                      have un1 := tn_nI (j := n1) (by omega)
                      refine z_iconst C dX8_copy_117 (v := nI 0) (by decide) ?_
                      refine z_istore C dX8_copy_118 (by decide) (lv' := [(6, Value.int (nI 0)), (0, Value.ref (a 300)), (1, Value.int (nI x1)), (2, Value.int (nI i1)), (3, Value.int (nI y1)), (4, Value.int (nI j1)), (5, Value.int (nI n1))]) rfl ?_
                      refine z_ceq (cq_0 c 327 (fun q => c 326 (60 * x1 + i1 + q))) ?_
                      refine z_for 0 n1 (Nat.zero_le _) (fun a1 => [(6, Value.int (nI a1)), (0, Value.ref (a 300)), (1, Value.int (nI x1)), (2, Value.int (nI i1)), (3, Value.int (nI y1)), (4, Value.int (nI j1)), (5, Value.int (nI n1))]) (fun a1 => up1 c 327 (fun q => if q < a1 then c 326 (60 * x1 + i1 + q) else c 327 q)) (fun a1 => g) ?_ ?_
                      · refine z_iload C dX8_copy_120 (q := 0) rfl ?_
                        refine z_iload C dX8_copy_122 (q := 6) rfl ?_
                        refine z_icmp_ge C dX8_copy_124 (tgt := 154) (by decide) (fun h124 => ?_) (fun h124 => absurd (Int32.le_refl _) h124)
                        refine z_iconst C dX8_copy_154 (v := nI 0) (by decide) ?_
                        refine z_istore C dX8_copy_155 (by decide) (lv' := [(6, Value.int (nI 0)), (0, Value.ref (a 300)), (1, Value.int (nI x1)), (2, Value.int (nI i1)), (3, Value.int (nI y1)), (4, Value.int (nI j1)), (5, Value.int (nI n1))]) rfl ?_
                        refine z_ceq (cp_0 (up1 c 327 (fun q => if q < n1 then c 326 (60 * x1 + i1 + q) else c 327 q)) 326 (60 * y1 + j1) (fun q => c 326 (60 * x1 + i1 + q)) (c 326) (up1_k _ _ (by decide)).symm) ?_
                        refine z_for 0 n1 (Nat.zero_le _) (fun b => [(6, Value.int (nI b)), (0, Value.ref (a 300)), (1, Value.int (nI x1)), (2, Value.int (nI i1)), (3, Value.int (nI y1)), (4, Value.int (nI j1)), (5, Value.int (nI n1))]) (fun b => up1 (up1 c 327 (fun q => if q < n1 then c 326 (60 * x1 + i1 + q) else c 327 q)) 326 (fun q => if 60 * y1 + j1 ≤ q ∧ q < 60 * y1 + j1 + b then c 326 (60 * x1 + i1 + (q - (60 * y1 + j1))) else c 326 q)) (fun b => g) ?_ ?_
                        · refine z_iload C dX8_copy_157 (q := 0) rfl ?_
                          refine z_iload C dX8_copy_159 (q := 6) rfl ?_
                          refine z_icmp_ge C dX8_copy_161 (tgt := 192) (by decide) (fun h161 => ?_) (fun h161 => absurd (Int32.le_refl _) h161)
                          refine z_iconst C dX8_copy_192 (v := 1) (by decide) ?_
                          exact z_iret C rfl (Nat.le_refl _) (Nat.le_refl _) dX8_copy_193 ⟨_, rfl, Or.inr (Or.inr (Or.inr (Or.inr ⟨by omega, by rw [usa, usb]; omega, by rw [usa, usb]; omega, by rw [usa, usb]; omega, rfl, by rw [usa, usb, ui1, uj1, un1]⟩)))⟩
                        · intro b hlb hb ihb
                          refine z_iload C dX8_copy_157 (q := 0) rfl ?_
                          refine z_iload C dX8_copy_159 (q := 6) rfl ?_
                          refine z_icmp_ge C dX8_copy_161 (tgt := 192) (by decide) (fun h161 => absurd h161 (nI_ge hb (by omega))) (fun h161 => ?_)
                          refine z_aload_n C dX8_copy_164 rfl (q := 1) rfl ?_
                          refine zg_X8_items C (k := 300) (hL _ (by unfold live; omega)) (by rfl) i8 (by decide +kernel) (k' := 326) (RM_items hM) dX8_copy_165 ?_
                          refine z_bipush C dX8_copy_168 (v := 60) (by decide) ?_
                          refine z_iload_n C dX8_copy_170 rfl (q := 4) rfl ?_
                          refine z_imul C dX8_copy_171 (v := nI (60 * y1)) (pk_mul 60 y1) ?_
                          refine z_iload C dX8_copy_172 (q := 5) rfl ?_
                          refine z_iadd C dX8_copy_174 (v := nI ((60 * y1) + j1)) (nI_add (60 * y1) j1) ?_
                          refine z_iload C dX8_copy_175 (q := 0) rfl ?_
                          refine z_iadd C dX8_copy_177 (v := nI (((60 * y1) + j1) + b)) (nI_add ((60 * y1) + j1) b) ?_
                          refine z_aload_n C dX8_copy_178 rfl (q := 1) rfl ?_
                          refine zg_X8_moved C (k := 300) (hL _ (by unfold live; omega)) (by rfl) i8 (by decide +kernel) (k' := 327) (RM_moved hM) dX8_copy_179 ?_
                          refine z_iload C dX8_copy_182 (q := 0) rfl ?_
                          refine z_iaload C (k := 327) (hL _ (by unfold live; omega)) (by rfl) (j := b) rfl (by rw [show ln 327 = 60 from rfl]; omega) (by rw [show ln 327 = 60 from rfl]; decide) (v := c 326 (60 * x1 + i1 + b)) (by rw [up1_k _ _ (by decide), up1_self, if_pos hb]) dX8_copy_184 ?_
                          refine z_iastore C (k := 326) (hL _ (by unfold live; omega)) (by rfl) (j := (((60 * y1) + j1) + b)) rfl (by rw [show ln 326 = 240 from rfl]; omega) (by rw [show ln 326 = 240 from rfl]; decide) dX8_copy_185 ?_
                          refine z_iinc C dX8_copy_186 (q := 0) rfl (v := nI (b + 1)) (nI_1 _) (by decide) (lv' := [(6, Value.int (nI (b + 1))), (0, Value.ref (a 300)), (1, Value.int (nI x1)), (2, Value.int (nI i1)), (3, Value.int (nI y1)), (4, Value.int (nI j1)), (5, Value.int (nI n1))]) rfl ?_
                          refine z_goto C dX8_copy_189 (tgt := 157) (by decide) ?_
                          refine z_ceq (cp_step (up1 c 327 (fun q => if q < n1 then c 326 (60 * x1 + i1 + q) else c 327 q)) 326 (60 * y1 + j1) b (fun q => c 326 (60 * x1 + i1 + q)) (c 326)).symm ?_
                          exact ihb
                      · intro a1 hla1 ha1 iha1
                        refine z_iload C dX8_copy_120 (q := 0) rfl ?_
                        refine z_iload C dX8_copy_122 (q := 6) rfl ?_
                        refine z_icmp_ge C dX8_copy_124 (tgt := 154) (by decide) (fun h124 => absurd h124 (nI_ge ha1 (by omega))) (fun h124 => ?_)
                        refine z_aload_n C dX8_copy_127 rfl (q := 1) rfl ?_
                        refine zg_X8_moved C (k := 300) (hL _ (by unfold live; omega)) (by rfl) i8 (by decide +kernel) (k' := 327) (RM_moved hM) dX8_copy_128 ?_
                        refine z_iload C dX8_copy_131 (q := 0) rfl ?_
                        refine z_aload_n C dX8_copy_133 rfl (q := 1) rfl ?_
                        refine zg_X8_items C (k := 300) (hL _ (by unfold live; omega)) (by rfl) i8 (by decide +kernel) (k' := 326) (RM_items hM) dX8_copy_134 ?_
                        refine z_bipush C dX8_copy_137 (v := 60) (by decide) ?_
                        refine z_iload_n C dX8_copy_139 rfl (q := 2) rfl ?_
                        refine z_imul C dX8_copy_140 (v := nI (60 * x1)) (pk_mul 60 x1) ?_
                        refine z_iload_n C dX8_copy_141 rfl (q := 3) rfl ?_
                        refine z_iadd C dX8_copy_142 (v := nI ((60 * x1) + i1)) (nI_add (60 * x1) i1) ?_
                        refine z_iload C dX8_copy_143 (q := 0) rfl ?_
                        refine z_iadd C dX8_copy_145 (v := nI (((60 * x1) + i1) + a1)) (nI_add ((60 * x1) + i1) a1) ?_
                        refine z_iaload C (k := 326) (hL _ (by unfold live; omega)) (by rfl) (j := (((60 * x1) + i1) + a1)) rfl (by rw [show ln 326 = 240 from rfl]; omega) (by rw [show ln 326 = 240 from rfl]; decide) (v := c 326 (60 * x1 + i1 + a1)) (by rw [up1_k _ _ (by decide)]) dX8_copy_146 ?_
                        refine z_iastore C (k := 327) (hL _ (by unfold live; omega)) (by rfl) (j := a1) rfl (by rw [show ln 327 = 60 from rfl]; omega) (by rw [show ln 327 = 60 from rfl]; decide) dX8_copy_147 ?_
                        refine z_iinc C dX8_copy_148 (q := 0) rfl (v := nI (a1 + 1)) (nI_1 _) (by decide) (lv' := [(6, Value.int (nI (a1 + 1))), (0, Value.ref (a 300)), (1, Value.int (nI x1)), (2, Value.int (nI i1)), (3, Value.int (nI y1)), (4, Value.int (nI j1)), (5, Value.int (nI n1))]) rfl ?_
                        refine z_goto C dX8_copy_151 (tgt := 120) (by decide) ?_
                        refine z_ceq (cq_step c 327 a1 (fun q => c 326 (60 * x1 + i1 + q))).symm ?_
                        exact iha1
                    · have q108 := fun z => h108 (lgc_le.mpr z)
                      have f108 := iL_nle (tL_add j n) (tL (nI_toInt (by omega))) q108
                      refine z_aload_n C dX8_copy_111 rfl (q := 0) rfl ?_
                      refine z_iconst C dX8_copy_112 (v := 2) (by decide) ?_
                      refine z_cI C (z_runV C (As := [Value.int 2]) (rest := []) (c_X8_met l D cy a L c g r nl nk hL 2) (cwV 1 C.2.2.2.2.2.1 gX8_copy_X8_met rfl rfl rfl (by decide +kernel) ⟨Nat.le_of_ble_eq_true rfl, Nat.le_of_ble_eq_true rfl⟩) (hL _ (by unfold live; omega)) (zF_k8 (by rfl)) rfl rfl rfl rfl (Nat.le_of_ble_eq_true rfl) dX8_copy_113 ⟨Nat.zero_le _, Nat.zero_le _⟩) (fun v113 c113 e113 => ?_)
                      obtain ⟨rfl, rfl⟩ := e113
                      exact z_iret C rfl (Nat.le_refl _) (Nat.le_refl _) dX8_copy_116 ⟨_, rfl, Or.inr (Or.inr (Or.inr (Or.inl ⟨by omega, by rw [usa, usb]; omega, by rw [usa, usb]; omega, by rw [usa, usb]; omega, by decide, rfl⟩)))⟩
          · have q53 := iv_ne (nI_toInt (by omega)) (nI_toInt (by omega)) h53
            refine z_aload_n C dX8_copy_56 rfl (q := 0) rfl ?_
            refine z_iconst C dX8_copy_57 (v := 4) (by decide) ?_
            refine z_cI C (z_runV C (As := [Value.int 4]) (rest := []) (c_X8_met l D cy a L c g r nl nk hL 4) (cwV 1 C.2.2.2.2.2.1 gX8_copy_X8_met rfl rfl rfl (by decide +kernel) ⟨Nat.le_of_ble_eq_true rfl, Nat.le_of_ble_eq_true rfl⟩) (hL _ (by unfold live; omega)) (zF_k8 (by rfl)) rfl rfl rfl rfl (Nat.le_of_ble_eq_true rfl) dX8_copy_58 ⟨Nat.zero_le _, Nat.zero_le _⟩) (fun v58 c58 e58 => ?_)
            obtain ⟨rfl, rfl⟩ := e58
            exact z_iret C rfl (Nat.le_refl _) (Nat.le_refl _) dX8_copy_61 ⟨_, rfl, Or.inr (Or.inr (Or.inl ⟨by omega, by rw [usa, usb]; omega, by rw [usa, usb]; omega, by decide, rfl⟩))⟩
    · refine z_if_ne C dX8_copy_11 (tgt := 17) (by decide) (fun h11 => absurd h11 (by decide)) (fun h11 => ?_)
      refine z_bipush C dX8_copy_14 (v := -2) (by decide) ?_
      exact z_iret C rfl (Nat.le_refl _) (Nat.le_refl _) dX8_copy_16 ⟨_, rfl, Or.inl ⟨by omega, rfl, rfl⟩⟩
  · refine z_if_eq C dX8_copy_4 (tgt := 14) (by decide) (fun h4 => ?_) (fun h4 => absurd h4 (by decide))
    refine z_bipush C dX8_copy_14 (v := -2) (by decide) ?_
    exact z_iret C rfl (Nat.le_refl _) (Nat.le_refl _) dX8_copy_16 ⟨_, rfl, Or.inl ⟨by omega, rfl, rfl⟩⟩
