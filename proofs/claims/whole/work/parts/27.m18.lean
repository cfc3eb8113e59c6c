set_option maxHeartbeats 4000000 in
set_option maxRecDepth 100000 in
theorem c_X7_copy (l : Launch) (D : va_G) (cy : Nat → ClassId) (a : Nat → Nat) (L : List Nat) (c : Nat → Nat → Int32) (g : Nat → Nat → Int64) (r : Nat → Nat → Option Nat) (nl nk : Nat) (hL : zLv L nl nk) (hR : RC r nl nk) (hI : CI c nl nk) (sa i sb j n : Int32) : zCI l yX7_copy wsX7_copy { frames := 2, cells := 0, slots := 0, locals := 42 } D cy a L c g r [Value.ref (a 0), Value.int sa, Value.int i, Value.int sb, Value.int j, Value.int n] (fun v c' => (¬ ((0 ≤ sa.toInt ∧ sa.toInt ≤ 3) ∧ (0 ≤ sb.toInt ∧ sb.toInt ≤ 3)) ∧ v = -2 ∧ c' = c) ∨ (((0 ≤ sa.toInt ∧ sa.toInt ≤ 3) ∧ (0 ≤ sb.toInt ∧ sb.toInt ≤ 3)) ∧ (nn c (40 + tn sa) 1 = 1 ∨ nn c (40 + tn sb) 1 = 1) ∧ v = -11 ∧ c' = up2 c 0 10 1) ∨ (((0 ≤ sa.toInt ∧ sa.toInt ≤ 3) ∧ (0 ≤ sb.toInt ∧ sb.toInt ≤ 3)) ∧ ¬ (nn c (40 + tn sa) 1 = 1 ∨ nn c (40 + tn sb) 1 = 1) ∧ ¬ nn c (40 + tn sa) 2 = nn c (40 + tn sb) 2 ∧ v = -14 ∧ c' = up2 c 0 10 4) ∨ (((0 ≤ sa.toInt ∧ sa.toInt ≤ 3) ∧ (0 ≤ sb.toInt ∧ sb.toInt ≤ 3)) ∧ ¬ (nn c (40 + tn sa) 1 = 1 ∨ nn c (40 + tn sb) 1 = 1) ∧ nn c (40 + tn sa) 2 = nn c (40 + tn sb) 2 ∧ ¬ ((0 ≤ i.toInt ∧ 0 ≤ n.toInt ∧ i.toInt + n.toInt ≤ (nn c (40 + tn sa) 3 : Int)) ∧ (0 ≤ j.toInt ∧ 0 ≤ n.toInt ∧ j.toInt + n.toInt ≤ (nn c (40 + tn sb) 3 : Int))) ∧ v = -12 ∧ c' = up2 c 0 10 2) ∨ (((0 ≤ sa.toInt ∧ sa.toInt ≤ 3) ∧ (0 ≤ sb.toInt ∧ sb.toInt ≤ 3)) ∧ ¬ (nn c (40 + tn sa) 1 = 1 ∨ nn c (40 + tn sb) 1 = 1) ∧ nn c (40 + tn sa) 2 = nn c (40 + tn sb) 2 ∧ ((0 ≤ i.toInt ∧ 0 ≤ n.toInt ∧ i.toInt + n.toInt ≤ (nn c (40 + tn sa) 3 : Int)) ∧ (0 ≤ j.toInt ∧ 0 ≤ n.toInt ∧ j.toInt + n.toInt ≤ (nn c (40 + tn sb) 3 : Int))) ∧ v = 1 ∧ c' = up1 c (50 + tn sb) (va_cpy (c (50 + tn sa)) (c (50 + tn sb)) (tn i) (tn j) (tn n)))) := by
  refine z_enter cX7_copy 8 (some .int) (by decide) (Nat.le_of_ble_eq_true rfl) ?_
  intro p e s m below meth co C hin
  have C : zC p s m _ meth co D cy _ cX7_copy 8 (some .int) wsX7_copy RX7 := C
  have i4 : ∀ w ∈ wsX40, w ∈ wsX7_copy := by decide +kernel
  have i7 : ∀ w ∈ wsX70, w ∈ wsX7_copy := by decide +kernel
  refine z_iload_n C dX7_copy_0 rfl (q := 1) rfl ?_
  refine z_pI C (z_runS C (As := [Value.int sa]) (rest := []) (c_X7_isSheet l D cy a L c g r sa) (va_cwS 1 C.2.2.2.2.2.1 gX7_copy_X7_isSheet rfl rfl rfl (by decide +kernel) ⟨Nat.le_of_ble_eq_true rfl, Nat.le_of_ble_eq_true rfl⟩) rfl rfl (Nat.le_of_ble_eq_true rfl) dX7_copy_1 ⟨Nat.zero_le _, Nat.zero_le _⟩) (fun v1 e1 => ?_)
  rcases e1 with ⟨rfl, e1⟩ | ⟨rfl, e1⟩
  · obtain ⟨x1, hx1, rfl⟩ := arg_nI (b := 3) e1
    have tx1 := nI_toInt (n := x1) (by omega)
    have ux1 := tn_nI (j := x1) (by omega)
    have usa := ux1
    have oa := (CI_sh hI hx1).1.2
    have fa := (CI_sh hI hx1).2.1.2
    have na := (CI_sh hI hx1).2.2.2
    refine z_if_eq C dX7_copy_4 (tgt := 14) (by decide) (fun h4 => absurd h4 (by decide)) (fun h4 => ?_)
    refine z_iload_n C dX7_copy_7 rfl (q := 3) rfl ?_
    refine z_pI C (z_runS C (As := [Value.int sb]) (rest := []) (c_X7_isSheet l D cy a L c g r sb) (va_cwS 1 C.2.2.2.2.2.1 gX7_copy_X7_isSheet rfl rfl rfl (by decide +kernel) ⟨Nat.le_of_ble_eq_true rfl, Nat.le_of_ble_eq_true rfl⟩) rfl rfl (Nat.le_of_ble_eq_true rfl) dX7_copy_8 ⟨Nat.zero_le _, Nat.zero_le _⟩) (fun v8 e8 => ?_)
    rcases e8 with ⟨rfl, e8⟩ | ⟨rfl, e8⟩
    · obtain ⟨y1, hy1, rfl⟩ := arg_nI (b := 3) e8
      have ty1 := nI_toInt (n := y1) (by omega)
      have uy1 := tn_nI (j := y1) (by omega)
      have usb := uy1
      have ob := (CI_sh hI hy1).1.2
      have fb := (CI_sh hI hy1).2.1.2
      have nb := (CI_sh hI hy1).2.2.2
      refine z_if_ne C dX7_copy_11 (tgt := 17) (by decide) (fun h11 => ?_) (fun h11 => absurd h11 (by decide))
      refine z_aload_n C dX7_copy_17 rfl (q := 0) rfl ?_
      refine zg_X7_sheetRow C (k := 0) (hL _ (by unfold live; omega)) (by rfl) i7 (by decide +kernel) (k' := 11) (RC_sheetRow hR) dX7_copy_18 ?_
      refine z_iload_n C dX7_copy_21 rfl (q := 1) rfl ?_
      refine z_aaload C (k := 11) (hL _ (by unfold live; omega)) (by rfl) (by decide) (j := x1) rfl (by rw [show ln 11 = 4 from rfl]; omega) (by rw [show ln 11 = 4 from rfl]; decide) (v := .ref (a (40 + x1))) (by rw [RC_sheet hR (by omega)]; rfl) dX7_copy_22 ?_
      refine z_astore C dX7_copy_23 (by decide) (lv' := [(6, Value.ref (a (40 + x1))), (0, Value.ref (a 0)), (1, Value.int (nI x1)), (2, Value.int i), (3, Value.int (nI y1)), (4, Value.int j), (5, Value.int n)]) rfl ?_
      refine z_aload_n C dX7_copy_25 rfl (q := 1) rfl ?_
      refine zg_X7_sheetRow C (k := 0) (hL _ (by unfold live; omega)) (by rfl) i7 (by decide +kernel) (k' := 11) (RC_sheetRow hR) dX7_copy_26 ?_
      refine z_iload_n C dX7_copy_29 rfl (q := 4) rfl ?_
      refine z_aaload C (k := 11) (hL _ (by unfold live; omega)) (by rfl) (by decide) (j := y1) rfl (by rw [show ln 11 = 4 from rfl]; omega) (by rw [show ln 11 = 4 from rfl]; decide) (v := .ref (a (40 + y1))) (by rw [RC_sheet hR (by omega)]; rfl) dX7_copy_30 ?_
      refine z_astore C dX7_copy_31 (by decide) (lv' := [(7, Value.ref (a (40 + y1))), (6, Value.ref (a (40 + x1))), (0, Value.ref (a 0)), (1, Value.int (nI x1)), (2, Value.int i), (3, Value.int (nI y1)), (4, Value.int j), (5, Value.int n)]) rfl ?_
      refine z_aload C dX7_copy_33 (q := 1) rfl ?_
      refine zg_X4_isLost C (k := 40 + x1) (hL _ (by unfold live; omega)) (kd_s (by omega)) i4 (by decide +kernel) (v := nI (nn c (40 + x1) 1)) (CI_sh hI (by omega)).1.1 dX7_copy_35 ?_
      refine z_if_ne C dX7_copy_38 (tgt := 49) (by decide) (fun h38 => ?_) (fun h38 => ?_)
      · have q38 := iv_ne (y := 0) (nI_toInt (by omega)) (show (0 : Int32).toInt = 0 from by decide) h38
        refine z_aload_n C dX7_copy_49 rfl (q := 2) rfl ?_
        refine z_iconst C dX7_copy_50 (v := 1) (by decide) ?_
        refine z_cI C (z_runV C (As := [Value.int 1]) (rest := []) (c_X7_finding l D cy a L c g r nl nk hL 1) (cwV 1 C.2.2.2.2.2.1 gX7_copy_X7_finding rfl rfl rfl (by decide +kernel) ⟨Nat.le_of_ble_eq_true rfl, Nat.le_of_ble_eq_true rfl⟩) (hL _ (by unfold live; omega)) (zF_k7 (by rfl)) rfl rfl rfl rfl (Nat.le_of_ble_eq_true rfl) dX7_copy_51 ⟨Nat.zero_le _, Nat.zero_le _⟩) (fun v51 c51 e51 => ?_)
        obtain ⟨rfl, rfl⟩ := e51
        exact z_iret C rfl (Nat.le_refl _) (Nat.le_refl _) dX7_copy_54 ⟨_, rfl, Or.inr (Or.inl ⟨by omega, by rw [usa, usb]; omega, by decide, rfl⟩)⟩
      · have q38 := iv_eq (y := 0) (nI_toInt (by omega)) (show (0 : Int32).toInt = 0 from by decide) h38
        refine z_aload C dX7_copy_41 (q := 0) rfl ?_
        refine zg_X4_isLost C (k := 40 + y1) (hL _ (by unfold live; omega)) (kd_s (by omega)) i4 (by decide +kernel) (v := nI (nn c (40 + y1) 1)) (CI_sh hI (by omega)).1.1 dX7_copy_43 ?_
        refine z_if_eq C dX7_copy_46 (tgt := 55) (by decide) (fun h46 => ?_) (fun h46 => ?_)
        · have q46 := iv_eq (y := 0) (nI_toInt (by omega)) (show (0 : Int32).toInt = 0 from by decide) h46
          refine z_aload C dX7_copy_55 (q := 1) rfl ?_
          refine zg_X4_form C (k := 40 + x1) (hL _ (by unfold live; omega)) (kd_s (by omega)) i4 (by decide +kernel) (v := nI (nn c (40 + x1) 2)) (CI_sh hI (by omega)).2.1.1 dX7_copy_57 ?_
          refine z_aload C dX7_copy_60 (q := 0) rfl ?_
          refine zg_X4_form C (k := 40 + y1) (hL _ (by unfold live; omega)) (kd_s (by omega)) i4 (by decide +kernel) (v := nI (nn c (40 + y1) 2)) (CI_sh hI (by omega)).2.1.1 dX7_copy_62 ?_
          refine z_icmp_eq C dX7_copy_65 (tgt := 74) (by decide) (fun h65 => ?_) (fun h65 => ?_)
          · have q65 := iv_eq (nI_toInt (by omega)) (nI_toInt (by omega)) h65
            refine z_aload C dX7_copy_74 (q := 1) rfl ?_
            refine z_iload_n C dX7_copy_76 rfl (q := 4) rfl ?_
            refine z_iload C dX7_copy_77 (q := 7) rfl ?_
            refine z_pI C (z_runV C (As := [Value.int i, Value.int n]) (rest := []) (c_X4_hasRun l D cy a L c g r nl nk hL hR hI x1 (by omega) i n) (cwV 2 C.2.2.2.2.2.1 gX7_copy_X4_hasRun rfl rfl rfl (by decide +kernel) ⟨Nat.le_of_ble_eq_true rfl, Nat.le_of_ble_eq_true rfl⟩) (hL _ (by unfold live; omega)) (zF_k4 (kd_s (by omega))) rfl rfl rfl rfl (Nat.le_of_ble_eq_true rfl) dX7_copy_79 ⟨Nat.zero_le _, Nat.zero_le _⟩) (fun v79 e79 => ?_)
            rcases e79 with ⟨rfl, e79⟩ | ⟨rfl, e79⟩
            · refine z_if_eq C dX7_copy_82 (tgt := 97) (by decide) (fun h82 => absurd h82 (by decide)) (fun h82 => ?_)
              refine z_aload C dX7_copy_85 (q := 0) rfl ?_
              refine z_iload C dX7_copy_87 (q := 6) rfl ?_
              refine z_iload C dX7_copy_89 (q := 7) rfl ?_
              refine z_pI C (z_runV C (As := [Value.int j, Value.int n]) (rest := []) (c_X4_hasRun l D cy a L c g r nl nk hL hR hI y1 (by omega) j n) (cwV 2 C.2.2.2.2.2.1 gX7_copy_X4_hasRun rfl rfl rfl (by decide +kernel) ⟨Nat.le_of_ble_eq_true rfl, Nat.le_of_ble_eq_true rfl⟩) (hL _ (by unfold live; omega)) (zF_k4 (kd_s (by omega))) rfl rfl rfl rfl (Nat.le_of_ble_eq_true rfl) dX7_copy_91 ⟨Nat.zero_le _, Nat.zero_le _⟩) (fun v91 e91 => ?_)
              rcases e91 with ⟨rfl, e91⟩ | ⟨rfl, e91⟩
              · obtain ⟨i1, hi1, rfl⟩ := arg_big e79.1
                have ti1 := nI_toInt (n := i1) (by omega)
                have ui1 := tn_nI (j := i1) (by omega)
                obtain ⟨j1, hj1, rfl⟩ := arg_big e91.1
                have tj1 := nI_toInt (n := j1) (by omega)
                have uj1 := tn_nI (j := j1) (by omega)
                obtain ⟨n1, hn1, rfl⟩ := arg_big e91.2.1
                have tn1 := nI_toInt (n := n1) (by omega)
                have un1 := tn_nI (j := n1) (by omega)
                refine z_if_ne C dX7_copy_94 (tgt := 103) (by decide) (fun h94 => ?_) (fun h94 => absurd h94 (by decide))
                refine z_aload C dX7_copy_103 (q := 1) rfl ?_
                refine zg_X4_items C (k := 40 + x1) (hL _ (by unfold live; omega)) (kd_s (by omega)) i4 (by decide +kernel) (k' := 50 + x1) (RC_items hR (by omega)) dX7_copy_105 ?_
                refine z_iload_n C dX7_copy_108 rfl (q := 4) rfl ?_
                refine z_aload C dX7_copy_109 (q := 0) rfl ?_
                refine zg_X4_items C (k := 40 + y1) (hL _ (by unfold live; omega)) (kd_s (by omega)) i4 (by decide +kernel) (k' := 50 + y1) (RC_items hR (by omega)) dX7_copy_111 ?_
                refine z_iload C dX7_copy_114 (q := 6) rfl ?_
                refine z_iload C dX7_copy_116 (q := 7) rfl ?_
                refine z_copy C (ks := 50 + x1) (kt := 50 + y1) (hL _ (by unfold live; omega)) (hL _ (by unfold live; omega)) (kd_it (by omega)) (kd_it (by omega)) (sp := i1) (dp := j1) (n := n1) (by rw [ln_it (by omega)]; decide) (by rw [ln_it (by omega)]; decide) (by rw [ln_it (by omega)]; omega) (by rw [ln_it (by omega)]; omega) (by decide +kernel) (by decide +kernel) (by decide +kernel) (by decide +kernel) (Nat.le_of_ble_eq_true rfl) (Nat.le_of_ble_eq_true rfl) dX7_copy_118 ?_
                refine z_iconst C dX7_copy_121 (v := 1) (by decide) ?_
                exact z_iret C rfl (Nat.le_refl _) (Nat.le_refl _) dX7_copy_122 ⟨_, rfl, Or.inr (Or.inr (Or.inr (Or.inr ⟨by omega, by rw [usa, usb]; omega, by rw [usa, usb]; omega, by rw [usa, usb]; omega, rfl, by rw [usa, usb, ui1, uj1, un1]⟩)))⟩
              · refine z_if_ne C dX7_copy_94 (tgt := 103) (by decide) (fun h94 => absurd h94 (by decide)) (fun h94 => ?_)
                refine z_aload_n C dX7_copy_97 rfl (q := 2) rfl ?_
                refine z_iconst C dX7_copy_98 (v := 2) (by decide) ?_
                refine z_cI C (z_runV C (As := [Value.int 2]) (rest := []) (c_X7_finding l D cy a L c g r nl nk hL 2) (cwV 1 C.2.2.2.2.2.1 gX7_copy_X7_finding rfl rfl rfl (by decide +kernel) ⟨Nat.le_of_ble_eq_true rfl, Nat.le_of_ble_eq_true rfl⟩) (hL _ (by unfold live; omega)) (zF_k7 (by rfl)) rfl rfl rfl rfl (Nat.le_of_ble_eq_true rfl) dX7_copy_99 ⟨Nat.zero_le _, Nat.zero_le _⟩) (fun v99 c99 e99 => ?_)
                obtain ⟨rfl, rfl⟩ := e99
                exact z_iret C rfl (Nat.le_refl _) (Nat.le_refl _) dX7_copy_102 ⟨_, rfl, Or.inr (Or.inr (Or.inr (Or.inl ⟨by omega, by rw [usa, usb]; omega, by rw [usa, usb]; omega, by rw [usa, usb]; omega, by decide, rfl⟩)))⟩
            · refine z_if_eq C dX7_copy_82 (tgt := 97) (by decide) (fun h82 => ?_) (fun h82 => absurd h82 (by decide))
              refine z_aload_n C dX7_copy_97 rfl (q := 2) rfl ?_
              refine z_iconst C dX7_copy_98 (v := 2) (by decide) ?_
              refine z_cI C (z_runV C (As := [Value.int 2]) (rest := []) (c_X7_finding l D cy a L c g r nl nk hL 2) (cwV 1 C.2.2.2.2.2.1 gX7_copy_X7_finding rfl rfl rfl (by decide +kernel) ⟨Nat.le_of_ble_eq_true rfl, Nat.le_of_ble_eq_true rfl⟩) (hL _ (by unfold live; omega)) (zF_k7 (by rfl)) rfl rfl rfl rfl (Nat.le_of_ble_eq_true rfl) dX7_copy_99 ⟨Nat.zero_le _, Nat.zero_le _⟩) (fun v99 c99 e99 => ?_)
              obtain ⟨rfl, rfl⟩ := e99
              exact z_iret C rfl (Nat.le_refl _) (Nat.le_refl _) dX7_copy_102 ⟨_, rfl, Or.inr (Or.inr (Or.inr (Or.inl ⟨by omega, by rw [usa, usb]; omega, by rw [usa, usb]; omega, by rw [usa, usb]; omega, by decide, rfl⟩)))⟩
          · have q65 := iv_ne (nI_toInt (by omega)) (nI_toInt (by omega)) h65
            refine z_aload_n C dX7_copy_68 rfl (q := 2) rfl ?_
            refine z_iconst C dX7_copy_69 (v := 4) (by decide) ?_
            refine z_cI C (z_runV C (As := [Value.int 4]) (rest := []) (c_X7_finding l D cy a L c g r nl nk hL 4) (cwV 1 C.2.2.2.2.2.1 gX7_copy_X7_finding rfl rfl rfl (by decide +kernel) ⟨Nat.le_of_ble_eq_true rfl, Nat.le_of_ble_eq_true rfl⟩) (hL _ (by unfold live; omega)) (zF_k7 (by rfl)) rfl rfl rfl rfl (Nat.le_of_ble_eq_true rfl) dX7_copy_70 ⟨Nat.zero_le _, Nat.zero_le _⟩) (fun v70 c70 e70 => ?_)
            obtain ⟨rfl, rfl⟩ := e70
            exact z_iret C rfl (Nat.le_refl _) (Nat.le_refl _) dX7_copy_73 ⟨_, rfl, Or.inr (Or.inr (Or.inl ⟨by omega, by rw [usa, usb]; omega, by rw [usa, usb]; omega, by decide, rfl⟩))⟩
        · have q46 := iv_ne (y := 0) (nI_toInt (by omega)) (show (0 : Int32).toInt = 0 from by decide) h46
          refine z_aload_n C dX7_copy_49 rfl (q := 2) rfl ?_
          refine z_iconst C dX7_copy_50 (v := 1) (by decide) ?_
          refine z_cI C (z_runV C (As := [Value.int 1]) (rest := []) (c_X7_finding l D cy a L c g r nl nk hL 1) (cwV 1 C.2.2.2.2.2.1 gX7_copy_X7_finding rfl rfl rfl (by decide +kernel) ⟨Nat.le_of_ble_eq_true rfl, Nat.le_of_ble_eq_true rfl⟩) (hL _ (by unfold live; omega)) (zF_k7 (by rfl)) rfl rfl rfl rfl (Nat.le_of_ble_eq_true rfl) dX7_copy_51 ⟨Nat.zero_le _, Nat.zero_le _⟩) (fun v51 c51 e51 => ?_)
          obtain ⟨rfl, rfl⟩ := e51
          exact z_iret C rfl (Nat.le_refl _) (Nat.le_refl _) dX7_copy_54 ⟨_, rfl, Or.inr (Or.inl ⟨by omega, by rw [usa, usb]; omega, by decide, rfl⟩)⟩
    · refine z_if_ne C dX7_copy_11 (tgt := 17) (by decide) (fun h11 => absurd h11 (by decide)) (fun h11 => ?_)
      refine z_bipush C dX7_copy_14 (v := -2) (by decide) ?_
      exact z_iret C rfl (Nat.le_refl _) (Nat.le_refl _) dX7_copy_16 ⟨_, rfl, Or.inl ⟨by omega, rfl, rfl⟩⟩
  · refine z_if_eq C dX7_copy_4 (tgt := 14) (by decide) (fun h4 => ?_) (fun h4 => absurd h4 (by decide))
    refine z_bipush C dX7_copy_14 (v := -2) (by decide) ?_
    exact z_iret C rfl (Nat.le_refl _) (Nat.le_refl _) dX7_copy_16 ⟨_, rfl, Or.inl ⟨by omega, rfl, rfl⟩⟩
