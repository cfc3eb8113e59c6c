set_option maxHeartbeats 4000000 in
set_option maxRecDepth 100000 in
theorem c_X8_letter (l : Launch) (D : va_G) (cy : Nat → ClassId) (a : Nat → Nat) (L : List Nat) (c : Nat → Nat → Int32) (g : Nat → Nat → Int64) (r : Nat → Nat → Option Nat) (nl nk : Nat) (hL : zLv L nl nk) (hM : RM r) (d : Nat → Nat → Int32) (hI : CI d nl nk) (x : Nat → Nat → Nat) (hX : XL d nl x) (hK : LK d c nl nk x) (wi mi so : Int32) : zCI l yX8_letter wsX8_letter { frames := 1, cells := 0, slots := 0, locals := 25 } D cy a L c g r [Value.ref (a 300), Value.int wi, Value.int mi, Value.int so] (fun v c' => (¬ ((1 ≤ wi.toInt ∧ wi.toInt ≤ 5) ∧ (1 ≤ mi.toInt ∧ mi.toInt ≤ 9) ∧ (1 ≤ so.toInt ∧ so.toInt ≤ 99)) ∧ v = -2 ∧ c' = c) ∨ (((1 ≤ wi.toInt ∧ wi.toInt ≤ 5) ∧ (1 ≤ mi.toInt ∧ mi.toInt ≤ 9) ∧ (1 ≤ so.toInt ∧ so.toInt ≤ 99)) ∧ nl = 16 ∧ v = -4 ∧ c' = c) ∨ (((1 ≤ wi.toInt ∧ wi.toInt ≤ 5) ∧ (1 ≤ mi.toInt ∧ mi.toInt ≤ 9) ∧ (1 ≤ so.toInt ∧ so.toInt ≤ 99)) ∧ nl < 16 ∧ v = nI nl ∧ c' = up2 (up2 (up2 (up2 c 303 nl wi) 304 nl mi) 305 nl so) 300 1 (nI (nl + 1)))) := by
  refine z_enter cX8_letter 4 (some .int) (by decide) (Nat.le_of_ble_eq_true rfl) ?_
  intro p e s m below meth co C hin
  have C : zC p s m _ meth co D cy _ cX8_letter 4 (some .int) wsX8_letter RX8 := C
  have i8 : ∀ w ∈ wsX80, w ∈ wsX8_letter := by decide +kernel
  have h16 := CI_nl16 hI
  refine z_iload_n C dX8_letter_0 rfl (q := 1) rfl ?_
  refine z_i2l C dX8_letter_1 (v := wi.toInt64) rfl ?_
  refine z_lconst C dX8_letter_2 (v := 1) (by decide) ?_
  refine z_ldc2 C dX8_letter_3 (v := 5) (by decide +kernel) ?_
  refine z_pI C (z_runS C (As := [Value.long (wi.toInt64), Value.long 1, Value.long 5]) (rest := []) (c_X8_in l D cy a L c g r wi.toInt64 1 5 (V := wi.toInt) (LO := 1) (HI := 5) (tL rfl) (show (1 : Int64).toInt = 1 from by decide) (show (5 : Int64).toInt = 5 from by decide)) (va_cwS 3 C.2.2.2.2.2.1 gX8_letter_X8_in rfl rfl rfl (by decide +kernel) ⟨Nat.le_of_ble_eq_true rfl, Nat.le_of_ble_eq_true rfl⟩) rfl rfl (Nat.le_of_ble_eq_true rfl) dX8_letter_6 ⟨Nat.zero_le _, Nat.zero_le _⟩) (fun v6 e6 => ?_)
  rcases e6 with ⟨rfl, e6⟩ | ⟨rfl, e6⟩
  · refine z_if_eq C dX8_letter_9 (tgt := 36) (by decide) (fun h9 => absurd h9 (by decide)) (fun h9 => ?_)
    refine z_iload_n C dX8_letter_12 rfl (q := 2) rfl ?_
    refine z_i2l C dX8_letter_13 (v := mi.toInt64) rfl ?_
    refine z_lconst C dX8_letter_14 (v := 1) (by decide) ?_
    refine z_ldc2 C dX8_letter_15 (v := 9) (by decide +kernel) ?_
    refine z_pI C (z_runS C (As := [Value.long (mi.toInt64), Value.long 1, Value.long 9]) (rest := []) (c_X8_in l D cy a L c g r mi.toInt64 1 9 (V := mi.toInt) (LO := 1) (HI := 9) (tL rfl) (show (1 : Int64).toInt = 1 from by decide) (show (9 : Int64).toInt = 9 from by decide)) (va_cwS 3 C.2.2.2.2.2.1 gX8_letter_X8_in rfl rfl rfl (by decide +kernel) ⟨Nat.le_of_ble_eq_true rfl, Nat.le_of_ble_eq_true rfl⟩) rfl rfl (Nat.le_of_ble_eq_true rfl) dX8_letter_18 ⟨Nat.zero_le _, Nat.zero_le _⟩) (fun v18 e18 => ?_)
    rcases e18 with ⟨rfl, e18⟩ | ⟨rfl, e18⟩
    · refine z_if_eq C dX8_letter_21 (tgt := 36) (by decide) (fun h21 => absurd h21 (by decide)) (fun h21 => ?_)
      refine z_iload_n C dX8_letter_24 rfl (q := 3) rfl ?_
      refine z_i2l C dX8_letter_25 (v := so.toInt64) rfl ?_
      refine z_lconst C dX8_letter_26 (v := 1) (by decide) ?_
      refine z_ldc2 C dX8_letter_27 (v := 99) (by decide +kernel) ?_
      refine z_pI C (z_runS C (As := [Value.long (so.toInt64), Value.long 1, Value.long 99]) (rest := []) (c_X8_in l D cy a L c g r so.toInt64 1 99 (V := so.toInt) (LO := 1) (HI := 99) (tL rfl) (show (1 : Int64).toInt = 1 from by decide) (show (99 : Int64).toInt = 99 from by decide)) (va_cwS 3 C.2.2.2.2.2.1 gX8_letter_X8_in rfl rfl rfl (by decide +kernel) ⟨Nat.le_of_ble_eq_true rfl, Nat.le_of_ble_eq_true rfl⟩) rfl rfl (Nat.le_of_ble_eq_true rfl) dX8_letter_30 ⟨Nat.zero_le _, Nat.zero_le _⟩) (fun v30 e30 => ?_)
      rcases e30 with ⟨rfl, e30⟩ | ⟨rfl, e30⟩
      · refine z_if_ne C dX8_letter_33 (tgt := 39) (by decide) (fun h33 => ?_) (fun h33 => absurd h33 (by decide))
        refine z_aload_n C dX8_letter_39 rfl (q := 0) rfl ?_
        refine zg_X8_letters C (k := 300) (hL _ (by unfold live; omega)) (by rfl) i8 (by decide +kernel) (v := nI nl) (LK_nl hK) dX8_letter_40 ?_
        refine z_bipush C dX8_letter_43 (v := 16) (by decide) ?_
        refine z_icmp_ne C dX8_letter_45 (tgt := 51) (by decide) (fun h45 => ?_) (fun h45 => ?_)
        · have q45 := iv_ne (nI_toInt (by omega)) (show (16 : Int32).toInt = 16 from by decide) h45
          refine z_aload_n C dX8_letter_51 rfl (q := 0) rfl ?_
          refine zg_X8_width C (k := 300) (hL _ (by unfold live; omega)) (by rfl) i8 (by decide +kernel) (k' := 303) (RM_width hM) dX8_letter_52 ?_
          refine z_aload_n C dX8_letter_55 rfl (q := 0) rfl ?_
          refine zg_X8_letters C (k := 300) (hL _ (by unfold live; omega)) (by rfl) i8 (by decide +kernel) (v := nI nl) (LK_nl hK) dX8_letter_56 ?_
          refine z_iload_n C dX8_letter_59 rfl (q := 1) rfl ?_
          refine z_iastore C (k := 303) (hL _ (by unfold live; omega)) (by rfl) (j := nl) rfl (by rw [show ln 303 = 16 from rfl]; omega) (by rw [show ln 303 = 16 from rfl]; decide) dX8_letter_60 ?_
          refine z_aload_n C dX8_letter_61 rfl (q := 0) rfl ?_
          refine zg_X8_minutes C (k := 300) (hL _ (by unfold live; omega)) (by rfl) i8 (by decide +kernel) (k' := 304) (RM_minutes hM) dX8_letter_62 ?_
          refine z_aload_n C dX8_letter_65 rfl (q := 0) rfl ?_
          refine zg_X8_letters C (k := 300) (hL _ (by unfold live; omega)) (by rfl) i8 (by decide +kernel) (v := nI nl) (by rw [up2_k _ _ _ _ (by decide)]; exact LK_nl hK) dX8_letter_66 ?_
          refine z_iload_n C dX8_letter_69 rfl (q := 2) rfl ?_
          refine z_iastore C (k := 304) (hL _ (by unfold live; omega)) (by rfl) (j := nl) rfl (by rw [show ln 304 = 16 from rfl]; omega) (by rw [show ln 304 = 16 from rfl]; decide) dX8_letter_70 ?_
          refine z_aload_n C dX8_letter_71 rfl (q := 0) rfl ?_
          refine zg_X8_soft C (k := 300) (hL _ (by unfold live; omega)) (by rfl) i8 (by decide +kernel) (k' := 305) (RM_soft hM) dX8_letter_72 ?_
          refine z_aload_n C dX8_letter_75 rfl (q := 0) rfl ?_
          refine zg_X8_letters C (k := 300) (hL _ (by unfold live; omega)) (by rfl) i8 (by decide +kernel) (v := nI nl) (by rw [up2_k _ _ _ _ (by decide), up2_k _ _ _ _ (by decide)]; exact LK_nl hK) dX8_letter_76 ?_
          refine z_iload_n C dX8_letter_79 rfl (q := 3) rfl ?_
          refine z_iastore C (k := 305) (hL _ (by unfold live; omega)) (by rfl) (j := nl) rfl (by rw [show ln 305 = 16 from rfl]; omega) (by rw [show ln 305 = 16 from rfl]; decide) dX8_letter_80 ?_
          refine z_aload_n C dX8_letter_81 rfl (q := 0) rfl ?_
          refine z_dup C dX8_letter_82 rfl ?_
          refine zg_X8_letters C (k := 300) (hL _ (by unfold live; omega)) (by rfl) i8 (by decide +kernel) (v := nI nl) (by rw [up2_k _ _ _ _ (by decide), up2_k _ _ _ _ (by decide), up2_k _ _ _ _ (by decide)]; exact LK_nl hK) dX8_letter_83 ?_
          refine z_iconst C dX8_letter_86 (v := 1) (by decide) ?_
          refine z_iadd C dX8_letter_87 (v := nI (nl + 1)) (nI_add nl 1) ?_
          refine zp_X8_letters C (k := 300) (hL _ (by unfold live; omega)) (by rfl) i8 (by decide +kernel) dX8_letter_88 ?_
          refine z_aload_n C dX8_letter_91 rfl (q := 0) rfl ?_
          refine zg_X8_letters C (k := 300) (hL _ (by unfold live; omega)) (by rfl) i8 (by decide +kernel) (v := nI (nl + 1)) (by simp [up2]) dX8_letter_92 ?_
          refine z_iconst C dX8_letter_95 (v := 1) (by decide) ?_
          refine z_isub C dX8_letter_96 (v := nI nl) (nI_pred nl) ?_
          exact z_iret C rfl (Nat.le_refl _) (Nat.le_refl _) dX8_letter_97 ⟨_, rfl, Or.inr (Or.inr ⟨by omega, by omega, rfl, rfl⟩)⟩
        · have q45 := iv_eq (nI_toInt (by omega)) (show (16 : Int32).toInt = 16 from by decide) h45
          refine z_bipush C dX8_letter_48 (v := -4) (by decide) ?_
          exact z_iret C rfl (Nat.le_refl _) (Nat.le_refl _) dX8_letter_50 ⟨_, rfl, Or.inr (Or.inl ⟨by omega, by omega, rfl, rfl⟩)⟩
      · refine z_if_ne C dX8_letter_33 (tgt := 39) (by decide) (fun h33 => absurd h33 (by decide)) (fun h33 => ?_)
        refine z_bipush C dX8_letter_36 (v := -2) (by decide) ?_
        exact z_iret C rfl (Nat.le_refl _) (Nat.le_refl _) dX8_letter_38 ⟨_, rfl, Or.inl ⟨by omega, rfl, rfl⟩⟩
    · refine z_if_eq C dX8_letter_21 (tgt := 36) (by decide) (fun h21 => ?_) (fun h21 => absurd h21 (by decide))
      refine z_bipush C dX8_letter_36 (v := -2) (by decide) ?_
      exact z_iret C rfl (Nat.le_refl _) (Nat.le_refl _) dX8_letter_38 ⟨_, rfl, Or.inl ⟨by omega, rfl, rfl⟩⟩
  · refine z_if_eq C dX8_letter_9 (tgt := 36) (by decide) (fun h9 => ?_) (fun h9 => absurd h9 (by decide))
    refine z_bipush C dX8_letter_36 (v := -2) (by decide) ?_
    exact z_iret C rfl (Nat.le_refl _) (Nat.le_refl _) dX8_letter_38 ⟨_, rfl, Or.inl ⟨by omega, rfl, rfl⟩⟩

set_option maxHeartbeats 4000000 in
set_option maxRecDepth 100000 in
theorem c_X8_strip (l : Launch) (D : va_G) (cy : Nat → ClassId) (a : Nat → Nat) (L : List Nat) (c : Nat → Nat → Int32) (g : Nat → Nat → Int64) (r : Nat → Nat → Option Nat) (nl nk : Nat) (hL : zLv L nl nk) (hM : RM r) (d : Nat → Nat → Int32) (hI : CI d nl nk) (x : Nat → Nat → Nat) (hX : XL d nl x) (hK : LK d c nl nk x) (letter i bits : Int32) : zCI l yX8_strip wsX8_strip { frames := 2, cells := 0, slots := 0, locals := 46 } D cy a L c g r [Value.ref (a 300), Value.int letter, Value.int i, Value.int bits] (fun v c' => ((0 ≤ letter.toInt ∧ letter.toInt < (nl : Int) ∧ 0 ≤ i.toInt ∧ i.toInt < (nn d (100 + tn letter) 0 : Int) ∧ 0 ≤ bits.toInt ∧ bits.toInt ≤ 31) ∧ v = d (120 + tn letter) (tn i) ∧ c' = up2 c 306 (5 * tn letter + tn i) bits) ∨ (¬ (0 ≤ letter.toInt ∧ letter.toInt < (nl : Int) ∧ 0 ≤ i.toInt ∧ i.toInt < (nn d (100 + tn letter) 0 : Int) ∧ 0 ≤ bits.toInt ∧ bits.toInt ≤ 31) ∧ v = -2 ∧ c' = c)) := by
  refine z_enter cX8_strip 5 (some .int) (by decide) (Nat.le_of_ble_eq_true rfl) ?_
  intro p e s m below meth co C hin
  have C : zC p s m _ meth co D cy _ cX8_strip 5 (some .int) wsX8_strip RX8 := C
  have i8 : ∀ w ∈ wsX80, w ∈ wsX8_strip := by decide +kernel
  have h16 := CI_nl16 hI
  refine z_aload_n C dX8_strip_0 rfl (q := 0) rfl ?_
  refine z_iload_n C dX8_strip_1 rfl (q := 1) rfl ?_
  refine z_pI C (z_runV C (As := [Value.int letter]) (rest := []) (c_X8_isLetter l D cy a L c g r nl nk hL hM d hI x hX hK letter) (cwV 1 C.2.2.2.2.2.1 gX8_strip_X8_isLetter rfl rfl rfl (by decide +kernel) ⟨Nat.le_of_ble_eq_true rfl, Nat.le_of_ble_eq_true rfl⟩) (hL _ (by unfold live; omega)) (zF_k8 (by rfl)) rfl rfl rfl rfl (Nat.le_of_ble_eq_true rfl) dX8_strip_2 ⟨Nat.zero_le _, Nat.zero_le _⟩) (fun v2 e2 => ?_)
  rcases e2 with ⟨rfl, e2⟩ | ⟨rfl, e2⟩
  · obtain ⟨j, hj, rfl⟩ := arg_lt e2
    have tj := nI_toInt (n := j) (by omega)
    have uj := tn_nI (j := j) (by omega)
    have hwi := (CI_wi hI hj).2
    refine z_if_eq C dX8_strip_5 (tgt := 38) (by decide) (fun h5 => absurd h5 (by decide)) (fun h5 => ?_)
    refine z_iload_n C dX8_strip_8 rfl (q := 2) rfl ?_
    refine z_i2l C dX8_strip_9 (v := i.toInt64) rfl ?_
    refine z_lconst C dX8_strip_10 (v := 0) (by decide) ?_
    refine z_aload_n C dX8_strip_11 rfl (q := 0) rfl ?_
    refine zg_X8_width C (k := 300) (hL _ (by unfold live; omega)) (by rfl) i8 (by decide +kernel) (k' := 303) (RM_width hM) dX8_strip_12 ?_
    refine z_iload_n C dX8_strip_15 rfl (q := 1) rfl ?_
    refine z_iaload C (k := 303) (hL _ (by unfold live; omega)) (by rfl) (j := j) rfl (by rw [show ln 303 = 16 from rfl]; omega) (by rw [show ln 303 = 16 from rfl]; decide) (v := nI (nn d (100 + j) 0)) (LK_wi hK hI hj) dX8_strip_16 ?_
    refine z_iconst C dX8_strip_17 (v := 1) (by decide) ?_
    refine z_isub C dX8_strip_18 (v := (nI (nn d (100 + j) 0)) - 1) rfl ?_
    refine z_i2l C dX8_strip_19 (v := ((nI (nn d (100 + j) 0)) - 1).toInt64) rfl ?_
    refine z_pI C (z_runS C (As := [Value.long (i.toInt64), Value.long 0, Value.long (((nI (nn d (100 + j) 0)) - 1).toInt64)]) (rest := []) (c_X8_in l D cy a L c g r i.toInt64 0 (((nI (nn d (100 + j) 0)) - 1).toInt64) (V := i.toInt) (LO := 0) (HI := ((nn d (100 + j) 0 : Nat) : Int) - 1) (tL rfl) (show (0 : Int64).toInt = 0 from by decide) (tL (tI_pred (by omega)))) (va_cwS 3 C.2.2.2.2.2.1 gX8_strip_X8_in rfl rfl rfl (by decide +kernel) ⟨Nat.le_of_ble_eq_true rfl, Nat.le_of_ble_eq_true rfl⟩) rfl rfl (Nat.le_of_ble_eq_true rfl) dX8_strip_20 ⟨Nat.zero_le _, Nat.zero_le _⟩) (fun v20 e20 => ?_)
    rcases e20 with ⟨rfl, e20⟩ | ⟨rfl, e20⟩
    · refine z_if_eq C dX8_strip_23 (tgt := 38) (by decide) (fun h23 => absurd h23 (by decide)) (fun h23 => ?_)
      refine z_iload_n C dX8_strip_26 rfl (q := 3) rfl ?_
      refine z_i2l C dX8_strip_27 (v := bits.toInt64) rfl ?_
      refine z_lconst C dX8_strip_28 (v := 0) (by decide) ?_
      refine z_ldc2 C dX8_strip_29 (v := 31) (by decide +kernel) ?_
      refine z_pI C (z_runS C (As := [Value.long (bits.toInt64), Value.long 0, Value.long 31]) (rest := []) (c_X8_in l D cy a L c g r bits.toInt64 0 31 (V := bits.toInt) (LO := 0) (HI := 31) (tL rfl) (show (0 : Int64).toInt = 0 from by decide) (show (31 : Int64).toInt = 31 from by decide)) (va_cwS 3 C.2.2.2.2.2.1 gX8_strip_X8_in rfl rfl rfl (by decide +kernel) ⟨Nat.le_of_ble_eq_true rfl, Nat.le_of_ble_eq_true rfl⟩) rfl rfl (Nat.le_of_ble_eq_true rfl) dX8_strip_32 ⟨Nat.zero_le _, Nat.zero_le _⟩) (fun v32 e32 => ?_)
      rcases e32 with ⟨rfl, e32⟩ | ⟨rfl, e32⟩
      · obtain ⟨i1, hi1, rfl⟩ := arg_pr e20
        have ti1 := nI_toInt (n := i1) (by omega)
        have ui1 := tn_nI (j := i1) (by omega)
        refine z_if_ne C dX8_strip_35 (tgt := 41) (by decide) (fun h35 => ?_) (fun h35 => absurd h35 (by decide))
        refine z_aload_n C dX8_strip_41 rfl (q := 0) rfl ?_
        refine zg_X8_strips C (k := 300) (hL _ (by unfold live; omega)) (by rfl) i8 (by decide +kernel) (k' := 306) (RM_strips hM) dX8_strip_42 ?_
        refine z_iconst C dX8_strip_45 (v := 5) (by decide) ?_
        refine z_iload_n C dX8_strip_46 rfl (q := 1) rfl ?_
        refine z_imul C dX8_strip_47 (v := nI (5 * j)) (pk_mul 5 j) ?_
        refine z_iload_n C dX8_strip_48 rfl (q := 2) rfl ?_
        refine z_iadd C dX8_strip_49 (v := nI ((5 * j) + i1)) (nI_add (5 * j) i1) ?_
        refine z_iaload C (k := 306) (hL _ (by unfold live; omega)) (by rfl) (j := ((5 * j) + i1)) rfl (by rw [show ln 306 = 80 from rfl]; omega) (by rw [show ln 306 = 80 from rfl]; decide) (v := nI (nn d (120 + j) i1)) (LK_sp hK hI hj (by omega)) dX8_strip_50 ?_
        refine z_istore C dX8_strip_51 (by decide) (lv' := [(4, Value.int (nI (nn d (120 + j) i1))), (0, Value.ref (a 300)), (1, Value.int (nI j)), (2, Value.int (nI i1)), (3, Value.int bits)]) rfl ?_
        refine z_aload_n C dX8_strip_53 rfl (q := 1) rfl ?_
        refine zg_X8_strips C (k := 300) (hL _ (by unfold live; omega)) (by rfl) i8 (by decide +kernel) (k' := 306) (RM_strips hM) dX8_strip_54 ?_
        refine z_iconst C dX8_strip_57 (v := 5) (by decide) ?_
        refine z_iload_n C dX8_strip_58 rfl (q := 2) rfl ?_
        refine z_imul C dX8_strip_59 (v := nI (5 * j)) (pk_mul 5 j) ?_
        refine z_iload_n C dX8_strip_60 rfl (q := 3) rfl ?_
        refine z_iadd C dX8_strip_61 (v := nI ((5 * j) + i1)) (nI_add (5 * j) i1) ?_
        refine z_iload_n C dX8_strip_62 rfl (q := 4) rfl ?_
        refine z_iastore C (k := 306) (hL _ (by unfold live; omega)) (by rfl) (j := ((5 * j) + i1)) rfl (by rw [show ln 306 = 80 from rfl]; omega) (by rw [show ln 306 = 80 from rfl]; decide) dX8_strip_63 ?_
        refine z_iload C dX8_strip_64 (q := 0) rfl ?_
        exact z_iret C rfl (Nat.le_refl _) (Nat.le_refl _) dX8_strip_66 ⟨_, rfl, Or.inl ⟨by rw [uj]; omega, by rw [uj, ui1]; exact (CI_st hI hj (by omega)).1.symm, by rw [uj, ui1]⟩⟩
      · refine z_if_ne C dX8_strip_35 (tgt := 41) (by decide) (fun h35 => absurd h35 (by decide)) (fun h35 => ?_)
        refine z_bipush C dX8_strip_38 (v := -2) (by decide) ?_
        exact z_iret C rfl (Nat.le_refl _) (Nat.le_refl _) dX8_strip_40 ⟨_, rfl, Or.inr ⟨by rw [uj]; omega, rfl, rfl⟩⟩
    · refine z_if_eq C dX8_strip_23 (tgt := 38) (by decide) (fun h23 => ?_) (fun h23 => absurd h23 (by decide))
      refine z_bipush C dX8_strip_38 (v := -2) (by decide) ?_
      exact z_iret C rfl (Nat.le_refl _) (Nat.le_refl _) dX8_strip_40 ⟨_, rfl, Or.inr ⟨by rw [uj]; omega, rfl, rfl⟩⟩
  · refine z_if_eq C dX8_strip_5 (tgt := 38) (by decide) (fun h5 => ?_) (fun h5 => absurd h5 (by decide))
    refine z_bipush C dX8_strip_38 (v := -2) (by decide) ?_
    exact z_iret C rfl (Nat.le_refl _) (Nat.le_refl _) dX8_strip_40 ⟨_, rfl, Or.inr ⟨by omega, rfl, rfl⟩⟩

set_option maxHeartbeats 4000000 in
set_option maxRecDepth 100000 in
theorem c_X8_about (l : Launch) (D : va_G) (cy : Nat → ClassId) (a : Nat → Nat) (L : List Nat) (c : Nat → Nat → Int32) (g : Nat → Nat → Int64) (r : Nat → Nat → Option Nat) (nl nk : Nat) (hL : zLv L nl nk) (hM : RM r) (d : Nat → Nat → Int32) (hI : CI d nl nk) (x : Nat → Nat → Nat) (hX : XL d nl x) (hK : LK d c nl nk x) (letter what : Int32) : zPI l yX8_about wsX8_about { frames := 2, cells := 0, slots := 0, locals := 46 } D cy a L c g r [Value.ref (a 300), Value.int letter, Value.int what] (fun v => v = aboutC d nl letter what) := by
  refine z_enter cX8_about 3 (some .int) (by decide) (Nat.le_of_ble_eq_true rfl) ?_
  intro p e s m below meth co C hin
  have C : zC p s m _ meth co D cy _ cX8_about 3 (some .int) wsX8_about RX8 := C
  have i8 : ∀ w ∈ wsX80, w ∈ wsX8_about := by decide +kernel
  have h16 := CI_nl16 hI
  refine z_aload_n C dX8_about_0 rfl (q := 0) rfl ?_
  refine z_iload_n C dX8_about_1 rfl (q := 1) rfl ?_
  refine z_pI C (z_runV C (As := [Value.int letter]) (rest := []) (c_X8_isLetter l D cy a L c g r nl nk hL hM d hI x hX hK letter) (cwV 1 C.2.2.2.2.2.1 gX8_about_X8_isLetter rfl rfl rfl (by decide +kernel) ⟨Nat.le_of_ble_eq_true rfl, Nat.le_of_ble_eq_true rfl⟩) (hL _ (by unfold live; omega)) (zF_k8 (by rfl)) rfl rfl rfl rfl (Nat.le_of_ble_eq_true rfl) dX8_about_2 ⟨Nat.zero_le _, Nat.zero_le _⟩) (fun v2 e2 => ?_)
  rcases e2 with ⟨rfl, e2⟩ | ⟨rfl, e2⟩
  · obtain ⟨j, hj, rfl⟩ := arg_lt e2
    have tj := nI_toInt (n := j) (by omega)
    have uj := tn_nI (j := j) (by omega)
    have hwi := (CI_wi hI hj).2
    refine z_if_ne C dX8_about_5 (tgt := 11) (by decide) (fun h5 => ?_) (fun h5 => absurd h5 (by decide))
    refine z_iload_n C dX8_about_11 rfl (q := 2) rfl ?_
    by_cases hs0 : what.toInt = 0
    · refine z_tableIn C dX8_about_12 (off := 28) (tgt := 40) (by omega) (by omega) (by rw [hs0]; rfl) (by decide) ?_
      refine z_aload_n C dX8_about_40 rfl (q := 0) rfl ?_
      refine zg_X8_width C (k := 300) (hL _ (by unfold live; omega)) (by rfl) i8 (by decide +kernel) (k' := 303) (RM_width hM) dX8_about_41 ?_
      refine z_iload_n C dX8_about_44 rfl (q := 1) rfl ?_
      refine z_iaload C (k := 303) (hL _ (by unfold live; omega)) (by rfl) (j := j) rfl (by rw [show ln 303 = 16 from rfl]; omega) (by rw [show ln 303 = 16 from rfl]; decide) (v := nI (nn d (100 + j) 0)) (LK_wi hK hI hj) dX8_about_45 ?_
      exact z_iret C rfl (Nat.le_refl _) (Nat.le_refl _) dX8_about_46 ⟨rfl, by rw [aboutC, if_pos (by omega), uj, if_pos (by omega)]; exact (CI_wi hI hj).1.symm⟩
    · skip
      by_cases hs1 : what.toInt = 1
      · refine z_tableIn C dX8_about_12 (off := 35) (tgt := 47) (by omega) (by omega) (by rw [hs1]; rfl) (by decide) ?_
        refine z_aload_n C dX8_about_47 rfl (q := 0) rfl ?_
        refine zg_X8_minutes C (k := 300) (hL _ (by unfold live; omega)) (by rfl) i8 (by decide +kernel) (k' := 304) (RM_minutes hM) dX8_about_48 ?_
        refine z_iload_n C dX8_about_51 rfl (q := 1) rfl ?_
        refine z_iaload C (k := 304) (hL _ (by unfold live; omega)) (by rfl) (j := j) rfl (by rw [show ln 304 = 16 from rfl]; omega) (by rw [show ln 304 = 16 from rfl]; decide) (v := nI (nn d (100 + j) 1)) (LK_mi hK hI hj) dX8_about_52 ?_
        exact z_iret C rfl (Nat.le_refl _) (Nat.le_refl _) dX8_about_53 ⟨rfl, by rw [aboutC, if_pos (by omega), uj, if_neg (by omega), if_pos (by omega)]; exact (CI_mi hI hj).1.symm⟩
      · skip
        by_cases hs2 : what.toInt = 2
        · refine z_tableIn C dX8_about_12 (off := 42) (tgt := 54) (by omega) (by omega) (by rw [hs2]; rfl) (by decide) ?_
          refine z_aload_n C dX8_about_54 rfl (q := 0) rfl ?_
          refine zg_X8_soft C (k := 300) (hL _ (by unfold live; omega)) (by rfl) i8 (by decide +kernel) (k' := 305) (RM_soft hM) dX8_about_55 ?_
          refine z_iload_n C dX8_about_58 rfl (q := 1) rfl ?_
          refine z_iaload C (k := 305) (hL _ (by unfold live; omega)) (by rfl) (j := j) rfl (by rw [show ln 305 = 16 from rfl]; omega) (by rw [show ln 305 = 16 from rfl]; decide) (v := nI (nn d (100 + j) 2)) (LK_so hK hI hj) dX8_about_59 ?_
          exact z_iret C rfl (Nat.le_refl _) (Nat.le_refl _) dX8_about_60 ⟨rfl, by rw [aboutC, if_pos (by omega), uj, if_neg (by omega), if_neg (by omega), if_pos (by omega)]; exact (CI_so hI hj).1.symm⟩
        · skip
          refine z_tableOut C dX8_about_12 (by omega) (tgt := 61) (by decide) ?_
          refine z_iload_n C dX8_about_61 rfl (q := 2) rfl ?_
          refine z_i2l C dX8_about_62 (v := what.toInt64) rfl ?_
          refine z_ldc2 C dX8_about_63 (v := 10) (by decide +kernel) ?_
          refine z_bipush C dX8_about_66 (v := 9) (by decide) ?_
          refine z_aload_n C dX8_about_68 rfl (q := 0) rfl ?_
          refine zg_X8_width C (k := 300) (hL _ (by unfold live; omega)) (by rfl) i8 (by decide +kernel) (k' := 303) (RM_width hM) dX8_about_69 ?_
          refine z_iload_n C dX8_about_72 rfl (q := 1) rfl ?_
          refine z_iaload C (k := 303) (hL _ (by unfold live; omega)) (by rfl) (j := j) rfl (by rw [show ln 303 = 16 from rfl]; omega) (by rw [show ln 303 = 16 from rfl]; decide) (v := nI (nn d (100 + j) 0)) (LK_wi hK hI hj) dX8_about_73 ?_
          refine z_iadd C dX8_about_74 (v := nI (9 + (nn d (100 + j) 0))) (nI_add 9 (nn d (100 + j) 0)) ?_
          refine z_i2l C dX8_about_75 (v := (nI (9 + (nn d (100 + j) 0))).toInt64) rfl ?_
          refine z_pI C (z_runS C (As := [Value.long (what.toInt64), Value.long 10, Value.long ((nI (9 + (nn d (100 + j) 0))).toInt64)]) (rest := []) (c_X8_in l D cy a L c g r what.toInt64 10 ((nI (9 + (nn d (100 + j) 0))).toInt64) (V := what.toInt) (LO := 10) (HI := ((9 + (nn d (100 + j) 0) : Nat) : Int)) (tL rfl) (show (10 : Int64).toInt = 10 from by decide) (tL (nI_toInt (by omega)))) (va_cwS 3 C.2.2.2.2.2.1 gX8_about_X8_in rfl rfl rfl (by decide +kernel) ⟨Nat.le_of_ble_eq_true rfl, Nat.le_of_ble_eq_true rfl⟩) rfl rfl (Nat.le_of_ble_eq_true rfl) dX8_about_76 ⟨Nat.zero_le _, Nat.zero_le _⟩) (fun v76 e76 => ?_)
          rcases e76 with ⟨rfl, e76⟩ | ⟨rfl, e76⟩
          · obtain ⟨wh, hwh, rfl⟩ := arg_nI (v := what) (b := 14) ⟨by omega, by omega⟩
            have twh := nI_toInt (n := wh) (by omega)
            have uwh := tn_nI (j := wh) (by omega)
            refine z_if_eq C dX8_about_79 (tgt := 98) (by decide) (fun h79 => absurd h79 (by decide)) (fun h79 => ?_)
            refine z_aload_n C dX8_about_82 rfl (q := 0) rfl ?_
            refine zg_X8_strips C (k := 300) (hL _ (by unfold live; omega)) (by rfl) i8 (by decide +kernel) (k' := 306) (RM_strips hM) dX8_about_83 ?_
            refine z_iconst C dX8_about_86 (v := 5) (by decide) ?_
            refine z_iload_n C dX8_about_87 rfl (q := 1) rfl ?_
            refine z_imul C dX8_about_88 (v := nI (5 * j)) (pk_mul 5 j) ?_
            refine z_iload_n C dX8_about_89 rfl (q := 2) rfl ?_
            refine z_iadd C dX8_about_90 (v := nI ((5 * j) + wh)) (nI_add (5 * j) wh) ?_
            refine z_bipush C dX8_about_91 (v := 10) (by decide) ?_
            refine z_isub C dX8_about_93 (v := nI (5 * j + (wh - 10))) (by rw [show (10 : Int32) = nI 10 from rfl, pk_sub (by omega)]; congr 1; omega) ?_
            refine z_iaload C (k := 306) (hL _ (by unfold live; omega)) (by rfl) (j := (5 * j + (wh - 10))) rfl (by rw [show ln 306 = 80 from rfl]; omega) (by rw [show ln 306 = 80 from rfl]; decide) (v := nI (nn d (120 + j) (wh - 10))) (LK_sp hK hI hj (by omega)) dX8_about_94 ?_
            refine z_goto C dX8_about_95 (tgt := 100) (by decide) ?_
            exact z_iret C rfl (Nat.le_refl _) (Nat.le_refl _) dX8_about_100 ⟨rfl, by rw [aboutC, if_pos (by omega), uj, if_neg (by omega), if_neg (by omega), if_neg (by omega), if_pos (by omega), uwh]; exact (CI_st hI hj (by omega)).1.symm⟩
          · refine z_if_eq C dX8_about_79 (tgt := 98) (by decide) (fun h79 => ?_) (fun h79 => absurd h79 (by decide))
            refine z_bipush C dX8_about_98 (v := -2) (by decide) ?_
            exact z_iret C rfl (Nat.le_refl _) (Nat.le_refl _) dX8_about_100 ⟨rfl, by rw [aboutC, if_pos (by omega), uj, if_neg (by omega), if_neg (by omega), if_neg (by omega), if_neg (by omega)]⟩
  · refine z_if_ne C dX8_about_5 (tgt := 11) (by decide) (fun h5 => absurd h5 (by decide)) (fun h5 => ?_)
    refine z_bipush C dX8_about_8 (v := -2) (by decide) ?_
    exact z_iret C rfl (Nat.le_refl _) (Nat.le_refl _) dX8_about_10 ⟨rfl, by rw [aboutC, if_neg e2]⟩

set_option maxHeartbeats 4000000 in
set_option maxRecDepth 100000 in
theorem c_X8_spell (l : Launch) (D : va_G) (cy : Nat → ClassId) (a : Nat → Nat) (L : List Nat) (c : Nat → Nat → Int32) (g : Nat → Nat → Int64) (r : Nat → Nat → Option Nat) (nl nk : Nat) (hL : zLv L nl nk) (hM : RM r) (d : Nat → Nat → Int32) (hI : CI d nl nk) (x : Nat → Nat → Nat) (hX : XL d nl x) (hK : LK d c nl nk x) (word letter : Int32) : zCI l yX8_spell wsX8_spell { frames := 2, cells := 0, slots := 0, locals := 46 } D cy a L c g r [Value.ref (a 300), Value.int word, Value.int letter] (fun v c' => (¬ ((0 ≤ word.toInt ∧ word.toInt < 8) ∧ (0 ≤ letter.toInt ∧ letter.toInt < (nl : Int))) ∧ v = -2 ∧ c' = c) ∨ (((0 ≤ word.toInt ∧ word.toInt < 8) ∧ (0 ≤ letter.toInt ∧ letter.toInt < (nl : Int))) ∧ nn d (20 + tn word) 1 = 10 ∧ v = -4 ∧ c' = c) ∨ (((0 ≤ word.toInt ∧ word.toInt < 8) ∧ (0 ≤ letter.toInt ∧ letter.toInt < (nl : Int))) ∧ nn d (20 + tn word) 1 < 10 ∧ v = nI (nn d (20 + tn word) 1 + 1) ∧ c' = up2 (up2 c 308 (10 * tn word + nn d (20 + tn word) 1) letter) 307 (tn word) (nI (nn d (20 + tn word) 1 + 1)))) := by
  refine z_enter cX8_spell 3 (some .int) (by decide) (Nat.le_of_ble_eq_true rfl) ?_
  intro p e s m below meth co C hin
  have C : zC p s m _ meth co D cy _ cX8_spell 3 (some .int) wsX8_spell RX8 := C
  have i8 : ∀ w ∈ wsX80, w ∈ wsX8_spell := by decide +kernel
  have h16 := CI_nl16 hI
  refine z_iload_n C dX8_spell_0 rfl (q := 1) rfl ?_
  refine z_pI C (z_runS C (As := [Value.int word]) (rest := []) (c_X8_isWord l D cy a L c g r word) (va_cwS 1 C.2.2.2.2.2.1 gX8_spell_X8_isWord rfl rfl rfl (by decide +kernel) ⟨Nat.le_of_ble_eq_true rfl, Nat.le_of_ble_eq_true rfl⟩) rfl rfl (Nat.le_of_ble_eq_true rfl) dX8_spell_1 ⟨Nat.zero_le _, Nat.zero_le _⟩) (fun v1 e1 => ?_)
  rcases e1 with ⟨rfl, e1⟩ | ⟨rfl, e1⟩
  · obtain ⟨w, hw, rfl⟩ := arg_nI (b := 7) e1
    have tw := nI_toInt (n := w) (by omega)
    have uw := tn_nI (j := w) (by omega)
    have hz := (CI_sz hI hw).2
    refine z_if_eq C dX8_spell_4 (tgt := 15) (by decide) (fun h4 => absurd h4 (by decide)) (fun h4 => ?_)
    refine z_aload_n C dX8_spell_7 rfl (q := 0) rfl ?_
    refine z_iload_n C dX8_spell_8 rfl (q := 2) rfl ?_
    refine z_pI C (z_runV C (As := [Value.int letter]) (rest := []) (c_X8_isLetter l D cy a L c g r nl nk hL hM d hI x hX hK letter) (cwV 1 C.2.2.2.2.2.1 gX8_spell_X8_isLetter rfl rfl rfl (by decide +kernel) ⟨Nat.le_of_ble_eq_true rfl, Nat.le_of_ble_eq_true rfl⟩) (hL _ (by unfold live; omega)) (zF_k8 (by rfl)) rfl rfl rfl rfl (Nat.le_of_ble_eq_true rfl) dX8_spell_9 ⟨Nat.zero_le _, Nat.zero_le _⟩) (fun v9 e9 => ?_)
    rcases e9 with ⟨rfl, e9⟩ | ⟨rfl, e9⟩
    · refine z_if_ne C dX8_spell_12 (tgt := 18) (by decide) (fun h12 => ?_) (fun h12 => absurd h12 (by decide))
      refine z_aload_n C dX8_spell_18 rfl (q := 0) rfl ?_
      refine zg_X8_spelled C (k := 300) (hL _ (by unfold live; omega)) (by rfl) i8 (by decide +kernel) (k' := 307) (RM_spelled hM) dX8_spell_19 ?_
      refine z_iload_n C dX8_spell_22 rfl (q := 1) rfl ?_
      refine z_iaload C (k := 307) (hL _ (by unfold live; omega)) (by rfl) (j := w) rfl (by rw [show ln 307 = 8 from rfl]; omega) (by rw [show ln 307 = 8 from rfl]; decide) (v := nI (nn d (20 + w) 1)) (LK_sz hK hI hw) dX8_spell_23 ?_
      refine z_bipush C dX8_spell_24 (v := 10) (by decide) ?_
      refine z_icmp_ne C dX8_spell_26 (tgt := 32) (by decide) (fun h26 => ?_) (fun h26 => ?_)
      · have q26 := iv_ne (nI_toInt (by omega)) (show (10 : Int32).toInt = 10 from by decide) h26
        refine z_aload_n C dX8_spell_32 rfl (q := 0) rfl ?_
        refine zg_X8_words C (k := 300) (hL _ (by unfold live; omega)) (by rfl) i8 (by decide +kernel) (k' := 308) (RM_words hM) dX8_spell_33 ?_
        refine z_bipush C dX8_spell_36 (v := 10) (by decide) ?_
        refine z_iload_n C dX8_spell_38 rfl (q := 1) rfl ?_
        refine z_imul C dX8_spell_39 (v := nI (10 * w)) (pk_mul 10 w) ?_
        refine z_aload_n C dX8_spell_40 rfl (q := 0) rfl ?_
        refine zg_X8_spelled C (k := 300) (hL _ (by unfold live; omega)) (by rfl) i8 (by decide +kernel) (k' := 307) (RM_spelled hM) dX8_spell_41 ?_
        refine z_iload_n C dX8_spell_44 rfl (q := 1) rfl ?_
        refine z_iaload C (k := 307) (hL _ (by unfold live; omega)) (by rfl) (j := w) rfl (by rw [show ln 307 = 8 from rfl]; omega) (by rw [show ln 307 = 8 from rfl]; decide) (v := nI (nn d (20 + w) 1)) (LK_sz hK hI hw) dX8_spell_45 ?_
        refine z_iadd C dX8_spell_46 (v := nI ((10 * w) + (nn d (20 + w) 1))) (nI_add (10 * w) (nn d (20 + w) 1)) ?_
        refine z_iload_n C dX8_spell_47 rfl (q := 2) rfl ?_
        refine z_iastore C (k := 308) (hL _ (by unfold live; omega)) (by rfl) (j := ((10 * w) + (nn d (20 + w) 1))) rfl (by rw [show ln 308 = 80 from rfl]; omega) (by rw [show ln 308 = 80 from rfl]; decide) dX8_spell_48 ?_
        refine z_aload_n C dX8_spell_49 rfl (q := 0) rfl ?_
        refine zg_X8_spelled C (k := 300) (hL _ (by unfold live; omega)) (by rfl) i8 (by decide +kernel) (k' := 307) (RM_spelled hM) dX8_spell_50 ?_
        refine z_iload_n C dX8_spell_53 rfl (q := 1) rfl ?_
        refine z_dup2 C dX8_spell_54 rfl rfl ?_
        refine z_iaload C (k := 307) (hL _ (by unfold live; omega)) (by rfl) (j := w) rfl (by rw [show ln 307 = 8 from rfl]; omega) (by rw [show ln 307 = 8 from rfl]; decide) (v := nI (nn d (20 + w) 1)) (by rw [up2_k _ _ _ _ (by decide)]; exact LK_sz hK hI hw) dX8_spell_55 ?_
        refine z_iconst C dX8_spell_56 (v := 1) (by decide) ?_
        refine z_iadd C dX8_spell_57 (v := nI ((nn d (20 + w) 1) + 1)) (nI_add (nn d (20 + w) 1) 1) ?_
        refine z_iastore C (k := 307) (hL _ (by unfold live; omega)) (by rfl) (j := w) rfl (by rw [show ln 307 = 8 from rfl]; omega) (by rw [show ln 307 = 8 from rfl]; decide) dX8_spell_58 ?_
        refine z_aload_n C dX8_spell_59 rfl (q := 0) rfl ?_
        refine zg_X8_spelled C (k := 300) (hL _ (by unfold live; omega)) (by rfl) i8 (by decide +kernel) (k' := 307) (RM_spelled hM) dX8_spell_60 ?_
        refine z_iload_n C dX8_spell_63 rfl (q := 1) rfl ?_
        refine z_iaload C (k := 307) (hL _ (by unfold live; omega)) (by rfl) (j := w) rfl (by rw [show ln 307 = 8 from rfl]; omega) (by rw [show ln 307 = 8 from rfl]; decide) (v := nI (nn d (20 + w) 1 + 1)) (by simp [up2]) dX8_spell_64 ?_
        exact z_iret C rfl (Nat.le_refl _) (Nat.le_refl _) dX8_spell_65 ⟨_, rfl, Or.inr (Or.inr ⟨by omega, by rw [uw]; omega, by rw [uw], by rw [uw]⟩)⟩
      · have q26 := iv_eq (nI_toInt (by omega)) (show (10 : Int32).toInt = 10 from by decide) h26
        refine z_bipush C dX8_spell_29 (v := -4) (by decide) ?_
        exact z_iret C rfl (Nat.le_refl _) (Nat.le_refl _) dX8_spell_31 ⟨_, rfl, Or.inr (Or.inl ⟨by omega, by rw [uw]; omega, rfl, rfl⟩)⟩
    · refine z_if_ne C dX8_spell_12 (tgt := 18) (by decide) (fun h12 => absurd h12 (by decide)) (fun h12 => ?_)
      refine z_bipush C dX8_spell_15 (v := -2) (by decide) ?_
      exact z_iret C rfl (Nat.le_refl _) (Nat.le_refl _) dX8_spell_17 ⟨_, rfl, Or.inl ⟨by omega, rfl, rfl⟩⟩
  · refine z_if_eq C dX8_spell_4 (tgt := 15) (by decide) (fun h4 => ?_) (fun h4 => absurd h4 (by decide))
    refine z_bipush C dX8_spell_15 (v := -2) (by decide) ?_
    exact z_iret C rfl (Nat.le_refl _) (Nat.le_refl _) dX8_spell_17 ⟨_, rfl, Or.inl ⟨by omega, rfl, rfl⟩⟩

set_option maxHeartbeats 4000000 in
set_option maxRecDepth 100000 in
theorem c_X8_wipe (l : Launch) (D : va_G) (cy : Nat → ClassId) (a : Nat → Nat) (L : List Nat) (c : Nat → Nat → Int32) (g : Nat → Nat → Int64) (r : Nat → Nat → Option Nat) (nl nk : Nat) (hL : zLv L nl nk) (hM : RM r) (d : Nat → Nat → Int32) (hI : CI d nl nk) (x : Nat → Nat → Nat) (hX : XL d nl x) (hK : LK d c nl nk x) (word : Int32) : zCI l yX8_wipe wsX8_wipe { frames := 2, cells := 0, slots := 0, locals := 45 } D cy a L c g r [Value.ref (a 300), Value.int word] (fun v c' => ((0 ≤ word.toInt ∧ word.toInt < 8) ∧ v = d (20 + tn word) 1 ∧ c' = up2 c 307 (tn word) (nI 0)) ∨ (¬ (0 ≤ word.toInt ∧ word.toInt < 8) ∧ v = -2 ∧ c' = c)) := by
  refine z_enter cX8_wipe 3 (some .int) (by decide) (Nat.le_of_ble_eq_true rfl) ?_
  intro p e s m below meth co C hin
  have C : zC p s m _ meth co D cy _ cX8_wipe 3 (some .int) wsX8_wipe RX8 := C
  have i8 : ∀ w ∈ wsX80, w ∈ wsX8_wipe := by decide +kernel
  refine z_iload_n C dX8_wipe_0 rfl (q := 1) rfl ?_
  refine z_pI C (z_runS C (As := [Value.int word]) (rest := []) (c_X8_isWord l D cy a L c g r word) (va_cwS 1 C.2.2.2.2.2.1 gX8_wipe_X8_isWord rfl rfl rfl (by decide +kernel) ⟨Nat.le_of_ble_eq_true rfl, Nat.le_of_ble_eq_true rfl⟩) rfl rfl (Nat.le_of_ble_eq_true rfl) dX8_wipe_1 ⟨Nat.zero_le _, Nat.zero_le _⟩) (fun v1 e1 => ?_)
  rcases e1 with ⟨rfl, e1⟩ | ⟨rfl, e1⟩
  · obtain ⟨w, hw, rfl⟩ := arg_nI (b := 7) e1
    have tw := nI_toInt (n := w) (by omega)
    have uw := tn_nI (j := w) (by omega)
    refine z_if_ne C dX8_wipe_4 (tgt := 10) (by decide) (fun h4 => ?_) (fun h4 => absurd h4 (by decide))
    refine z_aload_n C dX8_wipe_10 rfl (q := 0) rfl ?_
    refine zg_X8_spelled C (k := 300) (hL _ (by unfold live; omega)) (by rfl) i8 (by decide +kernel) (k' := 307) (RM_spelled hM) dX8_wipe_11 ?_
    refine z_iload_n C dX8_wipe_14 rfl (q := 1) rfl ?_
    refine z_iaload C (k := 307) (hL _ (by unfold live; omega)) (by rfl) (j := w) rfl (by rw [show ln 307 = 8 from rfl]; omega) (by rw [show ln 307 = 8 from rfl]; decide) (v := nI (nn d (20 + w) 1)) (LK_sz hK hI hw) dX8_wipe_15 ?_
    refine z_istore_n C dX8_wipe_16 rfl (by decide) (lv' := [(2, Value.int (nI (nn d (20 + w) 1))), (0, Value.ref (a 300)), (1, Value.int (nI w))]) rfl ?_
    refine z_aload_n C dX8_wipe_17 rfl (q := 1) rfl ?_
    refine zg_X8_spelled C (k := 300) (hL _ (by unfold live; omega)) (by rfl) i8 (by decide +kernel) (k' := 307) (RM_spelled hM) dX8_wipe_18 ?_
    refine z_iload_n C dX8_wipe_21 rfl (q := 2) rfl ?_
    refine z_iconst C dX8_wipe_22 (v := nI 0) (by decide) ?_
    refine z_iastore C (k := 307) (hL _ (by unfold live; omega)) (by rfl) (j := w) rfl (by rw [show ln 307 = 8 from rfl]; omega) (by rw [show ln 307 = 8 from rfl]; decide) dX8_wipe_23 ?_
    refine z_iload_n C dX8_wipe_24 rfl (q := 0) rfl ?_
    exact z_iret C rfl (Nat.le_refl _) (Nat.le_refl _) dX8_wipe_25 ⟨_, rfl, Or.inl ⟨by omega, by rw [uw]; exact (CI_sz hI hw).1.symm, by rw [uw]⟩⟩
  · refine z_if_ne C dX8_wipe_4 (tgt := 10) (by decide) (fun h4 => absurd h4 (by decide)) (fun h4 => ?_)
    refine z_bipush C dX8_wipe_7 (v := -2) (by decide) ?_
    exact z_iret C rfl (Nat.le_refl _) (Nat.le_refl _) dX8_wipe_9 ⟨_, rfl, Or.inr ⟨by omega, rfl, rfl⟩⟩

set_option maxHeartbeats 4000000 in
set_option maxRecDepth 100000 in
theorem c_X8_slots (l : Launch) (D : va_G) (cy : Nat → ClassId) (a : Nat → Nat) (L : List Nat) (c : Nat → Nat → Int32) (g : Nat → Nat → Int64) (r : Nat → Nat → Option Nat) (nl nk : Nat) (hL : zLv L nl nk) (hM : RM r) (d : Nat → Nat → Int32) (hI : CI d nl nk) (x : Nat → Nat → Nat) (hX : XL d nl x) (hK : LK d c nl nk x) (n : Int32) : zCI l yX8_slots wsX8_slots { frames := 1, cells := 0, slots := 0, locals := 25 } D cy a L c g r [Value.ref (a 300), Value.int n] (fun v c' => ((5 ≤ n.toInt ∧ n.toInt ≤ 60) ∧ v = d 3 1 ∧ c' = up2 c 300 8 n) ∨ (¬ (5 ≤ n.toInt ∧ n.toInt ≤ 60) ∧ v = -2 ∧ c' = c)) := by
  refine z_enter cX8_slots 3 (some .int) (by decide) (Nat.le_of_ble_eq_true rfl) ?_
  intro p e s m below meth co C hin
  have C : zC p s m _ meth co D cy _ cX8_slots 3 (some .int) wsX8_slots RX8 := C
  have i8 : ∀ w ∈ wsX80, w ∈ wsX8_slots := by decide +kernel
  refine z_iload_n C dX8_slots_0 rfl (q := 1) rfl ?_
  refine z_i2l C dX8_slots_1 (v := n.toInt64) rfl ?_
  refine z_ldc2 C dX8_slots_2 (v := 5) (by decide +kernel) ?_
  refine z_ldc2 C dX8_slots_5 (v := 60) (by decide +kernel) ?_
  refine z_pI C (z_runS C (As := [Value.long (n.toInt64), Value.long 5, Value.long 60]) (rest := []) (c_X8_in l D cy a L c g r n.toInt64 5 60 (V := n.toInt) (LO := 5) (HI := 60) (tL rfl) (show (5 : Int64).toInt = 5 from by decide) (show (60 : Int64).toInt = 60 from by decide)) (va_cwS 3 C.2.2.2.2.2.1 gX8_slots_X8_in rfl rfl rfl (by decide +kernel) ⟨Nat.le_of_ble_eq_true rfl, Nat.le_of_ble_eq_true rfl⟩) rfl rfl (Nat.le_of_ble_eq_true rfl) dX8_slots_8 ⟨Nat.zero_le _, Nat.zero_le _⟩) (fun v8 e8 => ?_)
  rcases e8 with ⟨rfl, e8⟩ | ⟨rfl, e8⟩
  · refine z_if_ne C dX8_slots_11 (tgt := 17) (by decide) (fun h11 => ?_) (fun h11 => absurd h11 (by decide))
    refine z_aload_n C dX8_slots_17 rfl (q := 0) rfl ?_
    refine zg_X8_slots C (k := 300) (hL _ (by unfold live; omega)) (by rfl) i8 (by decide +kernel) (v := nI (nn d 3 1)) (LK_S hK hI) dX8_slots_18 ?_
    refine z_istore_n C dX8_slots_21 rfl (by decide) (lv' := [(2, Value.int (nI (nn d 3 1))), (0, Value.ref (a 300)), (1, Value.int n)]) rfl ?_
    refine z_aload_n C dX8_slots_22 rfl (q := 1) rfl ?_
    refine z_iload_n C dX8_slots_23 rfl (q := 2) rfl ?_
    refine zp_X8_slots C (k := 300) (hL _ (by unfold live; omega)) (by rfl) i8 (by decide +kernel) dX8_slots_24 ?_
    refine z_iload_n C dX8_slots_27 rfl (q := 0) rfl ?_
    exact z_iret C rfl (Nat.le_refl _) (Nat.le_refl _) dX8_slots_28 ⟨_, rfl, Or.inl ⟨by omega, (CI_S hI).1.symm, rfl⟩⟩
  · refine z_if_ne C dX8_slots_11 (tgt := 17) (by decide) (fun h11 => absurd h11 (by decide)) (fun h11 => ?_)
    refine z_bipush C dX8_slots_14 (v := -2) (by decide) ?_
    exact z_iret C rfl (Nat.le_refl _) (Nat.le_refl _) dX8_slots_16 ⟨_, rfl, Or.inr ⟨by omega, rfl, rfl⟩⟩

set_option maxHeartbeats 4000000 in
set_option maxRecDepth 100000 in
theorem c_X8_gap (l : Launch) (D : va_G) (cy : Nat → ClassId) (a : Nat → Nat) (L : List Nat) (c : Nat → Nat → Int32) (g : Nat → Nat → Int64) (r : Nat → Nat → Option Nat) (nl nk : Nat) (hL : zLv L nl nk) (hM : RM r) (d : Nat → Nat → Int32) (hI : CI d nl nk) (x : Nat → Nat → Nat) (hX : XL d nl x) (hK : LK d c nl nk x) (n : Int32) : zCI l yX8_gap wsX8_gap { frames := 1, cells := 0, slots := 0, locals := 25 } D cy a L c g r [Value.ref (a 300), Value.int n] (fun v c' => ((0 ≤ n.toInt ∧ n.toInt ≤ 3) ∧ v = d 3 2 ∧ c' = up2 c 300 9 n) ∨ (¬ (0 ≤ n.toInt ∧ n.toInt ≤ 3) ∧ v = -2 ∧ c' = c)) := by
  refine z_enter cX8_gap 3 (some .int) (by decide) (Nat.le_of_ble_eq_true rfl) ?_
  intro p e s m below meth co C hin
  have C : zC p s m _ meth co D cy _ cX8_gap 3 (some .int) wsX8_gap RX8 := C
  have i8 : ∀ w ∈ wsX80, w ∈ wsX8_gap := by decide +kernel
  refine z_iload_n C dX8_gap_0 rfl (q := 1) rfl ?_
  refine z_i2l C dX8_gap_1 (v := n.toInt64) rfl ?_
  refine z_lconst C dX8_gap_2 (v := 0) (by decide) ?_
  refine z_ldc2 C dX8_gap_3 (v := 3) (by decide +kernel) ?_
  refine z_pI C (z_runS C (As := [Value.long (n.toInt64), Value.long 0, Value.long 3]) (rest := []) (c_X8_in l D cy a L c g r n.toInt64 0 3 (V := n.toInt) (LO := 0) (HI := 3) (tL rfl) (show (0 : Int64).toInt = 0 from by decide) (show (3 : Int64).toInt = 3 from by decide)) (va_cwS 3 C.2.2.2.2.2.1 gX8_gap_X8_in rfl rfl rfl (by decide +kernel) ⟨Nat.le_of_ble_eq_true rfl, Nat.le_of_ble_eq_true rfl⟩) rfl rfl (Nat.le_of_ble_eq_true rfl) dX8_gap_6 ⟨Nat.zero_le _, Nat.zero_le _⟩) (fun v6 e6 => ?_)
  rcases e6 with ⟨rfl, e6⟩ | ⟨rfl, e6⟩
  · refine z_if_ne C dX8_gap_9 (tgt := 15) (by decide) (fun h9 => ?_) (fun h9 => absurd h9 (by decide))
    refine z_aload_n C dX8_gap_15 rfl (q := 0) rfl ?_
    refine zg_X8_gap C (k := 300) (hL _ (by unfold live; omega)) (by rfl) i8 (by decide +kernel) (v := nI (nn d 3 2)) (LK_G hK hI) dX8_gap_16 ?_
    refine z_istore_n C dX8_gap_19 rfl (by decide) (lv' := [(2, Value.int (nI (nn d 3 2))), (0, Value.ref (a 300)), (1, Value.int n)]) rfl ?_
    refine z_aload_n C dX8_gap_20 rfl (q := 1) rfl ?_
    refine z_iload_n C dX8_gap_21 rfl (q := 2) rfl ?_
    refine zp_X8_gap C (k := 300) (hL _ (by unfold live; omega)) (by rfl) i8 (by decide +kernel) dX8_gap_22 ?_
    refine z_iload_n C dX8_gap_25 rfl (q := 0) rfl ?_
    exact z_iret C rfl (Nat.le_refl _) (Nat.le_refl _) dX8_gap_26 ⟨_, rfl, Or.inl ⟨by omega, (CI_G hI).1.symm, rfl⟩⟩
  · refine z_if_ne C dX8_gap_9 (tgt := 15) (by decide) (fun h9 => absurd h9 (by decide)) (fun h9 => ?_)
    refine z_bipush C dX8_gap_12 (v := -2) (by decide) ?_
    exact z_iret C rfl (Nat.le_refl _) (Nat.le_refl _) dX8_gap_14 ⟨_, rfl, Or.inr ⟨by omega, rfl, rfl⟩⟩

set_option maxHeartbeats 4000000 in
set_option maxRecDepth 100000 in
theorem c_X8_wide (l : Launch) (D : va_G) (cy : Nat → ClassId) (a : Nat → Nat) (L : List Nat) (c : Nat → Nat → Int32) (g : Nat → Nat → Int64) (r : Nat → Nat → Option Nat) (nl nk : Nat) (hL : zLv L nl nk) (hM : RM r) (d : Nat → Nat → Int32) (hI : CI d nl nk) (x : Nat → Nat → Nat) (hX : XL d nl x) (hK : LK d c nl nk x) (word : Int32) : zPI l yX8_wide wsX8_wide { frames := 2, cells := 0, slots := 0, locals := 45 } D cy a L c g r [Value.ref (a 300), Value.int word] (fun v => v = if 0 ≤ word.toInt ∧ word.toInt < 8 then nI (wideC d x (tn word)) else -2) := by
  refine z_enter cX8_wide 2 (some .int) (by decide) (Nat.le_of_ble_eq_true rfl) ?_
  intro p e s m below meth co C hin
  have C : zC p s m _ meth co D cy _ cX8_wide 2 (some .int) wsX8_wide RX8 := C
  refine z_iload_n C dX8_wide_0 rfl (q := 1) rfl ?_
  refine z_pI C (z_runS C (As := [Value.int word]) (rest := []) (c_X8_isWord l D cy a L c g r word) (va_cwS 1 C.2.2.2.2.2.1 gX8_wide_X8_isWord rfl rfl rfl (by decide +kernel) ⟨Nat.le_of_ble_eq_true rfl, Nat.le_of_ble_eq_true rfl⟩) rfl rfl (Nat.le_of_ble_eq_true rfl) dX8_wide_1 ⟨Nat.zero_le _, Nat.zero_le _⟩) (fun v1 e1 => ?_)
  rcases e1 with ⟨rfl, e1⟩ | ⟨rfl, e1⟩
  · obtain ⟨w, hw, rfl⟩ := arg_nI (b := 7) e1
    have tw := nI_toInt (n := w) (by omega)
    have uw := tn_nI (j := w) (by omega)
    refine z_if_eq C dX8_wide_4 (tgt := 15) (by decide) (fun h4 => absurd h4 (by decide)) (fun h4 => ?_)
    refine z_aload_n C dX8_wide_7 rfl (q := 0) rfl ?_
    refine z_iload_n C dX8_wide_8 rfl (q := 1) rfl ?_
    refine z_pI C (z_runV C (As := [Value.int (nI w)]) (rest := []) (c_X8_wideOf l D cy a L c g r nl nk hL hM d hI x hX hK w (by omega)) (cwV 1 C.2.2.2.2.2.1 gX8_wide_X8_wideOf rfl rfl rfl (by decide +kernel) ⟨Nat.le_of_ble_eq_true rfl, Nat.le_of_ble_eq_true rfl⟩) (hL _ (by unfold live; omega)) (zF_k8 (by rfl)) rfl rfl rfl rfl (Nat.le_of_ble_eq_true rfl) dX8_wide_9 ⟨Nat.zero_le _, Nat.zero_le _⟩) (fun v9 e9 => ?_)
    subst e9
    refine z_goto C dX8_wide_12 (tgt := 17) (by decide) ?_
    exact z_iret C rfl (Nat.le_refl _) (Nat.le_refl _) dX8_wide_17 ⟨rfl, by rw [if_pos (by omega), uw]⟩
  · refine z_if_eq C dX8_wide_4 (tgt := 15) (by decide) (fun h4 => ?_) (fun h4 => absurd h4 (by decide))
    refine z_bipush C dX8_wide_15 (v := -2) (by decide) ?_
    exact z_iret C rfl (Nat.le_refl _) (Nat.le_refl _) dX8_wide_17 ⟨rfl, by rw [if_neg (by omega)]⟩
