/-- the same but for the reference's laid slots -/
def off311 (c c' : Nat → Nat → Int32) : Prop := ∀ k, k ≠ 311 → c' k = c k
theorem off311_up (c : Nat → Nat → Int32) (f : Nat → Int32) : off311 c (up1 c 311 f) := fun k hk => up1_k c f hk
theorem off311_rf (c : Nat → Nat → Int32) : off311 c c := fun _ _ => rfl
theorem layD_le {d : Nat → Nat → Int32} {nl nk : Nat} (hI : CI d nl nk) {x : Nat → Nat → Nat} (hX : XL d nl x) {w : Nat} (hw : w < 8) (q : Nat) : layC d x w q ≤ 31 := layV_le (fun i hi k hk => (CI_st hI (hX w hw i hi) (by have := (CI_wi hI (hX w hw i hi)).2.2; omega)).2.2) q

set_option maxHeartbeats 4000000 in
set_option maxRecDepth 100000 in
theorem c_X8_cut (l : Launch) (D : va_G) (cy : Nat → ClassId) (a : Nat → Nat) (L : List Nat) (c : Nat → Nat → Int32) (g : Nat → Nat → Int64) (r : Nat → Nat → Option Nat) (nl nk : Nat) (hL : zLv L nl nk) (hM : RM r) (d : Nat → Nat → Int32) (hI : CI d nl nk) (x : Nat → Nat → Nat) (hX : XL d nl x) (hK : LK d c nl nk x) (word turn look i : Int32) : zCI l yX8_cut wsX8_cut { frames := 2, cells := 0, slots := 0, locals := 46 } D cy a L c g r [Value.ref (a 300), Value.int word, Value.int turn, Value.int look, Value.int i] (fun v c' => off311 c c' ∧ v = cutC d x word turn look i) := by
  refine z_enter cX8_cut 5 (some .int) (by decide) (Nat.le_of_ble_eq_true rfl) ?_
  intro p e s m below meth co C hin
  have C : zC p s m _ meth co D cy _ cX8_cut 5 (some .int) wsX8_cut RX8 := C
  have i8 : ∀ w ∈ wsX80, w ∈ wsX8_cut := by decide +kernel
  have hS0 := (CI_S hI).2
  refine z_iload_n C dX8_cut_0 rfl (q := 1) rfl ?_
  refine z_pI C (z_runS C (As := [Value.int word]) (rest := []) (c_X8_isWord l D cy a L c g r word) (va_cwS 1 C.2.2.2.2.2.1 gX8_cut_X8_isWord rfl rfl rfl (by decide +kernel) ⟨Nat.le_of_ble_eq_true rfl, Nat.le_of_ble_eq_true rfl⟩) rfl rfl (Nat.le_of_ble_eq_true rfl) dX8_cut_1 ⟨Nat.zero_le _, Nat.zero_le _⟩) (fun v1 e1 => ?_)
  rcases e1 with ⟨rfl, e1⟩ | ⟨rfl, e1⟩
  · obtain ⟨w, hw, rfl⟩ := arg_nI (b := 7) e1
    have tw := nI_toInt (n := w) (by omega)
    have uw := tn_nI (j := w) (by omega)
    have hS := (CI_S hI).2
    refine z_if_eq C dX8_cut_4 (tgt := 52) (by decide) (fun h4 => absurd h4 (by decide)) (fun h4 => ?_)
    refine z_iload_n C dX8_cut_7 rfl (q := 2) rfl ?_
    refine z_i2l C dX8_cut_8 (v := turn.toInt64) rfl ?_
    refine z_lconst C dX8_cut_9 (v := 0) (by decide) ?_
    refine z_aload_n C dX8_cut_10 rfl (q := 0) rfl ?_
    refine zg_X8_slots C (k := 300) (hL _ (by unfold live; omega)) (by rfl) i8 (by decide +kernel) (v := nI (nn d 3 1)) (LK_S hK hI) dX8_cut_11 ?_
    refine z_iconst C dX8_cut_14 (v := 1) (by decide) ?_
    refine z_isub C dX8_cut_15 (v := (nI (nn d 3 1)) - 1) rfl ?_
    refine z_i2l C dX8_cut_16 (v := ((nI (nn d 3 1)) - 1).toInt64) rfl ?_
    refine z_pI C (z_runS C (As := [Value.long (turn.toInt64), Value.long 0, Value.long (((nI (nn d 3 1)) - 1).toInt64)]) (rest := []) (c_X8_in l D cy a L c g r turn.toInt64 0 (((nI (nn d 3 1)) - 1).toInt64) (V := turn.toInt) (LO := 0) (HI := ((nn d 3 1 : Nat) : Int) - 1) (tL rfl) (show (0 : Int64).toInt = 0 from by decide) (tL (tI_pred (by omega)))) (va_cwS 3 C.2.2.2.2.2.1 gX8_cut_X8_in rfl rfl rfl (by decide +kernel) ⟨Nat.le_of_ble_eq_true rfl, Nat.le_of_ble_eq_true rfl⟩) rfl rfl (Nat.le_of_ble_eq_true rfl) dX8_cut_17 ⟨Nat.zero_le _, Nat.zero_le _⟩) (fun v17 e17 => ?_)
    rcases e17 with ⟨rfl, e17⟩ | ⟨rfl, e17⟩
    · obtain ⟨tr, htr, rfl⟩ := arg_pr e17
      have ttr := nI_toInt (n := tr) (by omega)
      have utr := tn_nI (j := tr) (by omega)
      refine z_if_eq C dX8_cut_20 (tgt := 52) (by decide) (fun h20 => absurd h20 (by decide)) (fun h20 => ?_)
      refine z_iload_n C dX8_cut_23 rfl (q := 3) rfl ?_
      refine z_i2l C dX8_cut_24 (v := look.toInt64) rfl ?_
      refine z_lconst C dX8_cut_25 (v := 0) (by decide) ?_
      refine z_ldc2 C dX8_cut_26 (v := 3) (by decide +kernel) ?_
      refine z_pI C (z_runS C (As := [Value.long (look.toInt64), Value.long 0, Value.long 3]) (rest := []) (c_X8_in l D cy a L c g r look.toInt64 0 3 (V := look.toInt) (LO := 0) (HI := 3) (tL rfl) (show (0 : Int64).toInt = 0 from by decide) (show (3 : Int64).toInt = 3 from by decide)) (va_cwS 3 C.2.2.2.2.2.1 gX8_cut_X8_in rfl rfl rfl (by decide +kernel) ⟨Nat.le_of_ble_eq_true rfl, Nat.le_of_ble_eq_true rfl⟩) rfl rfl (Nat.le_of_ble_eq_true rfl) dX8_cut_29 ⟨Nat.zero_le _, Nat.zero_le _⟩) (fun v29 e29 => ?_)
      rcases e29 with ⟨rfl, e29⟩ | ⟨rfl, e29⟩
      · obtain ⟨lk, hlk, rfl⟩ := arg_nI (b := 3) e29
        have tlk := nI_toInt (n := lk) (by omega)
        have ulk := tn_nI (j := lk) (by omega)
        refine z_if_eq C dX8_cut_32 (tgt := 52) (by decide) (fun h32 => absurd h32 (by decide)) (fun h32 => ?_)
        refine z_iload C dX8_cut_35 (q := 4) rfl ?_
        refine z_i2l C dX8_cut_37 (v := i.toInt64) rfl ?_
        refine z_lconst C dX8_cut_38 (v := 0) (by decide) ?_
        refine z_aload_n C dX8_cut_39 rfl (q := 0) rfl ?_
        refine zg_X8_slots C (k := 300) (hL _ (by unfold live; omega)) (by rfl) i8 (by decide +kernel) (v := nI (nn d 3 1)) (LK_S hK hI) dX8_cut_40 ?_
        refine z_iconst C dX8_cut_43 (v := 1) (by decide) ?_
        refine z_isub C dX8_cut_44 (v := (nI (nn d 3 1)) - 1) rfl ?_
        refine z_i2l C dX8_cut_45 (v := ((nI (nn d 3 1)) - 1).toInt64) rfl ?_
        refine z_pI C (z_runS C (As := [Value.long (i.toInt64), Value.long 0, Value.long (((nI (nn d 3 1)) - 1).toInt64)]) (rest := []) (c_X8_in l D cy a L c g r i.toInt64 0 (((nI (nn d 3 1)) - 1).toInt64) (V := i.toInt) (LO := 0) (HI := ((nn d 3 1 : Nat) : Int) - 1) (tL rfl) (show (0 : Int64).toInt = 0 from by decide) (tL (tI_pred (by omega)))) (va_cwS 3 C.2.2.2.2.2.1 gX8_cut_X8_in rfl rfl rfl (by decide +kernel) ⟨Nat.le_of_ble_eq_true rfl, Nat.le_of_ble_eq_true rfl⟩) rfl rfl (Nat.le_of_ble_eq_true rfl) dX8_cut_46 ⟨Nat.zero_le _, Nat.zero_le _⟩) (fun v46 e46 => ?_)
        rcases e46 with ⟨rfl, e46⟩ | ⟨rfl, e46⟩
        · obtain ⟨ii, hii, rfl⟩ := arg_pr e46
          have tii := nI_toInt (n := ii) (by omega)
          have uii := tn_nI (j := ii) (by omega)
          refine z_if_ne C dX8_cut_49 (tgt := 55) (by decide) (fun h49 => ?_) (fun h49 => absurd h49 (by decide))
          refine z_aload_n C dX8_cut_55 rfl (q := 0) rfl ?_
          refine z_iload_n C dX8_cut_56 rfl (q := 1) rfl ?_
          refine z_pI C (z_runV C (As := [Value.int (nI w)]) (rest := []) (c_X8_fits l D cy a L c g r nl nk hL hM d hI x hX hK w (by omega)) (cwV 1 C.2.2.2.2.2.1 gX8_cut_X8_fits rfl rfl rfl (by decide +kernel) ⟨Nat.le_of_ble_eq_true rfl, Nat.le_of_ble_eq_true rfl⟩) (hL _ (by unfold live; omega)) (zF_k8 (by rfl)) rfl rfl rfl rfl (Nat.le_of_ble_eq_true rfl) dX8_cut_57 ⟨Nat.zero_le _, Nat.zero_le _⟩) (fun v57 e57 => ?_)
          rcases e57 with ⟨rfl, e57⟩ | ⟨rfl, e57⟩
          · refine z_if_ne C dX8_cut_60 (tgt := 66) (by decide) (fun h60 => ?_) (fun h60 => absurd h60 (by decide))
            refine z_aload_n C dX8_cut_66 rfl (q := 0) rfl ?_
            refine z_iload_n C dX8_cut_67 rfl (q := 1) rfl ?_
            refine z_cV C (z_runV C (As := [Value.int (nI w)]) (rest := []) (c_X8_lay l D cy a L c g r nl nk hL hM d hI x hX hK w (by omega) (by omega)) (cwV 1 C.2.2.2.2.2.1 gX8_cut_X8_lay rfl rfl rfl (by decide +kernel) ⟨Nat.le_of_ble_eq_true rfl, Nat.le_of_ble_eq_true rfl⟩) (hL _ (by unfold live; omega)) (zF_k8 (by rfl)) rfl rfl rfl rfl (Nat.le_of_ble_eq_true rfl) dX8_cut_68 ⟨Nat.zero_le _, Nat.zero_le _⟩) (fun c68 e68 => ?_)
            subst e68
            have h4 : off311 c (up1 c 311 (fun q => if q < 60 then nI (layC d x w q) else c 311 q)) := off311_up c _
            have hy : ∀ q, q < 60 → (up1 c 311 (fun q => if q < 60 then nI (layC d x w q) else c 311 q)) 311 q = nI (layC d x w q) ∧ layC d x w q ≤ 31 := fun q hq => ⟨by rw [up1_self, if_pos hq], layD_le hI hX hw q⟩
            refine z_aload_n C dX8_cut_71 rfl (q := 0) rfl ?_
            refine z_iload_n C dX8_cut_72 rfl (q := 2) rfl ?_
            refine z_iload_n C dX8_cut_73 rfl (q := 3) rfl ?_
            refine z_iload C dX8_cut_74 (q := 4) rfl ?_
            refine z_pI C (z_runV C (As := [Value.int (nI tr), Value.int (nI lk), Value.int (nI ii)]) (rest := []) (c_X8_cutAt l D cy a L (up1 c 311 (fun q => if q < 60 then nI (layC d x w q) else c 311 q)) g r nl nk hL hM d hI x hX (LK_s (lks_row (by unfold lkr; omega) (by decide) _) hK) (layC d x w) hy tr lk ii (by omega) (by omega) (by omega)) (cwV 3 C.2.2.2.2.2.1 gX8_cut_X8_cutAt rfl rfl rfl (by decide +kernel) ⟨Nat.le_of_ble_eq_true rfl, Nat.le_of_ble_eq_true rfl⟩) (hL _ (by unfold live; omega)) (zF_k8 (by rfl)) rfl rfl rfl rfl (Nat.le_of_ble_eq_true rfl) dX8_cut_76 ⟨Nat.zero_le _, Nat.zero_le _⟩) (fun v76 e76 => ?_)
            subst e76
            exact z_iret C rfl (Nat.le_refl _) (Nat.le_refl _) dX8_cut_79 ⟨_, rfl, h4, by rw [cutC, if_pos (by omega), uw, utr, ulk, uii, pick_pos (show fitC d x w from e57)]⟩
          · refine z_if_ne C dX8_cut_60 (tgt := 66) (by decide) (fun h60 => absurd h60 (by decide)) (fun h60 => ?_)
            refine z_bipush C dX8_cut_63 (v := -3) (by decide) ?_
            exact z_iret C rfl (Nat.le_refl _) (Nat.le_refl _) dX8_cut_65 ⟨_, rfl, off311_rf c, by rw [cutC, if_pos (by omega), uw, pick_neg (show ¬ fitC d x w from e57)]⟩
        · refine z_if_ne C dX8_cut_49 (tgt := 55) (by decide) (fun h49 => absurd h49 (by decide)) (fun h49 => ?_)
          refine z_bipush C dX8_cut_52 (v := -2) (by decide) ?_
          exact z_iret C rfl (Nat.le_refl _) (Nat.le_refl _) dX8_cut_54 ⟨_, rfl, off311_rf c, by rw [cutC, if_neg (by omega)]⟩
      · refine z_if_eq C dX8_cut_32 (tgt := 52) (by decide) (fun h32 => ?_) (fun h32 => absurd h32 (by decide))
        refine z_bipush C dX8_cut_52 (v := -2) (by decide) ?_
        exact z_iret C rfl (Nat.le_refl _) (Nat.le_refl _) dX8_cut_54 ⟨_, rfl, off311_rf c, by rw [cutC, if_neg (by omega)]⟩
    · refine z_if_eq C dX8_cut_20 (tgt := 52) (by decide) (fun h20 => ?_) (fun h20 => absurd h20 (by decide))
      refine z_bipush C dX8_cut_52 (v := -2) (by decide) ?_
      exact z_iret C rfl (Nat.le_refl _) (Nat.le_refl _) dX8_cut_54 ⟨_, rfl, off311_rf c, by rw [cutC, if_neg (by omega)]⟩
  · refine z_if_eq C dX8_cut_4 (tgt := 52) (by decide) (fun h4 => ?_) (fun h4 => absurd h4 (by decide))
    refine z_bipush C dX8_cut_52 (v := -2) (by decide) ?_
    exact z_iret C rfl (Nat.le_refl _) (Nat.le_refl _) dX8_cut_54 ⟨_, rfl, off311_rf c, by rw [cutC, if_neg (by omega)]⟩

set_option maxHeartbeats 4000000 in
set_option maxRecDepth 100000 in
theorem c_X8_isReading (l : Launch) (D : va_G) (cy : Nat → ClassId) (a : Nat → Nat) (L : List Nat) (c : Nat → Nat → Int32) (g : Nat → Nat → Int64) (r : Nat → Nat → Option Nat) (nl nk : Nat) (hL : zLv L nl nk) (hM : RM r) (d : Nat → Nat → Int32) (hI : CI d nl nk) (x : Nat → Nat → Nat) (hX : XL d nl x) (hK : LK d c nl nk x) (lay : Nat → Nat) (hy : ∀ q, q < 60 → c 311 q = nI (lay q) ∧ lay q ≤ 31) (sh : Nat) (hsh : sh < 4) (t lk : Nat) (ht : t < nn d 3 1) (hk : lk < 4) : zPI l yX8_isReading wsX8_isReading { frames := 2, cells := 0, slots := 0, locals := 46 } D cy a L c g r [Value.ref (a 300), Value.int (nI sh), Value.int (nI t), Value.int (nI lk)] (fun v => (v = 1 ∧ (agC d sh lay t lk)) ∨ (v = 0 ∧ ¬ (agC d sh lay t lk))) := by
  refine z_enter cX8_isReading 7 (some .boolean) (by decide) (Nat.le_of_ble_eq_true rfl) ?_
  intro p e s m below meth co C hin
  have C : zC p s m _ meth co D cy _ cX8_isReading 7 (some .boolean) wsX8_isReading RX8 := C
  have i8 : ∀ w ∈ wsX80, w ∈ wsX8_isReading := by decide +kernel
  have hs := (CI_S hI).2
  have hn := (CI_sh hI hsh).2.2.2
  refine z_iconst C dX8_isReading_0 (v := 1) (by decide) ?_
  refine z_istore C dX8_isReading_1 (by decide) (lv' := [(4, Value.int 1), (0, Value.ref (a 300)), (1, Value.int (nI sh)), (2, Value.int (nI t)), (3, Value.int (nI lk))]) rfl ?_
  refine z_iconst C dX8_isReading_3 (v := nI 0) (by decide) ?_
  refine z_istore C dX8_isReading_4 (by decide) (lv' := [(5, Value.int (nI 0)), (4, Value.int 1), (0, Value.ref (a 300)), (1, Value.int (nI sh)), (2, Value.int (nI t)), (3, Value.int (nI lk))]) rfl ?_
  refine z_forP (fun i => ∀ j, j < i → okI (d (50 + sh) j) (seenV (nn d 3 1) lay t lk j)) 0 ((min (nn d 3 1) (nn d (40 + sh) 3))) (Nat.zero_le _) (fun i => [(5, Value.int (nI i)), (4, Value.int 1), (0, Value.ref (a 300)), (1, Value.int (nI sh)), (2, Value.int (nI t)), (3, Value.int (nI lk))]) (fun i => c) (fun i => g) ?_ ?_ (fun j h => absurd h (Nat.not_lt_zero j))
  · intro hvi
    refine z_iload C dX8_isReading_6 (q := 0) rfl ?_
    refine z_aload_n C dX8_isReading_8 rfl (q := 2) rfl ?_
    refine zg_X8_slots C (k := 300) (hL _ (by unfold live; omega)) (by rfl) i8 (by decide +kernel) (v := nI (nn d 3 1)) (LK_S hK hI) dX8_isReading_9 ?_
    refine z_icmp_ge C dX8_isReading_12 (tgt := 84) (by decide) (fun h12 => ?_) (fun h12 => ?_)
    · have q12 := iv_le (nI_toInt (by omega)) (nI_toInt (by omega)) h12
      refine z_iload C dX8_isReading_84 (q := 1) rfl ?_
      exact z_zret C rfl (Nat.le_refl _) (Nat.le_refl _) dX8_isReading_86 rfl ⟨rfl, Or.inl ⟨rfl, hvi⟩⟩
    · have q12 := iv_nle (nI_toInt (by omega)) (nI_toInt (by omega)) h12
      refine z_iload C dX8_isReading_15 (q := 0) rfl ?_
      refine z_aload_n C dX8_isReading_17 rfl (q := 2) rfl ?_
      refine zg_X8_sizes C (k := 300) (hL _ (by unfold live; omega)) (by rfl) i8 (by decide +kernel) (k' := 325) (RM_sizes hM) dX8_isReading_18 ?_
      refine z_iload_n C dX8_isReading_21 rfl (q := 3) rfl ?_
      refine z_iaload C (k := 325) (hL _ (by unfold live; omega)) (by rfl) (j := sh) rfl (by rw [show ln 325 = 4 from rfl]; omega) (by rw [show ln 325 = 4 from rfl]; decide) (v := nI (nn d (40 + sh) 3)) (LK_si hK hI hsh) dX8_isReading_22 ?_
      refine z_icmp_ge C dX8_isReading_23 (tgt := 84) (by decide) (fun h23 => ?_) (fun h23 => absurd (nI_le (by omega) (by omega)) h23)
      refine z_iload C dX8_isReading_84 (q := 1) rfl ?_
      exact z_zret C rfl (Nat.le_refl _) (Nat.le_refl _) dX8_isReading_86 rfl ⟨rfl, Or.inl ⟨rfl, hvi⟩⟩
  · intro i hli hi hvi ihi
    refine z_iload C dX8_isReading_6 (q := 0) rfl ?_
    refine z_aload_n C dX8_isReading_8 rfl (q := 2) rfl ?_
    refine zg_X8_slots C (k := 300) (hL _ (by unfold live; omega)) (by rfl) i8 (by decide +kernel) (v := nI (nn d 3 1)) (LK_S hK hI) dX8_isReading_9 ?_
    refine z_icmp_ge C dX8_isReading_12 (tgt := 84) (by decide) (fun h12 => absurd h12 (nI_ge (by omega) (by omega))) (fun h12 => ?_)
    refine z_iload C dX8_isReading_15 (q := 0) rfl ?_
    refine z_aload_n C dX8_isReading_17 rfl (q := 2) rfl ?_
    refine zg_X8_sizes C (k := 300) (hL _ (by unfold live; omega)) (by rfl) i8 (by decide +kernel) (k' := 325) (RM_sizes hM) dX8_isReading_18 ?_
    refine z_iload_n C dX8_isReading_21 rfl (q := 3) rfl ?_
    refine z_iaload C (k := 325) (hL _ (by unfold live; omega)) (by rfl) (j := sh) rfl (by rw [show ln 325 = 4 from rfl]; omega) (by rw [show ln 325 = 4 from rfl]; decide) (v := nI (nn d (40 + sh) 3)) (LK_si hK hI hsh) dX8_isReading_22 ?_
    refine z_icmp_ge C dX8_isReading_23 (tgt := 84) (by decide) (fun h23 => absurd h23 (nI_ge (by omega) (by omega))) (fun h23 => ?_)
    refine z_iload C dX8_isReading_26 (q := 1) rfl ?_
    refine z_if_eq C dX8_isReading_28 (tgt := 84) (by decide) (fun h28 => absurd h28 (by decide)) (fun h28 => ?_)
    refine z_aload_n C dX8_isReading_31 rfl (q := 2) rfl ?_
    refine zg_X8_items C (k := 300) (hL _ (by unfold live; omega)) (by rfl) i8 (by decide +kernel) (k' := 326) (RM_items hM) dX8_isReading_32 ?_
    refine z_bipush C dX8_isReading_35 (v := 60) (by decide) ?_
    refine z_iload_n C dX8_isReading_37 rfl (q := 3) rfl ?_
    refine z_imul C dX8_isReading_38 (v := nI (60 * sh)) (pk_mul 60 sh) ?_
    refine z_iload C dX8_isReading_39 (q := 0) rfl ?_
    refine z_iadd C dX8_isReading_41 (v := nI ((60 * sh) + i)) (nI_add (60 * sh) i) ?_
    refine z_iaload C (k := 326) (hL _ (by unfold live; omega)) (by rfl) (j := ((60 * sh) + i)) rfl (by rw [show ln 326 = 240 from rfl]; omega) (by rw [show ln 326 = 240 from rfl]; decide) (v := d (50 + sh) i) (LK_it hK hsh (by omega)) dX8_isReading_42 ?_
    refine z_istore C dX8_isReading_43 (by decide) (lv' := [(6, Value.int (d (50 + sh) i)), (5, Value.int (nI i)), (4, Value.int 1), (0, Value.ref (a 300)), (1, Value.int (nI sh)), (2, Value.int (nI t)), (3, Value.int (nI lk))]) rfl ?_
    refine z_iload C dX8_isReading_45 (q := 0) rfl ?_
    refine z_i2l C dX8_isReading_47 (v := (d (50 + sh) i).toInt64) rfl ?_
    refine z_lconst C dX8_isReading_48 (v := 0) (by decide) ?_
    refine z_ldc2 C dX8_isReading_49 (v := 31) (by decide +kernel) ?_
    refine z_pI C (z_runS C (As := [Value.long ((d (50 + sh) i).toInt64), Value.long 0, Value.long 31]) (rest := []) (c_X8_in l D cy a L c g r ((d (50 + sh) i).toInt64) 0 31 (V := (d (50 + sh) i).toInt) (LO := 0) (HI := 31) (tL rfl) (show (0 : Int64).toInt = 0 from by decide) (show (31 : Int64).toInt = 31 from by decide)) (va_cwS 3 C.2.2.2.2.2.1 gX8_isReading_X8_in rfl rfl rfl (by decide +kernel) ⟨Nat.le_of_ble_eq_true rfl, Nat.le_of_ble_eq_true rfl⟩) rfl rfl (Nat.le_of_ble_eq_true rfl) dX8_isReading_52 ⟨Nat.zero_le _, Nat.zero_le _⟩) (fun v52 e52 => ?_)
    rcases e52 with ⟨rfl, e52⟩ | ⟨rfl, e52⟩
    · refine z_if_eq C dX8_isReading_55 (tgt := 71) (by decide) (fun h55 => absurd h55 (by decide)) (fun h55 => ?_)
      refine z_iload C dX8_isReading_58 (q := 0) rfl ?_
      refine z_aload_n C dX8_isReading_60 rfl (q := 3) rfl ?_
      refine z_iload_n C dX8_isReading_61 rfl (q := 5) rfl ?_
      refine z_iload_n C dX8_isReading_62 rfl (q := 6) rfl ?_
      refine z_iload C dX8_isReading_63 (q := 1) rfl ?_
      refine z_pI C (z_runV C (As := [Value.int (nI t), Value.int (nI lk), Value.int (nI i)]) (rest := [Value.int (d (50 + sh) i)]) (c_X8_cutAt l D cy a L c g r nl nk hL hM d hI x hX hK lay hy t lk i (by omega) (by omega) (by omega)) (cwV 3 C.2.2.2.2.2.1 gX8_isReading_X8_cutAt rfl rfl rfl (by decide +kernel) ⟨Nat.le_of_ble_eq_true rfl, Nat.le_of_ble_eq_true rfl⟩) (hL _ (by unfold live; omega)) (zF_k8 (by rfl)) rfl rfl rfl rfl (Nat.le_of_ble_eq_true rfl) dX8_isReading_65 ⟨Nat.zero_le _, Nat.zero_le _⟩) (fun v65 e65 => ?_)
      subst e65
      refine z_icmp_ne C dX8_isReading_68 (tgt := 75) (by decide) (fun h68 => ?_) (fun h68 => ?_)
      · refine z_iconst C dX8_isReading_75 (v := 0) (by decide) ?_
        refine z_istore C dX8_isReading_76 (by decide) (lv' := [(4, Value.int 0), (6, Value.int (d (50 + sh) i)), (5, Value.int (nI i)), (0, Value.ref (a 300)), (1, Value.int (nI sh)), (2, Value.int (nI t)), (3, Value.int (nI lk))]) rfl ?_
        refine z_iinc C dX8_isReading_78 (q := 2) rfl (v := nI (i + 1)) (nI_1 _) (by decide) (lv' := [(5, Value.int (nI (i + 1))), (4, Value.int 0), (6, Value.int (d (50 + sh) i)), (0, Value.ref (a 300)), (1, Value.int (nI sh)), (2, Value.int (nI t)), (3, Value.int (nI lk))]) rfl ?_
        refine z_goto C dX8_isReading_81 (tgt := 6) (by decide) ?_
        refine z_iload C dX8_isReading_6 (q := 0) rfl ?_
        refine z_aload_n C dX8_isReading_8 rfl (q := 3) rfl ?_
        refine zg_X8_slots C (k := 300) (hL _ (by unfold live; omega)) (by rfl) i8 (by decide +kernel) (v := nI (nn d 3 1)) (LK_S hK hI) dX8_isReading_9 ?_
        refine z_icmp_ge C dX8_isReading_12 (tgt := 84) (by decide) (fun h12 => ?_) (fun h12 => ?_)
        · have q12 := iv_le (nI_toInt (by omega)) (nI_toInt (by omega)) h12
          refine z_iload C dX8_isReading_84 (q := 1) rfl ?_
          exact z_zret C rfl (Nat.le_refl _) (Nat.le_refl _) dX8_isReading_86 rfl ⟨rfl, Or.inr ⟨rfl, fun hall => h68 (by have h9 := hall i hi; exact h9 e52)⟩⟩
        · have q12 := iv_nle (nI_toInt (by omega)) (nI_toInt (by omega)) h12
          refine z_iload C dX8_isReading_15 (q := 0) rfl ?_
          refine z_aload_n C dX8_isReading_17 rfl (q := 3) rfl ?_
          refine zg_X8_sizes C (k := 300) (hL _ (by unfold live; omega)) (by rfl) i8 (by decide +kernel) (k' := 325) (RM_sizes hM) dX8_isReading_18 ?_
          refine z_iload_n C dX8_isReading_21 rfl (q := 4) rfl ?_
          refine z_iaload C (k := 325) (hL _ (by unfold live; omega)) (by rfl) (j := sh) rfl (by rw [show ln 325 = 4 from rfl]; omega) (by rw [show ln 325 = 4 from rfl]; decide) (v := nI (nn d (40 + sh) 3)) (LK_si hK hI hsh) dX8_isReading_22 ?_
          refine z_icmp_ge C dX8_isReading_23 (tgt := 84) (by decide) (fun h23 => ?_) (fun h23 => ?_)
          · have q23 := iv_le (nI_toInt (by omega)) (nI_toInt (by omega)) h23
            refine z_iload C dX8_isReading_84 (q := 1) rfl ?_
            exact z_zret C rfl (Nat.le_refl _) (Nat.le_refl _) dX8_isReading_86 rfl ⟨rfl, Or.inr ⟨rfl, fun hall => h68 (by have h9 := hall i hi; exact h9 e52)⟩⟩
          · have q23 := iv_nle (nI_toInt (by omega)) (nI_toInt (by omega)) h23
            refine z_iload C dX8_isReading_26 (q := 1) rfl ?_
            refine z_if_eq C dX8_isReading_28 (tgt := 84) (by decide) (fun h28 => ?_) (fun h28 => absurd h28 (by decide))
            refine z_iload C dX8_isReading_84 (q := 1) rfl ?_
            exact z_zret C rfl (Nat.le_refl _) (Nat.le_refl _) dX8_isReading_86 rfl ⟨rfl, Or.inr ⟨rfl, fun hall => h68 (by have h9 := hall i hi; exact h9 e52)⟩⟩
      · refine z_iconst C dX8_isReading_71 (v := 1) (by decide) ?_
        refine z_goto C dX8_isReading_72 (tgt := 76) (by decide) ?_
        refine z_istore C dX8_isReading_76 (by decide) (lv' := [(4, Value.int 1), (6, Value.int (d (50 + sh) i)), (5, Value.int (nI i)), (0, Value.ref (a 300)), (1, Value.int (nI sh)), (2, Value.int (nI t)), (3, Value.int (nI lk))]) rfl ?_
        refine z_iinc C dX8_isReading_78 (q := 2) rfl (v := nI (i + 1)) (nI_1 _) (by decide) (lv' := [(5, Value.int (nI (i + 1))), (4, Value.int 1), (6, Value.int (d (50 + sh) i)), (0, Value.ref (a 300)), (1, Value.int (nI sh)), (2, Value.int (nI t)), (3, Value.int (nI lk))]) rfl ?_
        refine z_goto C dX8_isReading_81 (tgt := 6) (by decide) ?_
        refine z_sub [0, 1, 3, 4, 5, 6] (lv' := [(5, Value.int (nI (i + 1))), (4, Value.int 1), (0, Value.ref (a 300)), (1, Value.int (nI sh)), (2, Value.int (nI t)), (3, Value.int (nI lk))]) rfl ?_
        exact ihi (lt_s hvi (fun _ => h68))
    · refine z_if_eq C dX8_isReading_55 (tgt := 71) (by decide) (fun h55 => ?_) (fun h55 => absurd h55 (by decide))
      refine z_iconst C dX8_isReading_71 (v := 1) (by decide) ?_
      refine z_goto C dX8_isReading_72 (tgt := 76) (by decide) ?_
      refine z_istore C dX8_isReading_76 (by decide) (lv' := [(4, Value.int 1), (6, Value.int (d (50 + sh) i)), (5, Value.int (nI i)), (0, Value.ref (a 300)), (1, Value.int (nI sh)), (2, Value.int (nI t)), (3, Value.int (nI lk))]) rfl ?_
      refine z_iinc C dX8_isReading_78 (q := 2) rfl (v := nI (i + 1)) (nI_1 _) (by decide) (lv' := [(5, Value.int (nI (i + 1))), (4, Value.int 1), (6, Value.int (d (50 + sh) i)), (0, Value.ref (a 300)), (1, Value.int (nI sh)), (2, Value.int (nI t)), (3, Value.int (nI lk))]) rfl ?_
      refine z_goto C dX8_isReading_81 (tgt := 6) (by decide) ?_
      refine z_sub [0, 1, 3, 4, 5, 6] (lv' := [(5, Value.int (nI (i + 1))), (4, Value.int 1), (0, Value.ref (a 300)), (1, Value.int (nI sh)), (2, Value.int (nI t)), (3, Value.int (nI lk))]) rfl ?_
      exact ihi (lt_s hvi (fun h => absurd h e52))

set_option maxHeartbeats 4000000 in
set_option maxRecDepth 100000 in
theorem c_X8_lacks (l : Launch) (D : va_G) (cy : Nat → ClassId) (a : Nat → Nat) (L : List Nat) (c : Nat → Nat → Int32) (g : Nat → Nat → Int64) (r : Nat → Nat → Option Nat) (nl nk : Nat) (hL : zLv L nl nk) (hM : RM r) (d : Nat → Nat → Int32) (hI : CI d nl nk) (x : Nat → Nat → Nat) (hX : XL d nl x) (hK : LK d c nl nk x) (sheet : Int32) : zCI l yX8_lacks wsX8_lacks { frames := 2, cells := 0, slots := 0, locals := 45 } D cy a L c g r [Value.ref (a 300), Value.int sheet] (fun v c' => (¬ (0 ≤ sheet.toInt ∧ sheet.toInt ≤ 3) ∧ v = -2 ∧ c' = c) ∨ ((0 ≤ sheet.toInt ∧ sheet.toInt ≤ 3) ∧ nn d (40 + tn sheet) 1 = 1 ∧ v = -11 ∧ c' = up2 c 300 27 1) ∨ ((0 ≤ sheet.toInt ∧ sheet.toInt ≤ 3) ∧ nn d (40 + tn sheet) 1 = 0 ∧ v = 0 ∧ c' = c)) := by
  refine z_enter cX8_lacks 2 (some .int) (by decide) (Nat.le_of_ble_eq_true rfl) ?_
  intro p e s m below meth co C hin
  have C : zC p s m _ meth co D cy _ cX8_lacks 2 (some .int) wsX8_lacks RX8 := C
  have i8 : ∀ w ∈ wsX80, w ∈ wsX8_lacks := by decide +kernel
  refine z_iload_n C dX8_lacks_0 rfl (q := 1) rfl ?_
  refine z_pI C (z_runS C (As := [Value.int sheet]) (rest := []) (c_X8_isSheet l D cy a L c g r sheet) (va_cwS 1 C.2.2.2.2.2.1 gX8_lacks_X8_isSheet rfl rfl rfl (by decide +kernel) ⟨Nat.le_of_ble_eq_true rfl, Nat.le_of_ble_eq_true rfl⟩) rfl rfl (Nat.le_of_ble_eq_true rfl) dX8_lacks_1 ⟨Nat.zero_le _, Nat.zero_le _⟩) (fun v1 e1 => ?_)
  rcases e1 with ⟨rfl, e1⟩ | ⟨rfl, e1⟩
  · obtain ⟨sh, hsh, rfl⟩ := arg_nI (b := 3) e1
    have tsh := nI_toInt (n := sh) (by omega)
    have ush := tn_nI (j := sh) (by omega)
    refine z_if_ne C dX8_lacks_4 (tgt := 12) (by decide) (fun h4 => ?_) (fun h4 => absurd h4 (by decide))
    refine z_aload_n C dX8_lacks_12 rfl (q := 0) rfl ?_
    refine zg_X8_forms C (k := 300) (hL _ (by unfold live; omega)) (by rfl) i8 (by decide +kernel) (k' := 324) (RM_forms hM) dX8_lacks_13 ?_
    refine z_iload_n C dX8_lacks_16 rfl (q := 1) rfl ?_
    have ho17 := (CI_sh hI (show sh < 4 by omega)).1.2
    have hf17 := (CI_sh hI (show sh < 4 by omega)).2.1.2
    have h0 : nn d (40 + sh) 1 = 1 ∨ nn d (40 + sh) 1 = 0 := by omega
    rcases h0 with h0 | h0
    · refine z_iaload C (k := 324) (hL _ (by unfold live; omega)) (by rfl) (j := sh) rfl (by rw [show ln 324 = 4 from rfl]; omega) (by decide) (v := -1) ((LK_fo hK (by omega)).trans (if_pos h0)) dX8_lacks_17 ?_
      refine z_if_ge C dX8_lacks_18 (tgt := 29) (by decide) (fun h18 => absurd h18 (by decide)) (fun h18 => ?_)
      refine z_aload_n C dX8_lacks_21 rfl (q := 0) rfl ?_
      refine z_iconst C dX8_lacks_22 (v := 1) (by decide) ?_
      refine z_cI C (z_runV C (As := [Value.int 1]) (rest := []) (c_X8_met l D cy a L c g r nl nk hL 1) (cwV 1 C.2.2.2.2.2.1 gX8_lacks_X8_met rfl rfl rfl (by decide +kernel) ⟨Nat.le_of_ble_eq_true rfl, Nat.le_of_ble_eq_true rfl⟩) (hL _ (by unfold live; omega)) (zF_k8 (by rfl)) rfl rfl rfl rfl (Nat.le_of_ble_eq_true rfl) dX8_lacks_23 ⟨Nat.zero_le _, Nat.zero_le _⟩) (fun v23 c23 e23 => ?_)
      obtain ⟨rfl, rfl⟩ := e23
      refine z_goto C dX8_lacks_26 (tgt := 30) (by decide) ?_
      exact z_iret C rfl (Nat.le_refl _) (Nat.le_refl _) dX8_lacks_30 ⟨_, rfl, Or.inr (Or.inl ⟨by omega, by rw [ush]; exact h0, by decide, rfl⟩)⟩
    · refine z_iaload C (k := 324) (hL _ (by unfold live; omega)) (by rfl) (j := sh) rfl (by rw [show ln 324 = 4 from rfl]; omega) (by decide) (v := nI (nn d (40 + sh) 2)) ((LK_fo hK (by omega)).trans ((if_neg (by omega)).trans (CI_sh hI (by omega)).2.1.1)) dX8_lacks_17 ?_
      refine z_if_ge C dX8_lacks_18 (tgt := 29) (by decide) (fun h18 => ?_) (fun h18 => absurd (nI_pos' (by omega)) h18)
      refine z_iconst C dX8_lacks_29 (v := 0) (by decide) ?_
      exact z_iret C rfl (Nat.le_refl _) (Nat.le_refl _) dX8_lacks_30 ⟨_, rfl, Or.inr (Or.inr ⟨by omega, by rw [ush]; exact h0, rfl, rfl⟩)⟩
  · refine z_if_ne C dX8_lacks_4 (tgt := 12) (by decide) (fun h4 => absurd h4 (by decide)) (fun h4 => ?_)
    refine z_bipush C dX8_lacks_7 (v := -2) (by decide) ?_
    refine z_goto C dX8_lacks_9 (tgt := 30) (by decide) ?_
    exact z_iret C rfl (Nat.le_refl _) (Nat.le_refl _) dX8_lacks_30 ⟨_, rfl, Or.inl ⟨e1, rfl, rfl⟩⟩
