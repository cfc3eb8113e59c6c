set_option maxHeartbeats 4000000 in
set_option maxRecDepth 100000 in
theorem c_X7_sticksOf (l : Launch) (D : va_G) (cy : Nat → ClassId) (a : Nat → Nat) (L : List Nat) (c : Nat → Nat → Int32) (g : Nat → Nat → Int64) (r : Nat → Nat → Option Nat) (nl nk : Nat) (hL : zLv L nl nk) (hR : RC r nl nk) (hI : CI c nl nk) (d : Nat) (hd : d ≤ 40000) : zPI l yX7_sticksOf wsX7_sticksOf { frames := 0, cells := 0, slots := 0, locals := 0 } D cy a L c g r [Value.ref (a 0), Value.int (nI d)] (fun v => v = nI ((d - 2 * nn c 5 1) / nn c 5 2)) := by
  refine z_enter cX7_sticksOf 4 (some .int) (by decide) (Nat.le_of_ble_eq_true rfl) ?_
  intro p e s m below meth co C hin
  have C : zC p s m _ meth co D cy _ cX7_sticksOf 4 (some .int) wsX7_sticksOf RX7 := C
  have i7 : ∀ w ∈ wsX70, w ∈ wsX7_sticksOf := by decide +kernel
  have hs1 := (CI_set hI).2.1.2
  have hs2 := (CI_set hI).2.2.1.2
  refine z_iload_n C dX7_sticksOf_0 rfl (q := 1) rfl ?_
  refine z_iconst C dX7_sticksOf_1 (v := 2) (by decide) ?_
  refine z_aload_n C dX7_sticksOf_2 rfl (q := 0) rfl ?_
  refine zg_X7_settings C (k := 0) (hL _ (by unfold live; omega)) (by rfl) i7 (by decide +kernel) (k' := 5) (RC_settings hR) dX7_sticksOf_3 ?_
  refine z_iconst C dX7_sticksOf_6 (v := 1) (by decide) ?_
  refine z_iaload C (k := 5) (hL _ (by unfold live; omega)) (by rfl) (j := 1) (by decide) (by rw [show ln 5 = 4 from rfl]; omega) (by rw [show ln 5 = 4 from rfl]; decide) (v := nI (nn c 5 1)) (CI_set hI).2.1.1 dX7_sticksOf_7 ?_
  refine z_imul C dX7_sticksOf_8 (v := nI (2 * (nn c 5 1))) (pk_mul 2 (nn c 5 1)) ?_
  refine z_isub C dX7_sticksOf_9 (v := (nI d) - (nI (2 * (nn c 5 1)))) rfl ?_
  refine z_istore_n C dX7_sticksOf_10 rfl (by decide) (lv' := [(2, Value.int ((nI d) - (nI (2 * (nn c 5 1))))), (0, Value.ref (a 0)), (1, Value.int (nI d))]) rfl ?_
  refine z_aload_n C dX7_sticksOf_11 rfl (q := 1) rfl ?_
  refine zg_X7_settings C (k := 0) (hL _ (by unfold live; omega)) (by rfl) i7 (by decide +kernel) (k' := 5) (RC_settings hR) dX7_sticksOf_12 ?_
  refine z_iconst C dX7_sticksOf_15 (v := 2) (by decide) ?_
  refine z_iaload C (k := 5) (hL _ (by unfold live; omega)) (by rfl) (j := 2) (by decide) (by rw [show ln 5 = 4 from rfl]; omega) (by rw [show ln 5 = 4 from rfl]; decide) (v := nI (nn c 5 2)) (CI_set hI).2.2.1.1 dX7_sticksOf_16 ?_
  refine z_istore_n C dX7_sticksOf_17 rfl (by decide) (lv' := [(3, Value.int (nI (nn c 5 2))), (2, Value.int ((nI d) - (nI (2 * (nn c 5 1))))), (0, Value.ref (a 0)), (1, Value.int (nI d))]) rfl ?_
  refine z_iload_n C dX7_sticksOf_18 rfl (q := 1) rfl ?_
  refine z_if_lt C dX7_sticksOf_19 (tgt := 27) (by decide) (fun h19 => ?_) (fun h19 => ?_)
  · have q19 := iv_lt (tI_sub (by omega) (by omega)) (show (0 : Int32).toInt = 0 from by decide) h19
    refine z_iconst C dX7_sticksOf_27 (v := 0) (by decide) ?_
    refine z_goto C dX7_sticksOf_28 (tgt := 34) (by decide) ?_
    exact z_iret C rfl (Nat.le_refl _) (Nat.le_refl _) dX7_sticksOf_34 ⟨rfl, by rw [show d - 2 * nn c 5 1 = 0 by omega, Nat.zero_div]; rfl⟩
  · have q19 := iv_nlt (tI_sub (by omega) (by omega)) (show (0 : Int32).toInt = 0 from by decide) h19
    refine z_iload_n C dX7_sticksOf_22 rfl (q := 0) rfl ?_
    refine z_iconst C dX7_sticksOf_23 (v := 1) (by decide) ?_
    refine z_icmp_ge C dX7_sticksOf_24 (tgt := 31) (by decide) (fun h24 => ?_) (fun h24 => by have q := iv_nle (show (1 : Int32).toInt = 1 from by decide) (nI_toInt (n := nn c 5 2) (by omega)) h24; omega)
    refine z_iload_n C dX7_sticksOf_31 rfl (q := 1) rfl ?_
    refine z_iload_n C dX7_sticksOf_32 rfl (q := 0) rfl ?_
    refine z_idiv C dX7_sticksOf_33 (nI_ne0 (by omega) (by omega)) (v := nI ((d - 2 * nn c 5 1) / nn c 5 2)) (by rw [pk_sub (by omega), pk_div (by omega) (by omega) (by omega)]) ?_
    exact z_iret C rfl (Nat.le_refl _) (Nat.le_refl _) dX7_sticksOf_34 ⟨rfl, rfl⟩

set_option maxHeartbeats 4000000 in
set_option maxRecDepth 100000 in
theorem c_X1_init (l : Launch) (D : va_G) (cy : Nat → ClassId) (a : Nat → Nat) (L : List Nat) (c : Nat → Nat → Int32) (g : Nat → Nat → Int64) (r : Nat → Nat → Option Nat) (n : Nat) (hn : n < 40) (hkL : 200 + n ∈ L) (w1 w2 w3 w4 w5 w6 : Int32) : zCV l yX1_init wsX1_init { frames := 1, cells := 0, slots := 0, locals := 20 } D cy a L c g r [Value.ref (a (200 + n)), Value.int w1, Value.int w2, Value.int w3, Value.int w4, Value.int w5, Value.int w6] (fun c' => c' = up2 (up2 (up2 (up2 (up2 (up2 c (200 + n) 0 w1) (200 + n) 1 w2) (200 + n) 2 w3) (200 + n) 3 w4) (200 + n) 4 w5) (200 + n) 5 w6) := by
  refine z_enter cX1_init 7 none (by decide) (Nat.le_of_ble_eq_true rfl) ?_
  intro p e s m below meth co C hin
  have C : zC p s m _ meth co D cy _ cX1_init 7 none wsX1_init RX1 := C
  have i1 : ∀ w ∈ wsX10, w ∈ wsX1_init := by decide +kernel
  refine z_aload_n C dX1_init_0 rfl (q := 0) rfl ?_
  refine z_objInit C (by decide +kernel) (by decide +kernel) (by decide +kernel) (Nat.le_of_ble_eq_true rfl) (Nat.le_of_ble_eq_true rfl) dX1_init_1 ?_
  refine z_aload_n C dX1_init_4 rfl (q := 0) rfl ?_
  refine z_iload_n C dX1_init_5 rfl (q := 1) rfl ?_
  refine zp_X1_word C (k := 200 + n) hkL (kd_k (by omega)) i1 (by decide +kernel) hin rfl dX1_init_6 ?_
  refine z_aload_n C dX1_init_9 rfl (q := 0) rfl ?_
  refine z_iload_n C dX1_init_10 rfl (q := 2) rfl ?_
  refine zp_X1_hand C (k := 200 + n) hkL (kd_k (by omega)) i1 (by decide +kernel) hin rfl dX1_init_11 ?_
  refine z_aload_n C dX1_init_14 rfl (q := 0) rfl ?_
  refine z_iload_n C dX1_init_15 rfl (q := 3) rfl ?_
  refine zp_X1_day C (k := 200 + n) hkL (kd_k (by omega)) i1 (by decide +kernel) hin rfl dX1_init_16 ?_
  refine z_aload_n C dX1_init_19 rfl (q := 0) rfl ?_
  refine z_iload C dX1_init_20 (q := 4) rfl ?_
  refine zp_X1_firstStick C (k := 200 + n) hkL (kd_k (by omega)) i1 (by decide +kernel) hin rfl dX1_init_22 ?_
  refine z_aload_n C dX1_init_25 rfl (q := 0) rfl ?_
  refine z_iload C dX1_init_26 (q := 5) rfl ?_
  refine zp_X1_sticks C (k := 200 + n) hkL (kd_k (by omega)) i1 (by decide +kernel) hin rfl dX1_init_28 ?_
  refine z_aload_n C dX1_init_31 rfl (q := 0) rfl ?_
  refine z_iload C dX1_init_32 (q := 6) rfl ?_
  refine zp_X1_scrap C (k := 200 + n) hkL (kd_k (by omega)) i1 (by decide +kernel) hin rfl dX1_init_34 ?_
  exact z_vret C rfl (Nat.le_refl _) (Nat.le_refl _) dX1_init_37 ⟨_, rfl, rfl⟩

theorem RC_congr {r r' : Nat → Nat → Option Nat} {nl nk : Nat} (hnl : nl ≤ 16) (e : ∀ k, k < 120 → r' k = r k) (h : RC r nl nk) : RC r' nl nk := by
  obtain ⟨⟨a1, a2, a3, a4, a5, a6, a7, a8, a9, a10, a11⟩, b, c, d, f⟩ := h
  refine ⟨⟨?_, ?_, ?_, ?_, ?_, ?_, ?_, ?_, ?_, ?_, ?_⟩, fun w hw => ?_, fun w hw => ?_, fun i hi => ?_, fun k hk => ?_⟩
  · rw [e 0 (by omega)]; exact a1
  · rw [e 0 (by omega)]; exact a2
  · rw [e 0 (by omega)]; exact a3
  · rw [e 0 (by omega)]; exact a4
  · rw [e 0 (by omega)]; exact a5
  · rw [e 0 (by omega)]; exact a6
  · rw [e 0 (by omega)]; exact a7
  · rw [e 0 (by omega)]; exact a8
  · rw [e 0 (by omega)]; exact a9
  · rw [e 3 (by omega)]; exact a10
  · rw [e 6 (by omega)]; exact a11
  · rw [e 2 (by omega), e (20 + w) (by omega)]; exact b w hw
  · rw [e 11 (by omega), e (40 + w) (by omega)]; exact c w hw
  · rw [e 1 (by omega), e (100 + i) (by omega)]; exact d i hi
  · rw [e 7 (by omega)]; exact f k hk

theorem nn_up2k {c : Nat → Nat → Int32} {k k' : Nat} (h : k' ≠ k) (i j : Nat) (v : Int32) : nn (up2 c k i v) k' j = nn c k' j := by unfold nn; rw [up2_k c i j v h]
theorem nn_up1k {c : Nat → Nat → Int32} {k k' : Nat} (h : k' ≠ k) (j : Nat) (f : Nat → Int32) : nn (up1 c k f) k' j = nn c k' j := by unfold nn; rw [up1_k c f h]

theorem latestC_le {c : Nat → Nat → Int32} {nl nk : Nat} (hI : CI c nl nk) : latestC c nk ≤ 999 := by
  unfold latestC; split
  · omega
  · exact (CI_lump hI (by omega)).2.2.1.2.2

set_option maxHeartbeats 4000000 in
set_option maxRecDepth 100000 in
theorem c_X7_lump (l : Launch) (D : va_G) (cy : Nat → ClassId) (a : Nat → Nat) (L : List Nat) (c : Nat → Nat → Int32) (g : Nat → Nat → Int64) (r : Nat → Nat → Option Nat) (nl nk : Nat) (hL : zLv L nl nk) (hR : RC r nl nk) (hI : CI c nl nk) (x : Nat → Nat → Nat) (hX : XC c r nl x) (hf1 : 200 + nk ∉ L) (hZ : zR L r) (word hand day len : Int32) : zXI l yX7_lump wsX7_lump { frames := 2, cells := 1, slots := 6, locals := 46 } D cy a L c g r [Value.ref (a 0), Value.int word, Value.int hand, Value.int day, Value.int len] (fun v ω => (¬ ((0 ≤ word.toInt ∧ word.toInt < 8) ∧ (0 ≤ hand.toInt ∧ hand.toInt ≤ 9) ∧ ((latestC c nk : Int) ≤ day.toInt ∧ day.toInt ≤ 999) ∧ (1 ≤ len.toInt ∧ len.toInt ≤ 200)) ∧ v = -2 ∧ ω = (a, L, c, g, r)) ∨ (((0 ≤ word.toInt ∧ word.toInt < 8) ∧ (0 ≤ hand.toInt ∧ hand.toInt ≤ 9) ∧ ((latestC c nk : Int) ≤ day.toInt ∧ day.toInt ≤ 999) ∧ (1 ≤ len.toInt ∧ len.toInt ≤ 200)) ∧ ¬ fitC c x (tn word) ∧ v = -3 ∧ ω = (a, L, c, g, r)) ∨ (((0 ≤ word.toInt ∧ word.toInt < 8) ∧ (0 ≤ hand.toInt ∧ hand.toInt ≤ 9) ∧ ((latestC c nk : Int) ≤ day.toInt ∧ day.toInt ≤ 999) ∧ (1 ≤ len.toInt ∧ len.toInt ≤ 200)) ∧ fitC c x (tn word) ∧ nk = 40 ∧ v = -4 ∧ ω = (a, L, c, g, r)) ∨ (((0 ≤ word.toInt ∧ word.toInt < 8) ∧ (0 ≤ hand.toInt ∧ hand.toInt ≤ 9) ∧ ((latestC c nk : Int) ≤ day.toInt ∧ day.toInt ≤ 999) ∧ (1 ≤ len.toInt ∧ len.toInt ≤ 200)) ∧ fitC c x (tn word) ∧ nk < 40 ∧ v = nI (((tn len * nn c 5 0) - 2 * nn c 5 1) / nn c 5 2) ∧ ∃ a', (∀ j, j ≠ 200 + nk → a' j = a j) ∧ ω = (a', L ++ [200 + nk], up2 (up2 (up2 (up2 (up2 (up2 (up2 (up2 (up2 (up1 c (200 + nk) (fun _ => 0)) (200 + nk) 0 word) (200 + nk) 1 hand) (200 + nk) 2 day) (200 + nk) 3 (nI (nn c 6 2))) (200 + nk) 4 (nI (((tn len * nn c 5 0) - 2 * nn c 5 1) / nn c 5 2))) (200 + nk) 5 (nI ((tn len * nn c 5 0) - (((tn len * nn c 5 0) - 2 * nn c 5 1) / nn c 5 2) * nn c 5 2))) 6 1 (nI (nk + 1))) 6 2 (nI (nn c 6 2 + (((tn len * nn c 5 0) - 2 * nn c 5 1) / nn c 5 2)))) 6 3 (nI (nn c 6 3 + ((tn len * nn c 5 0) - (((tn len * nn c 5 0) - 2 * nn c 5 1) / nn c 5 2) * nn c 5 2))), up1 g (200 + nk) (fun _ => 0), up2 (up1 r (200 + nk) (fun _ => none)) 7 nk (some (200 + nk))))) 1 6 := by
  refine z_enter cX7_lump 9 (some .int) (by decide) (Nat.le_of_ble_eq_true rfl) ?_
  intro p e s m below meth co C hin
  have C : zC p s m _ meth co D cy _ cX7_lump 9 (some .int) wsX7_lump RX7 := C
  have i1 : ∀ w ∈ wsX10, w ∈ wsX7_lump := by decide +kernel
  have i2 : ∀ w ∈ wsX20, w ∈ wsX7_lump := by decide +kernel
  have i7 : ∀ w ∈ wsX70, w ∈ wsX7_lump := by decide +kernel
  have h16 := CI_nl16 hI
  have h40 := CI_nk40 hI
  have hs0 := (CI_set hI).1.2
  have hs2 := (CI_set hI).2.2.1.2
  refine z_aload_n C dX7_lump_0 rfl (q := 0) rfl ?_
  refine z_iload_n C dX7_lump_1 rfl (q := 1) rfl ?_
  refine z_pQ C (z_runV C (As := [Value.int word]) (rest := []) (c_X7_wordAt l D cy a L c g r nl nk hL hR hI word) (cwV 1 C.2.2.2.2.2.1 gX7_lump_X7_wordAt rfl rfl rfl (by decide +kernel) ⟨Nat.le_of_ble_eq_true rfl, Nat.le_of_ble_eq_true rfl⟩) (hL _ (by unfold live; omega)) (zF_k7 (by rfl)) rfl rfl rfl rfl (Nat.le_of_ble_eq_true rfl) dX7_lump_2 ⟨Nat.zero_le _, Nat.zero_le _⟩) (fun v2 e2 => ?_)
  rcases e2 with ⟨w, hw, rfl, rfl⟩ | ⟨rfl, e2⟩
  · have tw := nI_toInt (n := w) (by omega)
    have uw := tn_nI (j := w) (by omega)
    refine z_astore C dX7_lump_5 (by decide) (lv' := [(5, Value.ref (a (20 + w))), (0, Value.ref (a 0)), (1, Value.int (nI w)), (2, Value.int hand), (3, Value.int day), (4, Value.int len)]) rfl ?_
    refine z_aload C dX7_lump_7 (q := 0) rfl ?_
    refine z_ifnull C dX7_lump_9 ?_
    refine z_iload_n C dX7_lump_12 rfl (q := 3) rfl ?_
    refine z_iconst C dX7_lump_13 (v := 0) (by decide) ?_
    refine z_bipush C dX7_lump_14 (v := 9) (by decide) ?_
    refine z_pI C (z_runS C (As := [Value.int hand, Value.int 0, Value.int 9]) (rest := []) (c_X7_within l D cy a L c g r hand 0 9 (V := hand.toInt) (LO := 0) (HI := 9) rfl (show (0 : Int32).toInt = 0 from by decide) (show (9 : Int32).toInt = 9 from by decide)) (va_cwS 3 C.2.2.2.2.2.1 gX7_lump_X7_within rfl rfl rfl (by decide +kernel) ⟨Nat.le_of_ble_eq_true rfl, Nat.le_of_ble_eq_true rfl⟩) rfl rfl (Nat.le_of_ble_eq_true rfl) dX7_lump_16 ⟨Nat.zero_le _, Nat.zero_le _⟩) (fun v16 e16 => ?_)
    rcases e16 with ⟨rfl, e16⟩ | ⟨rfl, e16⟩
    · refine z_if_eq C dX7_lump_19 (tgt := 34) (by decide) (fun h19 => absurd h19 (by decide)) (fun h19 => ?_)
      refine z_iload C dX7_lump_22 (q := 5) rfl ?_
      refine z_iconst C dX7_lump_24 (v := 1) (by decide) ?_
      refine z_sipush C dX7_lump_25 (v := 200) (by decide) ?_
      refine z_pI C (z_runS C (As := [Value.int len, Value.int 1, Value.int 200]) (rest := []) (c_X7_within l D cy a L c g r len 1 200 (V := len.toInt) (LO := 1) (HI := 200) rfl (show (1 : Int32).toInt = 1 from by decide) (show (200 : Int32).toInt = 200 from by decide)) (va_cwS 3 C.2.2.2.2.2.1 gX7_lump_X7_within rfl rfl rfl (by decide +kernel) ⟨Nat.le_of_ble_eq_true rfl, Nat.le_of_ble_eq_true rfl⟩) rfl rfl (Nat.le_of_ble_eq_true rfl) dX7_lump_28 ⟨Nat.zero_le _, Nat.zero_le _⟩) (fun v28 e28 => ?_)
      rcases e28 with ⟨rfl, e28⟩ | ⟨rfl, e28⟩
      · obtain ⟨le, hle, rfl⟩ := arg_nI (b := 200) (⟨by omega, e28.2⟩ : 0 ≤ len.toInt ∧ len.toInt ≤ 200)
        have tle := nI_toInt (n := le) (by omega)
        have ule := tn_nI (j := le) (by omega)
        refine z_if_ne C dX7_lump_31 (tgt := 37) (by decide) (fun h31 => ?_) (fun h31 => absurd h31 (by decide))
        refine z_iload_n C dX7_lump_37 rfl (q := 4) rfl ?_
        refine z_aload_n C dX7_lump_38 rfl (q := 1) rfl ?_
        refine zg_X7_lumpBook C (k := 0) (hL _ (by unfold live; omega)) (by rfl) i7 (by decide +kernel) (k' := 6) (RC_lumpBook hR) dX7_lump_39 ?_
        refine z_pI C (z_runV C (As := []) (rest := [Value.int day]) (c_X2_latestDay l D cy a L c g r nl nk hL hR hI ) (cwV 0 C.2.2.2.2.2.1 gX7_lump_X2_latestDay rfl rfl rfl (by decide +kernel) ⟨Nat.le_of_ble_eq_true rfl, Nat.le_of_ble_eq_true rfl⟩) (hL _ (by unfold live; omega)) (zF_k2 (by rfl)) rfl rfl rfl rfl (Nat.le_of_ble_eq_true rfl) dX7_lump_42 ⟨Nat.zero_le _, Nat.zero_le _⟩) (fun v42 e42 => ?_)
        have hld : v42 = nI (latestC c nk) := e42
        subst hld
        have hlt := latestC_le hI
        refine z_sipush C dX7_lump_45 (v := 999) (by decide) ?_
        refine z_pI C (z_runS C (As := [Value.int day, Value.int (nI (latestC c nk)), Value.int 999]) (rest := []) (c_X7_within l D cy a L c g r day (nI (latestC c nk)) 999 (V := day.toInt) (LO := ((latestC c nk : Nat) : Int)) (HI := 999) rfl (nI_toInt (by omega)) (show (999 : Int32).toInt = 999 from by decide)) (va_cwS 3 C.2.2.2.2.2.1 gX7_lump_X7_within rfl rfl rfl (by decide +kernel) ⟨Nat.le_of_ble_eq_true rfl, Nat.le_of_ble_eq_true rfl⟩) rfl rfl (Nat.le_of_ble_eq_true rfl) dX7_lump_48 ⟨Nat.zero_le _, Nat.zero_le _⟩) (fun v48 e48 => ?_)
        rcases e48 with ⟨rfl, e48⟩ | ⟨rfl, e48⟩
        · refine z_if_ne C dX7_lump_51 (tgt := 57) (by decide) (fun h51 => ?_) (fun h51 => absurd h51 (by decide))
          refine z_aload_n C dX7_lump_57 rfl (q := 1) rfl ?_
          refine zg_X7_ring C (k := 0) (hL _ (by unfold live; omega)) (by rfl) i7 (by decide +kernel) (k' := 3) (RC_ring hR) dX7_lump_58 ?_
          refine z_aload C dX7_lump_61 (q := 0) rfl ?_
          refine z_pI C (z_runV C (As := [Value.ref (a (20 + w))]) (rest := []) (c_X3_fits l D cy a L c g r nl nk hL hR hI x hX w (by omega)) (cwV 1 C.2.2.2.2.2.1 gX7_lump_X3_fits rfl rfl rfl (by decide +kernel) ⟨Nat.le_of_ble_eq_true rfl, Nat.le_of_ble_eq_true rfl⟩) (hL _ (by unfold live; omega)) (zF_k3 (by rfl)) rfl rfl rfl rfl (Nat.le_of_ble_eq_true rfl) dX7_lump_63 ⟨Nat.zero_le _, Nat.zero_le _⟩) (fun v63 e63 => ?_)
          rcases e63 with ⟨rfl, e63⟩ | ⟨rfl, e63⟩
          · refine z_if_ne C dX7_lump_66 (tgt := 72) (by decide) (fun h66 => ?_) (fun h66 => absurd h66 (by decide))
            refine z_aload_n C dX7_lump_72 rfl (q := 1) rfl ?_
            refine zg_X7_lumpBook C (k := 0) (hL _ (by unfold live; omega)) (by rfl) i7 (by decide +kernel) (k' := 6) (RC_lumpBook hR) dX7_lump_73 ?_
            refine z_pI C (z_runV C (As := []) (rest := []) (c_X2_isFull l D cy a L c g r nl nk hL hR hI ) (cwV 0 C.2.2.2.2.2.1 gX7_lump_X2_isFull rfl rfl rfl (by decide +kernel) ⟨Nat.le_of_ble_eq_true rfl, Nat.le_of_ble_eq_true rfl⟩) (hL _ (by unfold live; omega)) (zF_k2 (by rfl)) rfl rfl rfl rfl (Nat.le_of_ble_eq_true rfl) dX7_lump_76 ⟨Nat.zero_le _, Nat.zero_le _⟩) (fun v76 e76 => ?_)
            rcases e76 with ⟨rfl, e76⟩ | ⟨rfl, e76⟩
            · refine z_if_eq C dX7_lump_79 (tgt := 85) (by decide) (fun h79 => absurd h79 (by decide)) (fun h79 => ?_)
              refine z_bipush C dX7_lump_82 (v := -4) (by decide) ?_
              exact z_iret C rfl (Nat.le_of_ble_eq_true rfl) (Nat.le_of_ble_eq_true rfl) dX7_lump_84 (Or.inr (Or.inr (Or.inl ⟨by omega, by rw [uw]; exact e63, by omega, rfl, rfl⟩)))
            · refine z_if_eq C dX7_lump_79 (tgt := 85) (by decide) (fun h79 => ?_) (fun h79 => absurd h79 (by decide))
              refine z_iload C dX7_lump_85 (q := 5) rfl ?_
              refine z_aload_n C dX7_lump_87 rfl (q := 1) rfl ?_
              refine zg_X7_settings C (k := 0) (hL _ (by unfold live; omega)) (by rfl) i7 (by decide +kernel) (k' := 5) (RC_settings hR) dX7_lump_88 ?_
              refine z_iconst C dX7_lump_91 (v := 0) (by decide) ?_
              refine z_iaload C (k := 5) (hL _ (by unfold live; omega)) (by rfl) (j := 0) (by decide) (by rw [show ln 5 = 4 from rfl]; omega) (by rw [show ln 5 = 4 from rfl]; decide) (v := nI (nn c 5 0)) (CI_set hI).1.1 dX7_lump_92 ?_
              refine z_imul C dX7_lump_93 (v := nI (le * (nn c 5 0))) (pk_mul le (nn c 5 0)) ?_
              have hd1 : le * nn c 5 0 ≤ 200 * 200 := Nat.mul_le_mul (by omega) hs0.2
              refine z_istore C dX7_lump_94 (by decide) (lv' := [(6, Value.int (nI (le * (nn c 5 0)))), (5, Value.ref (a (20 + w))), (0, Value.ref (a 0)), (1, Value.int (nI w)), (2, Value.int hand), (3, Value.int day), (4, Value.int (nI le))]) rfl ?_
              refine z_aload_n C dX7_lump_96 rfl (q := 2) rfl ?_
              refine z_iload C dX7_lump_97 (q := 0) rfl ?_
              refine z_pI C (z_runV C (As := [Value.int (nI (le * (nn c 5 0)))]) (rest := []) (c_X7_sticksOf l D cy a L c g r nl nk hL hR hI (le * (nn c 5 0)) (by omega)) (cwV 1 C.2.2.2.2.2.1 gX7_lump_X7_sticksOf rfl rfl rfl (by decide +kernel) ⟨Nat.le_of_ble_eq_true rfl, Nat.le_of_ble_eq_true rfl⟩) (hL _ (by unfold live; omega)) (zF_k7 (by rfl)) rfl rfl rfl rfl (Nat.le_of_ble_eq_true rfl) dX7_lump_99 ⟨Nat.zero_le _, Nat.zero_le _⟩) (fun v99 e99 => ?_)
              subst e99
              have hdm : (((le * nn c 5 0) - 2 * nn c 5 1) / nn c 5 2) * nn c 5 2 ≤ (le * nn c 5 0) - 2 * nn c 5 1 := Nat.div_mul_le_self _ _
              refine z_istore C dX7_lump_102 (by decide) (lv' := [(7, Value.int (nI ((le * (nn c 5 0) - 2 * nn c 5 1) / nn c 5 2))), (6, Value.int (nI (le * (nn c 5 0)))), (5, Value.ref (a (20 + w))), (0, Value.ref (a 0)), (1, Value.int (nI w)), (2, Value.int hand), (3, Value.int day), (4, Value.int (nI le))]) rfl ?_
              refine z_iload C dX7_lump_104 (q := 1) rfl ?_
              refine z_iload C dX7_lump_106 (q := 0) rfl ?_
              refine z_aload_n C dX7_lump_108 rfl (q := 3) rfl ?_
              refine zg_X7_settings C (k := 0) (hL _ (by unfold live; omega)) (by rfl) i7 (by decide +kernel) (k' := 5) (RC_settings hR) dX7_lump_109 ?_
              refine z_iconst C dX7_lump_112 (v := 2) (by decide) ?_
              refine z_iaload C (k := 5) (hL _ (by unfold live; omega)) (by rfl) (j := 2) (by decide) (by rw [show ln 5 = 4 from rfl]; omega) (by rw [show ln 5 = 4 from rfl]; decide) (v := nI (nn c 5 2)) (CI_set hI).2.2.1.1 dX7_lump_113 ?_
              refine z_imul C dX7_lump_114 (v := nI (((le * (nn c 5 0) - 2 * nn c 5 1) / nn c 5 2) * (nn c 5 2))) (pk_mul ((le * (nn c 5 0) - 2 * nn c 5 1) / nn c 5 2) (nn c 5 2)) ?_
              refine z_isub C dX7_lump_115 (v := nI ((le * nn c 5 0) - (((le * nn c 5 0) - 2 * nn c 5 1) / nn c 5 2) * nn c 5 2)) (pk_sub (by omega)) ?_
              refine z_istore C dX7_lump_116 (by decide) (lv' := [(8, Value.int (nI ((le * nn c 5 0) - (((le * nn c 5 0) - 2 * nn c 5 1) / nn c 5 2) * nn c 5 2))), (7, Value.int (nI ((le * (nn c 5 0) - 2 * nn c 5 1) / nn c 5 2))), (6, Value.int (nI (le * (nn c 5 0)))), (5, Value.ref (a (20 + w))), (0, Value.ref (a 0)), (1, Value.int (nI w)), (2, Value.int hand), (3, Value.int day), (4, Value.int (nI le))]) rfl ?_
              refine z_aload_n C dX7_lump_118 rfl (q := 4) rfl ?_
              refine zg_X7_lumpBook C (k := 0) (hL _ (by unfold live; omega)) (by rfl) i7 (by decide +kernel) (k' := 6) (RC_lumpBook hR) dX7_lump_119 ?_
              refine z_new C (k := 200 + nk) (ci := 1) i1 tyX1 tyX1_ok (by decide +kernel) (by decide +kernel) (by decide +kernel) rfl (fs := [Value.int 0, Value.int 0, Value.int 0, Value.int 0, Value.int 0, Value.int 0]) (fun j hj => by rcases (show j = 0 ∨ j = 1 ∨ j = 2 ∨ j = 3 ∨ j = 4 ∨ j = 5 by omega) with rfl | rfl | rfl | rfl | rfl | rfl <;> rfl) (Nat.le_of_ble_eq_true rfl) (Nat.le_of_ble_eq_true rfl) hf1 (zR_ne hZ hf1) (fun a' => by rw [zF_k1 (kd_k (by omega))]; simp [zr, up1, va_rf]) dX7_lump_122 (fun a ha122_1 => ?_)
              refine z_lveq (lv' := [(8, Value.int (nI ((le * nn c 5 0) - (((le * nn c 5 0) - 2 * nn c 5 1) / nn c 5 2) * nn c 5 2))), (7, Value.int (nI ((le * (nn c 5 0) - 2 * nn c 5 1) / nn c 5 2))), (6, Value.int (nI (le * (nn c 5 0)))), (5, Value.ref (a (20 + w))), (0, Value.ref (a 0)), (1, Value.int (nI w)), (2, Value.int hand), (3, Value.int day), (4, Value.int (nI le))]) (by rw [ha122_1 (20 + w) (by omega), ha122_1 (0) (by omega)] <;> rfl) ?_
              refine z_steq (st' := [Value.ref (a (200 + nk)), Value.ref (a 6)]) (by rw [ha122_1 (6) (by omega)] <;> rfl) ?_
              have hZ := zR_new hZ (200 + nk)
              have hR := RC_congr h16 (fun k hk => up1_k r (fun _ => none) (show k ≠ 200 + nk by omega)) hR
              refine z_dup C dX7_lump_125 rfl ?_
              refine z_iload_n C dX7_lump_126 rfl (q := 5) rfl ?_
              refine z_iload_n C dX7_lump_127 rfl (q := 6) rfl ?_
              refine z_iload_n C dX7_lump_128 rfl (q := 7) rfl ?_
              refine z_aload_n C dX7_lump_129 rfl (q := 4) rfl ?_
              refine zg_X7_lumpBook C (k := 0) (List.mem_append_left _ (hL _ (by unfold live; omega))) (by rfl) i7 (by decide +kernel) (k' := 6) (RC_lumpBook hR) dX7_lump_130 ?_
              refine zg_X2_stickCount C (k := 6) (List.mem_append_left _ (hL _ (by unfold live; omega))) (by rfl) i2 (by decide +kernel) (v := nI (nn c 6 2)) (by rw [up1_k _ _ (by omega)]; exact (CI_tot hI).1.1) dX7_lump_133 ?_
              refine z_iload C dX7_lump_136 (q := 1) rfl ?_
              refine z_iload C dX7_lump_138 (q := 0) rfl ?_
              refine z_cV C (z_runI C (rt := none) (As := [Value.int (nI w), Value.int hand, Value.int day, Value.int (nI (nn c 6 2)), Value.int (nI ((le * (nn c 5 0) - 2 * nn c 5 1) / nn c 5 2)), Value.int (nI ((le * nn c 5 0) - (((le * nn c 5 0) - 2 * nn c 5 1) / nn c 5 2) * nn c 5 2))]) (rest := [Value.ref (a (200 + nk)), Value.ref (a 6)]) (c_X1_init l D cy a _ _ _ _ nk (by omega) (List.mem_append_right _ (List.mem_singleton.mpr rfl)) (nI w) hand day (nI (nn c 6 2)) (nI ((le * (nn c 5 0) - 2 * nn c 5 1) / nn c 5 2)) (nI ((le * nn c 5 0) - (((le * nn c 5 0) - 2 * nn c 5 1) / nn c 5 2) * nn c 5 2))) (cwI 6 C.2.2.2.2.2.1 gX7_lump_X1_init rfl rfl rfl (C.2.2.2.2.2.1 _ (by decide +kernel)) (C.2.2.2.2.2.1 _ (by decide +kernel)) (C.2.2.2.2.2.1 _ (by decide +kernel)) rfl (by decide +kernel) ⟨Nat.le_of_ble_eq_true rfl, Nat.le_of_ble_eq_true rfl⟩) rfl rfl (Nat.le_of_ble_eq_true rfl) dX7_lump_140 ⟨Nat.le_of_ble_eq_true rfl, Nat.le_of_ble_eq_true rfl⟩) (fun c140 e140 => ?_)
              subst e140
              refine z_xV C (z_runV C (As := [Value.ref (a (200 + nk))]) (rest := []) (c_X2_enter l D cy a _ _ _ _ nl nk (fun k h => List.mem_append_left _ (hL k h)) hR (CI_congr (fun k hk => by have hne : k ≠ 200 + nk := (by unfold cik at hk; omega); rw [up2_row _ _ _ hne, up2_row _ _ _ hne, up2_row _ _ _ hne, up2_row _ _ _ hne, up2_row _ _ _ hne, up2_row _ _ _ hne, up1_k _ _ hne]) hI) (by omega) (List.mem_append_right _ (List.mem_singleton.mpr rfl)) (((le * nn c 5 0) - 2 * nn c 5 1) / nn c 5 2) ((le * nn c 5 0) - (((le * nn c 5 0) - 2 * nn c 5 1) / nn c 5 2) * nn c 5 2) (by simp [up2]) (by simp [up2])) (cwV 1 C.2.2.2.2.2.1 gX7_lump_X2_enter rfl rfl rfl (by decide +kernel) ⟨Nat.le_of_ble_eq_true rfl, Nat.le_of_ble_eq_true rfl⟩) (List.mem_append_left _ (hL _ (by unfold live; omega))) (zF_k2 (by rfl)) rfl rfl rfl rfl (Nat.le_of_ble_eq_true rfl) dX7_lump_143 ⟨Nat.le_of_ble_eq_true rfl, Nat.le_of_ble_eq_true rfl⟩) (fun ω143 e143 => ?_)
              subst e143
              dsimp only
              refine z_iload C dX7_lump_146 (q := 1) rfl ?_
              exact z_iret C rfl (Nat.le_of_ble_eq_true rfl) (Nat.le_of_ble_eq_true rfl) dX7_lump_148 (Or.inr (Or.inr (Or.inr ⟨by omega, by rw [uw]; exact e63, by omega, by rw [ule], a, ha122_1, by rw [ule]; simp only [nn_up2k (show (6 : Nat) ≠ 200 + nk by omega), nn_up1k (show (6 : Nat) ≠ 200 + nk by omega)]⟩)))
          · refine z_if_ne C dX7_lump_66 (tgt := 72) (by decide) (fun h66 => absurd h66 (by decide)) (fun h66 => ?_)
            refine z_bipush C dX7_lump_69 (v := -3) (by decide) ?_
            exact z_iret C rfl (Nat.le_of_ble_eq_true rfl) (Nat.le_of_ble_eq_true rfl) dX7_lump_71 (Or.inr (Or.inl ⟨by omega, by rw [uw]; exact e63, rfl, rfl⟩))
        · refine z_if_ne C dX7_lump_51 (tgt := 57) (by decide) (fun h51 => absurd h51 (by decide)) (fun h51 => ?_)
          refine z_bipush C dX7_lump_54 (v := -2) (by decide) ?_
          exact z_iret C rfl (Nat.le_of_ble_eq_true rfl) (Nat.le_of_ble_eq_true rfl) dX7_lump_56 (Or.inl ⟨by omega, rfl, rfl⟩)
      · refine z_if_ne C dX7_lump_31 (tgt := 37) (by decide) (fun h31 => absurd h31 (by decide)) (fun h31 => ?_)
        refine z_bipush C dX7_lump_34 (v := -2) (by decide) ?_
        exact z_iret C rfl (Nat.le_of_ble_eq_true rfl) (Nat.le_of_ble_eq_true rfl) dX7_lump_36 (Or.inl ⟨by omega, rfl, rfl⟩)
    · refine z_if_eq C dX7_lump_19 (tgt := 34) (by decide) (fun h19 => ?_) (fun h19 => absurd h19 (by decide))
      refine z_bipush C dX7_lump_34 (v := -2) (by decide) ?_
      exact z_iret C rfl (Nat.le_of_ble_eq_true rfl) (Nat.le_of_ble_eq_true rfl) dX7_lump_36 (Or.inl ⟨by omega, rfl, rfl⟩)
  · refine z_astoreN C dX7_lump_5 (by decide) (lv' := [(5, Value.null), (0, Value.ref (a 0)), (1, Value.int word), (2, Value.int hand), (3, Value.int day), (4, Value.int len)]) rfl ?_
    refine z_aloadN C dX7_lump_7 (q := 0) rfl ?_
    refine z_ifnullN C dX7_lump_9 (tgt := 34) (by decide) ?_
    refine z_bipush C dX7_lump_34 (v := -2) (by decide) ?_
    exact z_iret C rfl (Nat.le_of_ble_eq_true rfl) (Nat.le_of_ble_eq_true rfl) dX7_lump_36 (Or.inl ⟨by omega, rfl, rfl⟩)
