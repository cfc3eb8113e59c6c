set_option maxHeartbeats 4000000 in
set_option maxRecDepth 100000 in
theorem c_X0_hasStrip (l : Launch) (D : va_G) (cy : Nat → ClassId) (a : Nat → Nat) (L : List Nat) (c : Nat → Nat → Int32) (g : Nat → Nat → Int64) (r : Nat → Nat → Option Nat) (nl nk : Nat) (hL : zLv L nl nk) (hR : RC r nl nk) (hI : CI c nl nk) (j : Nat) (hj : j < nl) (i : Int32) : zPI l yX0_hasStrip wsX0_hasStrip { frames := 1, cells := 0, slots := 0, locals := 22 } D cy a L c g r [Value.ref (a (100 + j)), Value.int i] (fun v => (v = 1 ∧ (0 ≤ i.toInt ∧ i.toInt < (nn c (100 + j) 0 : Int))) ∨ (v = 0 ∧ ¬ (0 ≤ i.toInt ∧ i.toInt < (nn c (100 + j) 0 : Int)))) := by
  refine z_enter cX0_hasStrip 2 (some .boolean) (by decide) (Nat.le_of_ble_eq_true rfl) ?_
  intro p e s m below meth co C hin
  have C : zC p s m _ meth co D cy _ cX0_hasStrip 2 (some .boolean) wsX0_hasStrip RX0 := C
  have i0 : ∀ w ∈ wsX00, w ∈ wsX0_hasStrip := by decide +kernel
  have h16 := CI_nl16 hI
  have hw := (CI_wi hI hj).2
  refine z_iload_n C dX0_hasStrip_0 rfl (q := 1) rfl ?_
  refine z_iconst C dX0_hasStrip_1 (v := 0) (by decide) ?_
  refine z_aload_n C dX0_hasStrip_2 rfl (q := 0) rfl ?_
  refine zg_X0_width C (k := 100 + j) (hL _ (by unfold live; omega)) (kd_l (by omega)) i0 (by decide +kernel) (v := nI (nn c (100 + j) 0)) (CI_wi hI (by omega)).1 dX0_hasStrip_3 ?_
  refine z_iconst C dX0_hasStrip_6 (v := 1) (by decide) ?_
  refine z_isub C dX0_hasStrip_7 (v := (nI (nn c (100 + j) 0)) - 1) rfl ?_
  refine z_pI C (z_runSN C (As := [Value.int i, Value.int 0, Value.int ((nI (nn c (100 + j) 0)) - 1)]) (rest := []) (c_X7_within l D cy a L c g r i 0 ((nI (nn c (100 + j) 0)) - 1) (V := i.toInt) (LO := 0) (HI := ((nn c (100 + j) 0 : Nat) : Int) - 1) rfl (show (0 : Int32).toInt = 0 from by decide) (tI_pred (by omega))) ⟨va_cnB 3 C.2.2.2.2.2.1 gX0_hasStrip_X7_within_n25 rfl rfl rfl C.2.2.2.2.2.2.1.2.1.2.2.2.2.2.1 (C.2.2.2.2.2.1 _ (by decide +kernel)) (by decide +kernel) ⟨Nat.le_of_ble_eq_true rfl, Nat.le_of_ble_eq_true rfl⟩, C.2.2.2.2.2.1 _ (by decide +kernel), trivial⟩ rfl rfl (Nat.le_of_ble_eq_true rfl) dX0_hasStrip_8 ⟨Nat.zero_le _, Nat.zero_le _⟩) (fun v8 e8 => ?_)
  rcases e8 with ⟨rfl, e8⟩ | ⟨rfl, e8⟩
  · exact z_zret C rfl (Nat.le_refl _) (Nat.le_refl _) dX0_hasStrip_11 rfl ⟨rfl, Or.inl ⟨rfl, by omega⟩⟩
  · exact z_zret C rfl (Nat.le_refl _) (Nat.le_refl _) dX0_hasStrip_11 rfl ⟨rfl, Or.inr ⟨rfl, by omega⟩⟩

set_option maxHeartbeats 4000000 in
set_option maxRecDepth 100000 in
theorem c_X1_gave (l : Launch) (D : va_G) (cy : Nat → ClassId) (a : Nat → Nat) (L : List Nat) (c : Nat → Nat → Int32) (g : Nat → Nat → Int64) (r : Nat → Nat → Option Nat) (nl nk : Nat) (hL : zLv L nl nk) (hR : RC r nl nk) (hI : CI c nl nk) (k : Nat) (hk : k < nk) (stick : Int32) : zPI l yX1_gave wsX1_gave { frames := 0, cells := 0, slots := 0, locals := 0 } D cy a L c g r [Value.ref (a (200 + k)), Value.int stick] (fun v => (v = 1 ∧ ((nn c (200 + k) 3 : Int) ≤ stick.toInt ∧ stick.toInt < (nn c (200 + k) 3 : Int) + nn c (200 + k) 4)) ∨ (v = 0 ∧ ¬ ((nn c (200 + k) 3 : Int) ≤ stick.toInt ∧ stick.toInt < (nn c (200 + k) 3 : Int) + nn c (200 + k) 4))) := by
  refine z_enter cX1_gave 2 (some .boolean) (by decide) (Nat.le_of_ble_eq_true rfl) ?_
  intro p e s m below meth co C hin
  have C : zC p s m _ meth co D cy _ cX1_gave 2 (some .boolean) wsX1_gave RX1 := C
  have i1 : ∀ w ∈ wsX10, w ∈ wsX1_gave := by decide +kernel
  have h40 := CI_nk40 hI
  have hp1 := (CI_lump hI hk).2.1.2
  have hp2 := (CI_lump hI hk).2.2.1.2
  have hp3 := (CI_lump hI hk).2.2.2.1.2
  have hp4 := (CI_lump hI hk).2.2.2.2.1.2
  refine z_iload_n C dX1_gave_0 rfl (q := 1) rfl ?_
  refine z_aload_n C dX1_gave_1 rfl (q := 0) rfl ?_
  refine zg_X1_firstStick C (k := 200 + k) (hL _ (by unfold live; omega)) (kd_k (by omega)) i1 (by decide +kernel) (v := nI (nn c (200 + k) 3)) (CI_lump hI (by omega)).2.2.2.1.1 dX1_gave_2 ?_
  refine z_icmp_lt C dX1_gave_5 (tgt := 25) (by decide) (fun h5 => ?_) (fun h5 => ?_)
  · have q5 := iv_lt rfl (nI_toInt (by omega)) h5
    refine z_iconst C dX1_gave_25 (v := 0) (by decide) ?_
    exact z_zret C rfl (Nat.le_refl _) (Nat.le_refl _) dX1_gave_26 rfl ⟨rfl, Or.inr ⟨rfl, by omega⟩⟩
  · have q5 := iv_nlt rfl (nI_toInt (by omega)) h5
    refine z_iload_n C dX1_gave_8 rfl (q := 1) rfl ?_
    refine z_aload_n C dX1_gave_9 rfl (q := 0) rfl ?_
    refine zg_X1_firstStick C (k := 200 + k) (hL _ (by unfold live; omega)) (kd_k (by omega)) i1 (by decide +kernel) (v := nI (nn c (200 + k) 3)) (CI_lump hI (by omega)).2.2.2.1.1 dX1_gave_10 ?_
    refine z_aload_n C dX1_gave_13 rfl (q := 0) rfl ?_
    refine zg_X1_sticks C (k := 200 + k) (hL _ (by unfold live; omega)) (kd_k (by omega)) i1 (by decide +kernel) (v := nI (nn c (200 + k) 4)) (CI_lump hI (by omega)).2.2.2.2.1.1 dX1_gave_14 ?_
    refine z_iadd C dX1_gave_17 (v := nI ((nn c (200 + k) 3) + (nn c (200 + k) 4))) (nI_add (nn c (200 + k) 3) (nn c (200 + k) 4)) ?_
    refine z_icmp_ge C dX1_gave_18 (tgt := 25) (by decide) (fun h18 => ?_) (fun h18 => ?_)
    · have q18 := iv_le (nI_toInt (by omega)) rfl h18
      refine z_iconst C dX1_gave_25 (v := 0) (by decide) ?_
      exact z_zret C rfl (Nat.le_refl _) (Nat.le_refl _) dX1_gave_26 rfl ⟨rfl, Or.inr ⟨rfl, by omega⟩⟩
    · have q18 := iv_nle (nI_toInt (by omega)) rfl h18
      refine z_iconst C dX1_gave_21 (v := 1) (by decide) ?_
      refine z_goto C dX1_gave_22 (tgt := 26) (by decide) ?_
      exact z_zret C rfl (Nat.le_refl _) (Nat.le_refl _) dX1_gave_26 rfl ⟨rfl, Or.inl ⟨rfl, by omega⟩⟩

set_option maxHeartbeats 4000000 in
set_option maxRecDepth 100000 in
theorem c_X1_isRecalled (l : Launch) (D : va_G) (cy : Nat → ClassId) (a : Nat → Nat) (L : List Nat) (c : Nat → Nat → Int32) (g : Nat → Nat → Int64) (r : Nat → Nat → Option Nat) (nl nk : Nat) (hL : zLv L nl nk) (hR : RC r nl nk) (hI : CI c nl nk) (k : Nat) (hk : k < nk) (hand fr to : Int32) : zPI l yX1_isRecalled wsX1_isRecalled { frames := 1, cells := 0, slots := 0, locals := 22 } D cy a L c g r [Value.ref (a (200 + k)), Value.int hand, Value.int fr, Value.int to] (fun v => (v = 1 ∧ ((hand.toInt = -1 ∨ hand.toInt = (nn c (200 + k) 1 : Int)) ∧ fr.toInt ≤ (nn c (200 + k) 2 : Int) ∧ (nn c (200 + k) 2 : Int) ≤ to.toInt)) ∨ (v = 0 ∧ ¬ ((hand.toInt = -1 ∨ hand.toInt = (nn c (200 + k) 1 : Int)) ∧ fr.toInt ≤ (nn c (200 + k) 2 : Int) ∧ (nn c (200 + k) 2 : Int) ≤ to.toInt))) := by
  refine z_enter cX1_isRecalled 4 (some .boolean) (by decide) (Nat.le_of_ble_eq_true rfl) ?_
  intro p e s m below meth co C hin
  have C : zC p s m _ meth co D cy _ cX1_isRecalled 4 (some .boolean) wsX1_isRecalled RX1 := C
  have i1 : ∀ w ∈ wsX10, w ∈ wsX1_isRecalled := by decide +kernel
  have h40 := CI_nk40 hI
  have hp1 := (CI_lump hI hk).2.1.2
  have hp2 := (CI_lump hI hk).2.2.1.2
  have hp3 := (CI_lump hI hk).2.2.2.1.2
  have hp4 := (CI_lump hI hk).2.2.2.2.1.2
  refine z_iload_n C dX1_isRecalled_0 rfl (q := 1) rfl ?_
  refine z_iconst C dX1_isRecalled_1 (v := -1) (by decide) ?_
  refine z_icmp_eq C dX1_isRecalled_2 (tgt := 13) (by decide) (fun h2 => ?_) (fun h2 => ?_)
  · have q2 := iv_eq rfl (show (-1 : Int32).toInt = -1 from by decide) h2
    refine z_aload_n C dX1_isRecalled_13 rfl (q := 0) rfl ?_
    refine zg_X1_day C (k := 200 + k) (hL _ (by unfold live; omega)) (kd_k (by omega)) i1 (by decide +kernel) (v := nI (nn c (200 + k) 2)) (CI_lump hI (by omega)).2.2.1.1 dX1_isRecalled_14 ?_
    refine z_iload_n C dX1_isRecalled_17 rfl (q := 2) rfl ?_
    refine z_iload_n C dX1_isRecalled_18 rfl (q := 3) rfl ?_
    refine z_pI C (z_runSN C (As := [Value.int (nI (nn c (200 + k) 2)), Value.int fr, Value.int to]) (rest := []) (c_X7_within l D cy a L c g r (nI (nn c (200 + k) 2)) fr to (V := ((nn c (200 + k) 2 : Nat) : Int)) (LO := fr.toInt) (HI := to.toInt) (nI_toInt (by omega)) rfl rfl) ⟨va_cnB 3 C.2.2.2.2.2.1 gX1_isRecalled_X7_within_n30 rfl rfl rfl C.2.2.2.2.2.2.1.2.1.2.2.2.2.2.2.2.2.1 (C.2.2.2.2.2.1 _ (by decide +kernel)) (by decide +kernel) ⟨Nat.le_of_ble_eq_true rfl, Nat.le_of_ble_eq_true rfl⟩, C.2.2.2.2.2.1 _ (by decide +kernel), trivial⟩ rfl rfl (Nat.le_of_ble_eq_true rfl) dX1_isRecalled_19 ⟨Nat.zero_le _, Nat.zero_le _⟩) (fun v19 e19 => ?_)
    rcases e19 with ⟨rfl, e19⟩ | ⟨rfl, e19⟩
    · refine z_if_eq C dX1_isRecalled_22 (tgt := 29) (by decide) (fun h22 => absurd h22 (by decide)) (fun h22 => ?_)
      refine z_iconst C dX1_isRecalled_25 (v := 1) (by decide) ?_
      refine z_goto C dX1_isRecalled_26 (tgt := 30) (by decide) ?_
      exact z_zret C rfl (Nat.le_refl _) (Nat.le_refl _) dX1_isRecalled_30 rfl ⟨rfl, Or.inl ⟨rfl, by omega⟩⟩
    · refine z_if_eq C dX1_isRecalled_22 (tgt := 29) (by decide) (fun h22 => ?_) (fun h22 => absurd h22 (by decide))
      refine z_iconst C dX1_isRecalled_29 (v := 0) (by decide) ?_
      exact z_zret C rfl (Nat.le_refl _) (Nat.le_refl _) dX1_isRecalled_30 rfl ⟨rfl, Or.inr ⟨rfl, by omega⟩⟩
  · have q2 := iv_ne rfl (show (-1 : Int32).toInt = -1 from by decide) h2
    refine z_iload_n C dX1_isRecalled_5 rfl (q := 1) rfl ?_
    refine z_aload_n C dX1_isRecalled_6 rfl (q := 0) rfl ?_
    refine zg_X1_hand C (k := 200 + k) (hL _ (by unfold live; omega)) (kd_k (by omega)) i1 (by decide +kernel) (v := nI (nn c (200 + k) 1)) (CI_lump hI (by omega)).2.1.1 dX1_isRecalled_7 ?_
    refine z_icmp_ne C dX1_isRecalled_10 (tgt := 29) (by decide) (fun h10 => ?_) (fun h10 => ?_)
    · have q10 := iv_ne rfl (nI_toInt (by omega)) h10
      refine z_iconst C dX1_isRecalled_29 (v := 0) (by decide) ?_
      exact z_zret C rfl (Nat.le_refl _) (Nat.le_refl _) dX1_isRecalled_30 rfl ⟨rfl, Or.inr ⟨rfl, by omega⟩⟩
    · have q10 := iv_eq rfl (nI_toInt (by omega)) h10
      refine z_aload_n C dX1_isRecalled_13 rfl (q := 0) rfl ?_
      refine zg_X1_day C (k := 200 + k) (hL _ (by unfold live; omega)) (kd_k (by omega)) i1 (by decide +kernel) (v := nI (nn c (200 + k) 2)) (CI_lump hI (by omega)).2.2.1.1 dX1_isRecalled_14 ?_
      refine z_iload_n C dX1_isRecalled_17 rfl (q := 2) rfl ?_
      refine z_iload_n C dX1_isRecalled_18 rfl (q := 3) rfl ?_
      refine z_pI C (z_runSN C (As := [Value.int (nI (nn c (200 + k) 2)), Value.int fr, Value.int to]) (rest := []) (c_X7_within l D cy a L c g r (nI (nn c (200 + k) 2)) fr to (V := ((nn c (200 + k) 2 : Nat) : Int)) (LO := fr.toInt) (HI := to.toInt) (nI_toInt (by omega)) rfl rfl) ⟨va_cnB 3 C.2.2.2.2.2.1 gX1_isRecalled_X7_within_n30 rfl rfl rfl C.2.2.2.2.2.2.1.2.1.2.2.2.2.2.2.2.2.1 (C.2.2.2.2.2.1 _ (by decide +kernel)) (by decide +kernel) ⟨Nat.le_of_ble_eq_true rfl, Nat.le_of_ble_eq_true rfl⟩, C.2.2.2.2.2.1 _ (by decide +kernel), trivial⟩ rfl rfl (Nat.le_of_ble_eq_true rfl) dX1_isRecalled_19 ⟨Nat.zero_le _, Nat.zero_le _⟩) (fun v19 e19 => ?_)
      rcases e19 with ⟨rfl, e19⟩ | ⟨rfl, e19⟩
      · refine z_if_eq C dX1_isRecalled_22 (tgt := 29) (by decide) (fun h22 => absurd h22 (by decide)) (fun h22 => ?_)
        refine z_iconst C dX1_isRecalled_25 (v := 1) (by decide) ?_
        refine z_goto C dX1_isRecalled_26 (tgt := 30) (by decide) ?_
        exact z_zret C rfl (Nat.le_refl _) (Nat.le_refl _) dX1_isRecalled_30 rfl ⟨rfl, Or.inl ⟨rfl, by omega⟩⟩
      · refine z_if_eq C dX1_isRecalled_22 (tgt := 29) (by decide) (fun h22 => ?_) (fun h22 => absurd h22 (by decide))
        refine z_iconst C dX1_isRecalled_29 (v := 0) (by decide) ?_
        exact z_zret C rfl (Nat.le_refl _) (Nat.le_refl _) dX1_isRecalled_30 rfl ⟨rfl, Or.inr ⟨rfl, by omega⟩⟩

set_option maxHeartbeats 4000000 in
set_option maxRecDepth 100000 in
theorem c_X2_isFull (l : Launch) (D : va_G) (cy : Nat → ClassId) (a : Nat → Nat) (L : List Nat) (c : Nat → Nat → Int32) (g : Nat → Nat → Int64) (r : Nat → Nat → Option Nat) (nl nk : Nat) (hL : zLv L nl nk) (hR : RC r nl nk) (hI : CI c nl nk) : zPI l yX2_isFull wsX2_isFull { frames := 0, cells := 0, slots := 0, locals := 0 } D cy a L c g r [Value.ref (a 6)] (fun v => (v = 1 ∧ (40 ≤ nk)) ∨ (v = 0 ∧ ¬ (40 ≤ nk))) := by
  refine z_enter cX2_isFull 1 (some .boolean) (by decide) (Nat.le_of_ble_eq_true rfl) ?_
  intro p e s m below meth co C hin
  have C : zC p s m _ meth co D cy _ cX2_isFull 1 (some .boolean) wsX2_isFull RX2 := C
  have i2 : ∀ w ∈ wsX20, w ∈ wsX2_isFull := by decide +kernel
  have h40 := CI_nk40 hI
  refine z_aload_n C dX2_isFull_0 rfl (q := 0) rfl ?_
  refine zg_X2_size C (k := 6) (hL _ (by unfold live; omega)) (by rfl) i2 (by decide +kernel) (v := nI nk) (CI_nk hI) dX2_isFull_1 ?_
  refine z_bipush C dX2_isFull_4 (v := 40) (by decide) ?_
  refine z_icmp_lt C dX2_isFull_6 (tgt := 13) (by decide) (fun h6 => ?_) (fun h6 => ?_)
  · have q6 := iv_lt (nI_toInt (by omega)) (show (40 : Int32).toInt = 40 from by decide) h6
    refine z_iconst C dX2_isFull_13 (v := 0) (by decide) ?_
    exact z_zret C rfl (Nat.le_refl _) (Nat.le_refl _) dX2_isFull_14 rfl ⟨rfl, Or.inr ⟨rfl, by omega⟩⟩
  · have q6 := iv_nlt (nI_toInt (by omega)) (show (40 : Int32).toInt = 40 from by decide) h6
    refine z_iconst C dX2_isFull_9 (v := 1) (by decide) ?_
    refine z_goto C dX2_isFull_10 (tgt := 14) (by decide) ?_
    exact z_zret C rfl (Nat.le_refl _) (Nat.le_refl _) dX2_isFull_14 rfl ⟨rfl, Or.inl ⟨rfl, by omega⟩⟩

set_option maxHeartbeats 4000000 in
set_option maxRecDepth 100000 in
theorem c_X2_lumpAt (l : Launch) (D : va_G) (cy : Nat → ClassId) (a : Nat → Nat) (L : List Nat) (c : Nat → Nat → Int32) (g : Nat → Nat → Int64) (r : Nat → Nat → Option Nat) (nl nk : Nat) (hL : zLv L nl nk) (hR : RC r nl nk) (hI : CI c nl nk) (lump : Int32) : zPQ l yX2_lumpAt wsX2_lumpAt { frames := 1, cells := 0, slots := 0, locals := 22 } D cy a L c g r [Value.ref (a 6), Value.int lump] (fun o => (∃ j, j < nk ∧ lump = nI j ∧ o = some (200 + j)) ∨ (o = none ∧ ¬ (0 ≤ lump.toInt ∧ lump.toInt < (nk : Int)))) := by
  refine z_enter cX2_lumpAt 2 (some (.object "LetteredRock$Lump")) (by decide) (Nat.le_of_ble_eq_true rfl) ?_
  intro p e s m below meth co C hin
  have C : zC p s m _ meth co D cy _ cX2_lumpAt 2 (some (.object "LetteredRock$Lump")) wsX2_lumpAt RX2 := C
  have i2 : ∀ w ∈ wsX20, w ∈ wsX2_lumpAt := by decide +kernel
  have h40 := CI_nk40 hI
  refine z_iload_n C dX2_lumpAt_0 rfl (q := 1) rfl ?_
  refine z_iconst C dX2_lumpAt_1 (v := 0) (by decide) ?_
  refine z_aload_n C dX2_lumpAt_2 rfl (q := 0) rfl ?_
  refine zg_X2_size C (k := 6) (hL _ (by unfold live; omega)) (by rfl) i2 (by decide +kernel) (v := nI nk) (CI_nk hI) dX2_lumpAt_3 ?_
  refine z_iconst C dX2_lumpAt_6 (v := 1) (by decide) ?_
  refine z_isub C dX2_lumpAt_7 (v := (nI nk) - 1) rfl ?_
  refine z_pI C (z_runSN C (As := [Value.int lump, Value.int 0, Value.int ((nI nk) - 1)]) (rest := []) (c_X7_within l D cy a L c g r lump 0 ((nI nk) - 1) (V := lump.toInt) (LO := 0) (HI := ((nk : Nat) : Int) - 1) rfl (show (0 : Int32).toInt = 0 from by decide) (tI_pred (by omega))) ⟨va_cnB 3 C.2.2.2.2.2.1 gX2_lumpAt_X7_within_n35 rfl rfl rfl C.2.2.2.2.2.2.1.2.1.2.2.2.2.2.2.2.1 (C.2.2.2.2.2.1 _ (by decide +kernel)) (by decide +kernel) ⟨Nat.le_of_ble_eq_true rfl, Nat.le_of_ble_eq_true rfl⟩, C.2.2.2.2.2.1 _ (by decide +kernel), trivial⟩ rfl rfl (Nat.le_of_ble_eq_true rfl) dX2_lumpAt_8 ⟨Nat.zero_le _, Nat.zero_le _⟩) (fun v8 e8 => ?_)
  rcases e8 with ⟨rfl, e8⟩ | ⟨rfl, e8⟩
  · refine z_if_eq C dX2_lumpAt_11 (tgt := 23) (by decide) (fun h11 => absurd h11 (by decide)) (fun h11 => ?_)
    refine z_aload_n C dX2_lumpAt_14 rfl (q := 0) rfl ?_
    refine zg_X2_lumps C (k := 6) (hL _ (by unfold live; omega)) (by rfl) i2 (by decide +kernel) (k' := 7) (RC_lumps hR) dX2_lumpAt_15 ?_
    refine z_iload_n C dX2_lumpAt_18 rfl (q := 1) rfl ?_
    have hj := tI_of e8.1
    obtain ⟨j, ej⟩ : ∃ j, j = lump.toInt.toNat := ⟨_, rfl⟩
    rw [← ej] at hj
    refine z_aaload C (k := 7) (hL _ (by unfold live; omega)) (by rfl) (by decide) (j := j) hj (by rw [show ln 7 = 40 from rfl]; omega) (by rw [show ln 7 = 40 from rfl]; decide) (v := .ref (a (200 + j))) (by rw [RC_lump hR (by omega)]; rfl) dX2_lumpAt_19 ?_
    refine z_goto C dX2_lumpAt_20 (tgt := 24) (by decide) ?_
    exact z_aret C (Or.inl ⟨_, rfl⟩) (o := some (200 + j)) rfl (Nat.le_refl _) (Nat.le_refl _) dX2_lumpAt_24 ⟨rfl, Or.inl ⟨_, by omega, hj, rfl⟩⟩
  · refine z_if_eq C dX2_lumpAt_11 (tgt := 23) (by decide) (fun h11 => ?_) (fun h11 => absurd h11 (by decide))
    refine z_null C dX2_lumpAt_23 ?_
    exact z_aret C (Or.inl ⟨_, rfl⟩) (o := none) rfl (Nat.le_refl _) (Nat.le_refl _) dX2_lumpAt_24 ⟨rfl, Or.inr ⟨rfl, by omega⟩⟩

def latestC (c : Nat → Nat → Int32) (nk : Nat) : Nat := if nk = 0 then 0 else nn c (200 + (nk - 1)) 2

set_option maxHeartbeats 4000000 in
set_option maxRecDepth 100000 in
theorem c_X2_latestDay (l : Launch) (D : va_G) (cy : Nat → ClassId) (a : Nat → Nat) (L : List Nat) (c : Nat → Nat → Int32) (g : Nat → Nat → Int64) (r : Nat → Nat → Option Nat) (nl nk : Nat) (hL : zLv L nl nk) (hR : RC r nl nk) (hI : CI c nl nk) : zPI l yX2_latestDay wsX2_latestDay { frames := 0, cells := 0, slots := 0, locals := 0 } D cy a L c g r [Value.ref (a 6)] (fun v => v = nI (if nk = 0 then 0 else nn c (200 + (nk - 1)) 2)) := by
  refine z_enter cX2_latestDay 1 (some .int) (by decide) (Nat.le_of_ble_eq_true rfl) ?_
  intro p e s m below meth co C hin
  have C : zC p s m _ meth co D cy _ cX2_latestDay 1 (some .int) wsX2_latestDay RX2 := C
  have i1 : ∀ w ∈ wsX10, w ∈ wsX2_latestDay := by decide +kernel
  have i2 : ∀ w ∈ wsX20, w ∈ wsX2_latestDay := by decide +kernel
  have h40 := CI_nk40 hI
  refine z_aload_n C dX2_latestDay_0 rfl (q := 0) rfl ?_
  refine zg_X2_size C (k := 6) (hL _ (by unfold live; omega)) (by rfl) i2 (by decide +kernel) (v := nI nk) (CI_nk hI) dX2_latestDay_1 ?_
  refine z_if_ne C dX2_latestDay_4 (tgt := 11) (by decide) (fun h4 => ?_) (fun h4 => ?_)
  · have q4 := iv_ne (y := 0) (nI_toInt (by omega)) (show (0 : Int32).toInt = 0 from by decide) h4
    refine z_aload_n C dX2_latestDay_11 rfl (q := 0) rfl ?_
    refine zg_X2_lumps C (k := 6) (hL _ (by unfold live; omega)) (by rfl) i2 (by decide +kernel) (k' := 7) (RC_lumps hR) dX2_latestDay_12 ?_
    refine z_aload_n C dX2_latestDay_15 rfl (q := 0) rfl ?_
    refine zg_X2_size C (k := 6) (hL _ (by unfold live; omega)) (by rfl) i2 (by decide +kernel) (v := nI nk) (CI_nk hI) dX2_latestDay_16 ?_
    refine z_iconst C dX2_latestDay_19 (v := 1) (by decide) ?_
    refine z_isub C dX2_latestDay_20 (v := (nI nk) - 1) rfl ?_
    refine z_aaload C (k := 7) (hL _ (by unfold live; omega)) (by rfl) (by decide) (j := nk - 1) (pk_sub (b := 1) (by omega)) (by rw [show ln 7 = 40 from rfl]; omega) (by rw [show ln 7 = 40 from rfl]; decide) (v := .ref (a (200 + (nk - 1)))) (by rw [RC_lump hR (by omega)]; rfl) dX2_latestDay_21 ?_
    refine zg_X1_day C (k := 200 + (nk - 1)) (hL _ (by unfold live; omega)) (kd_k (by omega)) i1 (by decide +kernel) (v := nI (nn c (200 + (nk - 1)) 2)) (CI_lump hI (by omega)).2.2.1.1 dX2_latestDay_22 ?_
    exact z_iret C rfl (Nat.le_refl _) (Nat.le_refl _) dX2_latestDay_25 ⟨rfl, by rw [if_neg (by omega)]⟩
  · have q4 := iv_eq (y := 0) (nI_toInt (by omega)) (show (0 : Int32).toInt = 0 from by decide) h4
    refine z_iconst C dX2_latestDay_7 (v := 0) (by decide) ?_
    refine z_goto C dX2_latestDay_8 (tgt := 25) (by decide) ?_
    exact z_iret C rfl (Nat.le_refl _) (Nat.le_refl _) dX2_latestDay_25 ⟨rfl, by rw [if_pos (by omega)]; rfl⟩
