set_option maxHeartbeats 4000000 in
set_option maxRecDepth 100000 in
theorem c_X7_isSpan (l : Launch) (D : va_G) (cy : Nat → ClassId) (a : Nat → Nat) (L : List Nat) (c : Nat → Nat → Int32) (g : Nat → Nat → Int64) (r : Nat → Nat → Option Nat) (fr to mo : Int32) {M : Int} (hm : mo.toInt = M) : zPI l yX7_isSpan wsX7_isSpan { frames := 0, cells := 0, slots := 0, locals := 0 } D cy a L c g r [Value.int fr, Value.int to, Value.int mo] (fun v => (v = 1 ∧ (0 ≤ fr.toInt ∧ fr.toInt ≤ to.toInt ∧ to.toInt ≤ M)) ∨ (v = 0 ∧ ¬ (0 ≤ fr.toInt ∧ fr.toInt ≤ to.toInt ∧ to.toInt ≤ M))) := by
  refine z_enter cX7_isSpan 3 (some .boolean) (by decide) (Nat.le_of_ble_eq_true rfl) ?_
  intro p e s m below meth co C hin
  have C : zC p s m _ meth co D cy _ cX7_isSpan 3 (some .boolean) wsX7_isSpan RX7 := C
  refine z_iload_n C dX7_isSpan_0 rfl (q := 0) rfl ?_
  refine z_if_lt C dX7_isSpan_1 (tgt := 18) (by decide) (fun h1 => ?_) (fun h1 => ?_)
  · have q1 := iv_lt rfl (show (0 : Int32).toInt = 0 from by decide) h1
    refine z_iconst C dX7_isSpan_18 (v := 0) (by decide) ?_
    exact z_zret C rfl (Nat.le_refl _) (Nat.le_refl _) dX7_isSpan_19 rfl ⟨rfl, Or.inr ⟨rfl, by omega⟩⟩
  · have q1 := iv_nlt rfl (show (0 : Int32).toInt = 0 from by decide) h1
    refine z_iload_n C dX7_isSpan_4 rfl (q := 0) rfl ?_
    refine z_iload_n C dX7_isSpan_5 rfl (q := 1) rfl ?_
    refine z_icmp_gt C dX7_isSpan_6 (tgt := 18) (by decide) (fun h6 => ?_) (fun h6 => ?_)
    · have q6 := iv_lt rfl rfl h6
      refine z_iconst C dX7_isSpan_18 (v := 0) (by decide) ?_
      exact z_zret C rfl (Nat.le_refl _) (Nat.le_refl _) dX7_isSpan_19 rfl ⟨rfl, Or.inr ⟨rfl, by omega⟩⟩
    · have q6 := iv_nlt rfl rfl h6
      refine z_iload_n C dX7_isSpan_9 rfl (q := 1) rfl ?_
      refine z_iload_n C dX7_isSpan_10 rfl (q := 2) rfl ?_
      refine z_icmp_gt C dX7_isSpan_11 (tgt := 18) (by decide) (fun h11 => ?_) (fun h11 => ?_)
      · have q11 := iv_lt rfl rfl h11
        refine z_iconst C dX7_isSpan_18 (v := 0) (by decide) ?_
        exact z_zret C rfl (Nat.le_refl _) (Nat.le_refl _) dX7_isSpan_19 rfl ⟨rfl, Or.inr ⟨rfl, by omega⟩⟩
      · have q11 := iv_nlt rfl rfl h11
        refine z_iconst C dX7_isSpan_14 (v := 1) (by decide) ?_
        refine z_goto C dX7_isSpan_15 (tgt := 19) (by decide) ?_
        exact z_zret C rfl (Nat.le_refl _) (Nat.le_refl _) dX7_isSpan_19 rfl ⟨rfl, Or.inl ⟨rfl, by omega⟩⟩

set_option maxHeartbeats 4000000 in
set_option maxRecDepth 100000 in
theorem c_X7_isWeek (l : Launch) (D : va_G) (cy : Nat → ClassId) (a : Nat → Nat) (L : List Nat) (c : Nat → Nat → Int32) (g : Nat → Nat → Int64) (r : Nat → Nat → Option Nat) (v : Int32) : zPI l yX7_isWeek wsX7_isWeek { frames := 1, cells := 0, slots := 0, locals := 22 } D cy a L c g r [Value.int v] (fun z => (z = 1 ∧ (0 ≤ v.toInt ∧ v.toInt ≤ 51)) ∨ (z = 0 ∧ ¬ (0 ≤ v.toInt ∧ v.toInt ≤ 51))) := by
  refine z_enter cX7_isWeek 1 (some .boolean) (by decide) (Nat.le_of_ble_eq_true rfl) ?_
  intro p e s m below meth co C hin
  have C : zC p s m _ meth co D cy _ cX7_isWeek 1 (some .boolean) wsX7_isWeek RX7 := C
  refine z_iload_n C dX7_isWeek_0 rfl (q := 0) rfl ?_
  refine z_iconst C dX7_isWeek_1 (v := 0) (by decide) ?_
  refine z_bipush C dX7_isWeek_2 (v := 51) (by decide) ?_
  refine z_pI C (z_runS C (As := [Value.int v, Value.int 0, Value.int 51]) (rest := []) (c_X7_within l D cy a L c g r v 0 51 (V := v.toInt) (LO := 0) (HI := 51) rfl (show (0 : Int32).toInt = 0 from by decide) (show (51 : Int32).toInt = 51 from by decide)) (va_cwS 3 C.2.2.2.2.2.1 gX7_isWeek_X7_within rfl rfl rfl (by decide +kernel) ⟨Nat.le_of_ble_eq_true rfl, Nat.le_of_ble_eq_true rfl⟩) rfl rfl (Nat.le_of_ble_eq_true rfl) dX7_isWeek_4 ⟨Nat.zero_le _, Nat.zero_le _⟩) (fun v4 e4 => ?_)
  rcases e4 with ⟨rfl, e4⟩ | ⟨rfl, e4⟩
  · exact z_zret C rfl (Nat.le_refl _) (Nat.le_refl _) dX7_isWeek_7 rfl ⟨rfl, Or.inl ⟨rfl, by omega⟩⟩
  · exact z_zret C rfl (Nat.le_refl _) (Nat.le_refl _) dX7_isWeek_7 rfl ⟨rfl, Or.inr ⟨rfl, by omega⟩⟩

set_option maxHeartbeats 4000000 in
set_option maxRecDepth 100000 in
theorem c_X7_isSheet (l : Launch) (D : va_G) (cy : Nat → ClassId) (a : Nat → Nat) (L : List Nat) (c : Nat → Nat → Int32) (g : Nat → Nat → Int64) (r : Nat → Nat → Option Nat) (v : Int32) : zPI l yX7_isSheet wsX7_isSheet { frames := 1, cells := 0, slots := 0, locals := 22 } D cy a L c g r [Value.int v] (fun z => (z = 1 ∧ (0 ≤ v.toInt ∧ v.toInt ≤ 3)) ∨ (z = 0 ∧ ¬ (0 ≤ v.toInt ∧ v.toInt ≤ 3))) := by
  refine z_enter cX7_isSheet 1 (some .boolean) (by decide) (Nat.le_of_ble_eq_true rfl) ?_
  intro p e s m below meth co C hin
  have C : zC p s m _ meth co D cy _ cX7_isSheet 1 (some .boolean) wsX7_isSheet RX7 := C
  refine z_iload_n C dX7_isSheet_0 rfl (q := 0) rfl ?_
  refine z_iconst C dX7_isSheet_1 (v := 0) (by decide) ?_
  refine z_iconst C dX7_isSheet_2 (v := 3) (by decide) ?_
  refine z_pI C (z_runS C (As := [Value.int v, Value.int 0, Value.int 3]) (rest := []) (c_X7_within l D cy a L c g r v 0 3 (V := v.toInt) (LO := 0) (HI := 3) rfl (show (0 : Int32).toInt = 0 from by decide) (show (3 : Int32).toInt = 3 from by decide)) (va_cwS 3 C.2.2.2.2.2.1 gX7_isSheet_X7_within rfl rfl rfl (by decide +kernel) ⟨Nat.le_of_ble_eq_true rfl, Nat.le_of_ble_eq_true rfl⟩) rfl rfl (Nat.le_of_ble_eq_true rfl) dX7_isSheet_3 ⟨Nat.zero_le _, Nat.zero_le _⟩) (fun v3 e3 => ?_)
  rcases e3 with ⟨rfl, e3⟩ | ⟨rfl, e3⟩
  · exact z_zret C rfl (Nat.le_refl _) (Nat.le_refl _) dX7_isSheet_6 rfl ⟨rfl, Or.inl ⟨rfl, by omega⟩⟩
  · exact z_zret C rfl (Nat.le_refl _) (Nat.le_refl _) dX7_isSheet_6 rfl ⟨rfl, Or.inr ⟨rfl, by omega⟩⟩

set_option maxHeartbeats 4000000 in
set_option maxRecDepth 100000 in
theorem c_X7_isForm (l : Launch) (D : va_G) (cy : Nat → ClassId) (a : Nat → Nat) (L : List Nat) (c : Nat → Nat → Int32) (g : Nat → Nat → Int64) (r : Nat → Nat → Option Nat) (v : Int32) : zPI l yX7_isForm wsX7_isForm { frames := 1, cells := 0, slots := 0, locals := 22 } D cy a L c g r [Value.int v] (fun z => (z = 1 ∧ (0 ≤ v.toInt ∧ v.toInt ≤ 2)) ∨ (z = 0 ∧ ¬ (0 ≤ v.toInt ∧ v.toInt ≤ 2))) := by
  refine z_enter cX7_isForm 1 (some .boolean) (by decide) (Nat.le_of_ble_eq_true rfl) ?_
  intro p e s m below meth co C hin
  have C : zC p s m _ meth co D cy _ cX7_isForm 1 (some .boolean) wsX7_isForm RX7 := C
  refine z_iload_n C dX7_isForm_0 rfl (q := 0) rfl ?_
  refine z_iconst C dX7_isForm_1 (v := 0) (by decide) ?_
  refine z_iconst C dX7_isForm_2 (v := 2) (by decide) ?_
  refine z_pI C (z_runS C (As := [Value.int v, Value.int 0, Value.int 2]) (rest := []) (c_X7_within l D cy a L c g r v 0 2 (V := v.toInt) (LO := 0) (HI := 2) rfl (show (0 : Int32).toInt = 0 from by decide) (show (2 : Int32).toInt = 2 from by decide)) (va_cwS 3 C.2.2.2.2.2.1 gX7_isForm_X7_within rfl rfl rfl (by decide +kernel) ⟨Nat.le_of_ble_eq_true rfl, Nat.le_of_ble_eq_true rfl⟩) rfl rfl (Nat.le_of_ble_eq_true rfl) dX7_isForm_3 ⟨Nat.zero_le _, Nat.zero_le _⟩) (fun v3 e3 => ?_)
  rcases e3 with ⟨rfl, e3⟩ | ⟨rfl, e3⟩
  · exact z_zret C rfl (Nat.le_refl _) (Nat.le_refl _) dX7_isForm_6 rfl ⟨rfl, Or.inl ⟨rfl, by omega⟩⟩
  · exact z_zret C rfl (Nat.le_refl _) (Nat.le_refl _) dX7_isForm_6 rfl ⟨rfl, Or.inr ⟨rfl, by omega⟩⟩

set_option maxHeartbeats 4000000 in
set_option maxRecDepth 100000 in
theorem c_X7_atMostInt (l : Launch) (D : va_G) (cy : Nat → ClassId) (a : Nat → Nat) (L : List Nat) (c : Nat → Nat → Int32) (g : Nat → Nat → Int64) (r : Nat → Nat → Option Nat) (v : Int64) : zPI l yX7_atMostInt wsX7_atMostInt { frames := 1, cells := 0, slots := 0, locals := 23 } D cy a L c g r [Value.long v] (fun z => z = (if 2147483647 < v then 2147483647 else v).toInt32) := by
  refine z_enter cX7_atMostInt 2 (some .int) (by decide) (Nat.le_of_ble_eq_true rfl) ?_
  intro p e s m below meth co C hin
  have C : zC p s m _ meth co D cy _ cX7_atMostInt 2 (some .int) wsX7_atMostInt RX7 := C
  refine z_lload_n C dX7_atMostInt_0 rfl (q := 0) rfl ?_
  refine z_ldc2 C dX7_atMostInt_1 (v := 2147483647) (by decide +kernel) ?_
  refine z_mminL C (by decide +kernel) (by decide +kernel) (by decide +kernel) (by decide +kernel) (Nat.le_of_ble_eq_true rfl) (Nat.le_of_ble_eq_true rfl) (Nat.zero_le _) (Nat.zero_le _) (v := if 2147483647 < v then 2147483647 else v) rfl dX7_atMostInt_4 ?_
  refine z_l2i C dX7_atMostInt_7 (v := (if 2147483647 < v then 2147483647 else v).toInt32) rfl ?_
  exact z_iret C rfl (Nat.le_refl _) (Nat.le_refl _) dX7_atMostInt_8 ⟨rfl, rfl⟩

set_option maxHeartbeats 4000000 in
set_option maxRecDepth 100000 in
theorem c_X7_letterAt (l : Launch) (D : va_G) (cy : Nat → ClassId) (a : Nat → Nat) (L : List Nat) (c : Nat → Nat → Int32) (g : Nat → Nat → Int64) (r : Nat → Nat → Option Nat) (nl nk : Nat) (hL : zLv L nl nk) (hR : RC r nl nk) (hI : CI c nl nk) (v : Int32) : zPQ l yX7_letterAt wsX7_letterAt { frames := 1, cells := 0, slots := 0, locals := 22 } D cy a L c g r [Value.ref (a 0), Value.int v] (fun o => (∃ j, j < nl ∧ v = nI j ∧ o = some (100 + j)) ∨ (o = none ∧ ¬ (0 ≤ v.toInt ∧ v.toInt < (nl : Int)))) := by
  refine z_enter cX7_letterAt 2 (some (.object "LetteredRock$Letter")) (by decide) (Nat.le_of_ble_eq_true rfl) ?_
  intro p e s m below meth co C hin
  have C : zC p s m _ meth co D cy _ cX7_letterAt 2 (some (.object "LetteredRock$Letter")) wsX7_letterAt RX7 := C
  have i7 : ∀ w ∈ wsX70, w ∈ wsX7_letterAt := by decide +kernel
  have h16 := CI_nl16 hI
  refine z_iload_n C dX7_letterAt_0 rfl (q := 1) rfl ?_
  refine z_iconst C dX7_letterAt_1 (v := 0) (by decide) ?_
  refine z_aload_n C dX7_letterAt_2 rfl (q := 0) rfl ?_
  refine zg_X7_letterCount C (k := 0) (hL _ (by unfold live; omega)) (by rfl) i7 (by decide +kernel) (v := nI nl) (CI_nl hI) dX7_letterAt_3 ?_
  refine z_iconst C dX7_letterAt_6 (v := 1) (by decide) ?_
  refine z_isub C dX7_letterAt_7 (v := (nI nl) - 1) rfl ?_
  refine z_pI C (z_runS C (As := [Value.int v, Value.int 0, Value.int ((nI nl) - 1)]) (rest := []) (c_X7_within l D cy a L c g r v 0 ((nI nl) - 1) (V := v.toInt) (LO := 0) (HI := ((nl : Nat) : Int) - 1) rfl (show (0 : Int32).toInt = 0 from by decide) (tI_pred (by omega))) (va_cwS 3 C.2.2.2.2.2.1 gX7_letterAt_X7_within rfl rfl rfl (by decide +kernel) ⟨Nat.le_of_ble_eq_true rfl, Nat.le_of_ble_eq_true rfl⟩) rfl rfl (Nat.le_of_ble_eq_true rfl) dX7_letterAt_8 ⟨Nat.zero_le _, Nat.zero_le _⟩) (fun v8 e8 => ?_)
  rcases e8 with ⟨rfl, e8⟩ | ⟨rfl, e8⟩
  · refine z_if_eq C dX7_letterAt_11 (tgt := 23) (by decide) (fun h11 => absurd h11 (by decide)) (fun h11 => ?_)
    refine z_aload_n C dX7_letterAt_14 rfl (q := 0) rfl ?_
    refine zg_X7_alphabet C (k := 0) (hL _ (by unfold live; omega)) (by rfl) i7 (by decide +kernel) (k' := 1) (RC_alphabet hR) dX7_letterAt_15 ?_
    refine z_iload_n C dX7_letterAt_18 rfl (q := 1) rfl ?_
    have hj := tI_of e8.1
    obtain ⟨j, ej⟩ : ∃ j, j = v.toInt.toNat := ⟨_, rfl⟩
    rw [← ej] at hj
    refine z_aaload C (k := 1) (hL _ (by unfold live; omega)) (by rfl) (by decide) (j := j) hj (by rw [show ln 1 = 16 from rfl]; omega) (by rw [show ln 1 = 16 from rfl]; decide) (v := .ref (a (100 + j))) (by rw [RC_alpha hR (by omega)]; rfl) dX7_letterAt_19 ?_
    refine z_goto C dX7_letterAt_20 (tgt := 24) (by decide) ?_
    exact z_aret C (Or.inl ⟨_, rfl⟩) (o := some (100 + j)) rfl (Nat.le_refl _) (Nat.le_refl _) dX7_letterAt_24 ⟨rfl, Or.inl ⟨_, by omega, hj, rfl⟩⟩
  · refine z_if_eq C dX7_letterAt_11 (tgt := 23) (by decide) (fun h11 => ?_) (fun h11 => absurd h11 (by decide))
    refine z_null C dX7_letterAt_23 ?_
    exact z_aret C (Or.inl ⟨_, rfl⟩) (o := none) rfl (Nat.le_refl _) (Nat.le_refl _) dX7_letterAt_24 ⟨rfl, Or.inr ⟨rfl, by omega⟩⟩

set_option maxHeartbeats 4000000 in
set_option maxRecDepth 100000 in
theorem c_X7_wordAt (l : Launch) (D : va_G) (cy : Nat → ClassId) (a : Nat → Nat) (L : List Nat) (c : Nat → Nat → Int32) (g : Nat → Nat → Int64) (r : Nat → Nat → Option Nat) (nl nk : Nat) (hL : zLv L nl nk) (hR : RC r nl nk) (hI : CI c nl nk) (v : Int32) : zPQ l yX7_wordAt wsX7_wordAt { frames := 1, cells := 0, slots := 0, locals := 22 } D cy a L c g r [Value.ref (a 0), Value.int v] (fun o => (∃ j, j < 8 ∧ v = nI j ∧ o = some (20 + j)) ∨ (o = none ∧ ¬ (0 ≤ v.toInt ∧ v.toInt < 8))) := by
  refine z_enter cX7_wordAt 2 (some (.object "LetteredRock$Word")) (by decide) (Nat.le_of_ble_eq_true rfl) ?_
  intro p e s m below meth co C hin
  have C : zC p s m _ meth co D cy _ cX7_wordAt 2 (some (.object "LetteredRock$Word")) wsX7_wordAt RX7 := C
  have i7 : ∀ w ∈ wsX70, w ∈ wsX7_wordAt := by decide +kernel
  refine z_iload_n C dX7_wordAt_0 rfl (q := 1) rfl ?_
  refine z_iconst C dX7_wordAt_1 (v := 0) (by decide) ?_
  refine z_bipush C dX7_wordAt_2 (v := 7) (by decide) ?_
  refine z_pI C (z_runS C (As := [Value.int v, Value.int 0, Value.int 7]) (rest := []) (c_X7_within l D cy a L c g r v 0 7 (V := v.toInt) (LO := 0) (HI := 7) rfl (show (0 : Int32).toInt = 0 from by decide) (show (7 : Int32).toInt = 7 from by decide)) (va_cwS 3 C.2.2.2.2.2.1 gX7_wordAt_X7_within rfl rfl rfl (by decide +kernel) ⟨Nat.le_of_ble_eq_true rfl, Nat.le_of_ble_eq_true rfl⟩) rfl rfl (Nat.le_of_ble_eq_true rfl) dX7_wordAt_4 ⟨Nat.zero_le _, Nat.zero_le _⟩) (fun v4 e4 => ?_)
  rcases e4 with ⟨rfl, e4⟩ | ⟨rfl, e4⟩
  · refine z_if_eq C dX7_wordAt_7 (tgt := 19) (by decide) (fun h7 => absurd h7 (by decide)) (fun h7 => ?_)
    refine z_aload_n C dX7_wordAt_10 rfl (q := 0) rfl ?_
    refine zg_X7_wordRow C (k := 0) (hL _ (by unfold live; omega)) (by rfl) i7 (by decide +kernel) (k' := 2) (RC_wordRow hR) dX7_wordAt_11 ?_
    refine z_iload_n C dX7_wordAt_14 rfl (q := 1) rfl ?_
    have hj := tI_of e4.1
    obtain ⟨j, ej⟩ : ∃ j, j = v.toInt.toNat := ⟨_, rfl⟩
    rw [← ej] at hj
    refine z_aaload C (k := 2) (hL _ (by unfold live; omega)) (by rfl) (by decide) (j := j) hj (by rw [show ln 2 = 8 from rfl]; omega) (by rw [show ln 2 = 8 from rfl]; decide) (v := .ref (a (20 + j))) (by rw [RC_word hR (by omega)]; rfl) dX7_wordAt_15 ?_
    refine z_goto C dX7_wordAt_16 (tgt := 20) (by decide) ?_
    exact z_aret C (Or.inl ⟨_, rfl⟩) (o := some (20 + j)) rfl (Nat.le_refl _) (Nat.le_refl _) dX7_wordAt_20 ⟨rfl, Or.inl ⟨_, by omega, hj, rfl⟩⟩
  · refine z_if_eq C dX7_wordAt_7 (tgt := 19) (by decide) (fun h7 => ?_) (fun h7 => absurd h7 (by decide))
    refine z_null C dX7_wordAt_19 ?_
    exact z_aret C (Or.inl ⟨_, rfl⟩) (o := none) rfl (Nat.le_refl _) (Nat.le_refl _) dX7_wordAt_20 ⟨rfl, Or.inr ⟨rfl, by omega⟩⟩

set_option maxHeartbeats 4000000 in
set_option maxRecDepth 100000 in
theorem c_X7_finding (l : Launch) (D : va_G) (cy : Nat → ClassId) (a : Nat → Nat) (L : List Nat) (c : Nat → Nat → Int32) (g : Nat → Nat → Int64) (r : Nat → Nat → Option Nat) (nl nk : Nat) (hL : zLv L nl nk) (n : Int32) : zCI l yX7_finding wsX7_finding { frames := 0, cells := 0, slots := 0, locals := 0 } D cy a L c g r [Value.ref (a 0), Value.int n] (fun v c' => v = -10 - n ∧ c' = up2 c 0 10 n) := by
  refine z_enter cX7_finding 2 (some .int) (by decide) (Nat.le_of_ble_eq_true rfl) ?_
  intro p e s m below meth co C hin
  have C : zC p s m _ meth co D cy _ cX7_finding 2 (some .int) wsX7_finding RX7 := C
  have i7 : ∀ w ∈ wsX70, w ∈ wsX7_finding := by decide +kernel
  refine z_aload_n C dX7_finding_0 rfl (q := 0) rfl ?_
  refine z_iload_n C dX7_finding_1 rfl (q := 1) rfl ?_
  refine zp_X7_latestFinding C (k := 0) (hL _ (by unfold live; omega)) (by rfl) i7 (by decide +kernel) dX7_finding_2 ?_
  refine z_bipush C dX7_finding_5 (v := -10) (by decide) ?_
  refine z_iload_n C dX7_finding_7 rfl (q := 1) rfl ?_
  refine z_isub C dX7_finding_8 (v := (-10) - n) rfl ?_
  exact z_iret C rfl (Nat.le_refl _) (Nat.le_refl _) dX7_finding_9 ⟨_, rfl, rfl, rfl⟩
