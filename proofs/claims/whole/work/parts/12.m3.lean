theorem fill_0 (c : Nat → Nat → Int32) (k : Nat) (v : Int32) : up1 c k (fun q => if q < 0 then v else c k q) = c := by
  funext k' i; unfold up1; split
  · rename_i h; subst h; simp
  · rfl
theorem fill_step (c : Nat → Nat → Int32) (k i : Nat) (v : Int32) : up2 (up1 c k (fun q => if q < i then v else c k q)) k i v = up1 c k (fun q => if q < i + 1 then v else c k q) := by
  funext k' j; unfold up2 up1
  by_cases hk : k' = k
  · subst hk
    simp only [if_true]
    by_cases hj : j = i
    · subst hj; simp
    · by_cases h2 : j < i
      · simp [hj, h2, Nat.lt_succ_of_lt h2]
      · simp [hj, h2, show ¬ j < i + 1 by omega]
  · simp [hk]

set_option maxHeartbeats 4000000 in
set_option maxRecDepth 100000 in
theorem c_J7_fill_53178 (l : Launch) (D : va_G) (cy : Nat → ClassId) (a : Nat → Nat) (L : List Nat) (c : Nat → Nat → Int32) (g : Nat → Nat → Int64) (r : Nat → Nat → Option Nat) (k : Nat) (hk : k ∈ L) (hkd : kd k = 9) (hln : ln k < 2 ^ 31) (v : Int32) : zCV l yJ7_fill_53178 wsJ7_fill_53178 { frames := 0, cells := 0, slots := 0, locals := 0 } D cy a L c g r [Value.ref (a k), Value.int v] (fun c' => c' = up1 c k (fun q => if q < ln k then v else c k q)) := by
  refine z_enter cJ7_fill_53178 4 none (by decide) (Nat.le_of_ble_eq_true rfl) ?_
  intro p e s m below meth co C hin
  have C : zC p s m _ meth co D cy _ cJ7_fill_53178 4 none wsJ7_fill_53178 RJ7 := C
  refine z_iconst C dJ7_fill_53178_0 (v := nI 0) (by decide) ?_
  refine z_istore_n C dJ7_fill_53178_1 rfl (by decide) (lv' := [(2, Value.int (nI 0)), (0, Value.ref (a k)), (1, Value.int v)]) rfl ?_
  refine z_aload_n C dJ7_fill_53178_2 rfl (q := 1) rfl ?_
  refine z_alen C (k := k) hk hkd (v := nI (ln k)) rfl dJ7_fill_53178_3 ?_
  refine z_istore_n C dJ7_fill_53178_4 rfl (by decide) (lv' := [(3, Value.int (nI (ln k))), (2, Value.int (nI 0)), (0, Value.ref (a k)), (1, Value.int v)]) rfl ?_
  refine z_sub [1, 0, 2, 3] (lv' := [(2, Value.int (nI 0)), (3, Value.int (nI (ln k))), (0, Value.ref (a k)), (1, Value.int v)]) rfl ?_
  refine z_ceq (fill_0 c k v) ?_
  refine z_for 0 (ln k) (Nat.zero_le _) (fun i => [(2, Value.int (nI i)), (3, Value.int (nI (ln k))), (0, Value.ref (a k)), (1, Value.int v)]) (fun i => up1 c k (fun q => if q < i then v else c k q)) (fun i => g) ?_ ?_
  · refine z_iload_n C dJ7_fill_53178_5 rfl (q := 0) rfl ?_
    refine z_iload_n C dJ7_fill_53178_6 rfl (q := 1) rfl ?_
    refine z_icmp_ge C dJ7_fill_53178_7 (tgt := 20) (by decide) (fun h7 => ?_) (fun h7 => absurd (Int32.le_refl _) h7)
    exact z_vret C rfl (Nat.le_refl _) (Nat.le_refl _) dJ7_fill_53178_20 ⟨_, rfl, rfl⟩
  · intro i hli hi ihi
    refine z_iload_n C dJ7_fill_53178_5 rfl (q := 0) rfl ?_
    refine z_iload_n C dJ7_fill_53178_6 rfl (q := 1) rfl ?_
    refine z_icmp_ge C dJ7_fill_53178_7 (tgt := 20) (by decide) (fun h7 => absurd h7 (nI_ge hi hln)) (fun h7 => ?_)
    refine z_aload_n C dJ7_fill_53178_10 rfl (q := 2) rfl ?_
    refine z_iload_n C dJ7_fill_53178_11 rfl (q := 0) rfl ?_
    refine z_iload_n C dJ7_fill_53178_12 rfl (q := 3) rfl ?_
    refine z_iastore C (k := k) hk hkd (j := i) rfl hi hln dJ7_fill_53178_13 ?_
    refine z_iinc C dJ7_fill_53178_14 (q := 0) rfl (v := nI (i + 1)) (nI_1 _) (by decide) (lv' := [(2, Value.int (nI (i + 1))), (3, Value.int (nI (ln k))), (0, Value.ref (a k)), (1, Value.int v)]) rfl ?_
    refine z_goto C dJ7_fill_53178_17 (tgt := 5) (by decide) ?_
    refine z_ceq (fill_step c k i v).symm ?_
    exact ihi

theorem wideC_le {c : Nat → Nat → Int32} {r : Nat → Nat → Option Nat} {nl nk : Nat} (hI : CI c nl nk) {x : Nat → Nat → Nat} (hX : XC c r nl x) {w : Nat} (hw : w < 8) : wideC c x w ≤ 80 := by
  have h1 := (CI_sz hI hw).2.2
  have h2 : wideC c x w ≤ nn c (20 + w) 1 * 8 := sumF_le (fun i hi => by
    have h3 := (CI_wi hI (XC_l hX hw hi)).2.2
    have h4 := (CI_G hI).2.2
    omega)
  omega

set_option maxHeartbeats 4000000 in
set_option maxRecDepth 100000 in
theorem c_X3_fits (l : Launch) (D : va_G) (cy : Nat → ClassId) (a : Nat → Nat) (L : List Nat) (c : Nat → Nat → Int32) (g : Nat → Nat → Int64) (r : Nat → Nat → Option Nat) (nl nk : Nat) (hL : zLv L nl nk) (hR : RC r nl nk) (hI : CI c nl nk) (x : Nat → Nat → Nat) (hX : XC c r nl x) (w : Nat) (hw : w < 8) : zPI l yX3_fits wsX3_fits { frames := 1, cells := 0, slots := 0, locals := 23 } D cy a L c g r [Value.ref (a 3), Value.ref (a (20 + w))] (fun v => (v = 1 ∧ (0 < nn c (20 + w) 1 ∧ wideC c x w ≤ nn c 3 1)) ∨ (v = 0 ∧ ¬ (0 < nn c (20 + w) 1 ∧ wideC c x w ≤ nn c 3 1))) := by
  refine z_enter cX3_fits 2 (some .boolean) (by decide) (Nat.le_of_ble_eq_true rfl) ?_
  intro p e s m below meth co C hin
  have C : zC p s m _ meth co D cy _ cX3_fits 2 (some .boolean) wsX3_fits RX3 := C
  have i3 : ∀ w ∈ wsX30, w ∈ wsX3_fits := by decide +kernel
  have i6 : ∀ w ∈ wsX60, w ∈ wsX3_fits := by decide +kernel
  have hs := (CI_S hI).2
  have hz := (CI_sz hI hw).2
  refine z_aload_n C dX3_fits_0 rfl (q := 1) rfl ?_
  refine zg_X6_size C (k := 20 + w) (hL _ (by unfold live; omega)) (kd_w (by omega)) i6 (by decide +kernel) (v := nI (nn c (20 + w) 1)) (CI_sz hI (by omega)).1 dX3_fits_1 ?_
  refine z_if_le C dX3_fits_4 (tgt := 23) (by decide) (fun h4 => ?_) (fun h4 => ?_)
  · have q4 := iv_le (nI_toInt (by omega)) (show (0 : Int32).toInt = 0 from by decide) h4
    refine z_iconst C dX3_fits_23 (v := 0) (by decide) ?_
    exact z_zret C rfl (Nat.le_refl _) (Nat.le_refl _) dX3_fits_24 rfl ⟨rfl, Or.inr ⟨rfl, by omega⟩⟩
  · have q4 := iv_nle (nI_toInt (by omega)) (show (0 : Int32).toInt = 0 from by decide) h4
    refine z_aload_n C dX3_fits_7 rfl (q := 0) rfl ?_
    refine z_aload_n C dX3_fits_8 rfl (q := 1) rfl ?_
    refine z_pI C (z_runV C (As := [Value.ref (a (20 + w))]) (rest := []) (c_X3_widthOf l D cy a L c g r nl nk hL hR hI x hX w (by omega)) (cwV 1 C.2.2.2.2.2.1 gX3_fits_X3_widthOf rfl rfl rfl (by decide +kernel) ⟨Nat.le_of_ble_eq_true rfl, Nat.le_of_ble_eq_true rfl⟩) (hL _ (by unfold live; omega)) (zF_k3 (by rfl)) rfl rfl rfl rfl (Nat.le_of_ble_eq_true rfl) dX3_fits_9 ⟨Nat.zero_le _, Nat.zero_le _⟩) (fun v9 e9 => ?_)
    subst e9
    have hwl := wideC_le hI hX hw
    refine z_aload_n C dX3_fits_12 rfl (q := 0) rfl ?_
    refine zg_X3_slotCount C (k := 3) (hL _ (by unfold live; omega)) (by rfl) i3 (by decide +kernel) (v := nI (nn c 3 1)) (CI_S hI).1 dX3_fits_13 ?_
    refine z_icmp_gt C dX3_fits_16 (tgt := 23) (by decide) (fun h16 => ?_) (fun h16 => ?_)
    · have q16 := iv_lt (nI_toInt (by omega)) (nI_toInt (by omega)) h16
      refine z_iconst C dX3_fits_23 (v := 0) (by decide) ?_
      exact z_zret C rfl (Nat.le_refl _) (Nat.le_refl _) dX3_fits_24 rfl ⟨rfl, Or.inr ⟨rfl, by omega⟩⟩
    · have q16 := iv_nlt (nI_toInt (by omega)) (nI_toInt (by omega)) h16
      refine z_iconst C dX3_fits_19 (v := 1) (by decide) ?_
      refine z_goto C dX3_fits_20 (tgt := 24) (by decide) ?_
      exact z_zret C rfl (Nat.le_refl _) (Nat.le_refl _) dX3_fits_24 rfl ⟨rfl, Or.inl ⟨rfl, by omega⟩⟩

set_option maxHeartbeats 4000000 in
set_option maxRecDepth 100000 in
theorem c_X3_slotSeen (l : Launch) (D : va_G) (cy : Nat → ClassId) (a : Nat → Nat) (L : List Nat) (c : Nat → Nat → Int32) (g : Nat → Nat → Int64) (r : Nat → Nat → Option Nat) (nl nk : Nat) (hL : zLv L nl nk) (hR : RC r nl nk) (hI : CI c nl nk) (t lk i : Nat) (ht : t < nn c 3 1) (hk : lk < 4) (hi : i < nn c 3 1) : zPI l yX3_slotSeen wsX3_slotSeen { frames := 0, cells := 0, slots := 0, locals := 0 } D cy a L c g r [Value.ref (a 3), Value.int (nI t), Value.int (nI lk), Value.int (nI i)] (fun v => v = nI (slotV (nn c 3 1) t lk i)) := by
  refine z_enter cX3_slotSeen 5 (some .int) (by decide) (Nat.le_of_ble_eq_true rfl) ?_
  intro p e s m below meth co C hin
  have C : zC p s m _ meth co D cy _ cX3_slotSeen 5 (some .int) wsX3_slotSeen RX3 := C
  have i3 : ∀ w ∈ wsX30, w ∈ wsX3_slotSeen := by decide +kernel
  have hs := (CI_S hI).2
  refine z_iload_n C dX3_slotSeen_0 rfl (q := 2) rfl ?_
  refine z_iconst C dX3_slotSeen_1 (v := 1) (by decide) ?_
  refine z_iand C dX3_slotSeen_2 (v := nI (lk % 2)) (pk_andN (by omega) 1 (by decide)) ?_
  refine z_if_eq C dX3_slotSeen_3 (tgt := 26) (by decide) (fun h3 => ?_) (fun h3 => ?_)
  · have q3 := iv_eq (y := 0) (nI_toInt (by omega)) (show (0 : Int32).toInt = 0 from by decide) h3
    refine z_iload_n C dX3_slotSeen_26 rfl (q := 1) rfl ?_
    refine z_iload_n C dX3_slotSeen_27 rfl (q := 3) rfl ?_
    refine z_iadd C dX3_slotSeen_28 (v := nI (t + i)) (nI_add t i) ?_
    refine z_istore C dX3_slotSeen_29 (by decide) (lv' := [(4, Value.int (nI (t + i))), (0, Value.ref (a 3)), (1, Value.int (nI t)), (2, Value.int (nI lk)), (3, Value.int (nI i))]) rfl ?_
    refine z_iload C dX3_slotSeen_31 (q := 0) rfl ?_
    refine z_aload_n C dX3_slotSeen_33 rfl (q := 1) rfl ?_
    refine zg_X3_slotCount C (k := 3) (hL _ (by unfold live; omega)) (by rfl) i3 (by decide +kernel) (v := nI (nn c 3 1)) (CI_S hI).1 dX3_slotSeen_34 ?_
    refine z_icmp_ge C dX3_slotSeen_37 (tgt := 45) (by decide) (fun h37 => ?_) (fun h37 => ?_)
    · have q37 := iv_le (nI_toInt (by omega)) (nI_toInt (by omega)) h37
      refine z_iload C dX3_slotSeen_45 (q := 0) rfl ?_
      refine z_aload_n C dX3_slotSeen_47 rfl (q := 1) rfl ?_
      refine zg_X3_slotCount C (k := 3) (hL _ (by unfold live; omega)) (by rfl) i3 (by decide +kernel) (v := nI (nn c 3 1)) (CI_S hI).1 dX3_slotSeen_48 ?_
      refine z_isub C dX3_slotSeen_51 (v := nI (t + i - nn c 3 1)) (pk_sub (by omega)) ?_
      exact z_iret C rfl (Nat.le_refl _) (Nat.le_refl _) dX3_slotSeen_52 ⟨rfl, congrArg nI (by unfold slotV; repeat (first | rw [if_pos (by omega)] | rw [if_neg (by omega)]))⟩
    · have q37 := iv_nle (nI_toInt (by omega)) (nI_toInt (by omega)) h37
      refine z_iload C dX3_slotSeen_40 (q := 0) rfl ?_
      refine z_goto C dX3_slotSeen_42 (tgt := 52) (by decide) ?_
      exact z_iret C rfl (Nat.le_refl _) (Nat.le_refl _) dX3_slotSeen_52 ⟨rfl, congrArg nI (by unfold slotV; repeat (first | rw [if_pos (by omega)] | rw [if_neg (by omega)]))⟩
  · have q3 := iv_ne (y := 0) (nI_toInt (by omega)) (show (0 : Int32).toInt = 0 from by decide) h3
    refine z_iload_n C dX3_slotSeen_6 rfl (q := 1) rfl ?_
    refine z_iload_n C dX3_slotSeen_7 rfl (q := 3) rfl ?_
    refine z_icmp_lt C dX3_slotSeen_8 (tgt := 17) (by decide) (fun h8 => ?_) (fun h8 => ?_)
    · have q8 := iv_lt (nI_toInt (by omega)) (nI_toInt (by omega)) h8
      refine z_iload_n C dX3_slotSeen_17 rfl (q := 1) rfl ?_
      refine z_iload_n C dX3_slotSeen_18 rfl (q := 3) rfl ?_
      refine z_isub C dX3_slotSeen_19 (v := (nI t) - (nI i)) rfl ?_
      refine z_aload_n C dX3_slotSeen_20 rfl (q := 0) rfl ?_
      refine zg_X3_slotCount C (k := 3) (hL _ (by unfold live; omega)) (by rfl) i3 (by decide +kernel) (v := nI (nn c 3 1)) (CI_S hI).1 dX3_slotSeen_21 ?_
      refine z_iadd C dX3_slotSeen_24 (v := nI (t + nn c 3 1 - i)) (nI_sub_add (by omega)) ?_
      exact z_iret C rfl (Nat.le_refl _) (Nat.le_refl _) dX3_slotSeen_25 ⟨rfl, congrArg nI (by unfold slotV; repeat (first | rw [if_pos (by omega)] | rw [if_neg (by omega)]))⟩
    · have q8 := iv_nlt (nI_toInt (by omega)) (nI_toInt (by omega)) h8
      refine z_iload_n C dX3_slotSeen_11 rfl (q := 1) rfl ?_
      refine z_iload_n C dX3_slotSeen_12 rfl (q := 3) rfl ?_
      refine z_isub C dX3_slotSeen_13 (v := nI (t - i)) (pk_sub (by omega)) ?_
      refine z_goto C dX3_slotSeen_14 (tgt := 25) (by decide) ?_
      exact z_iret C rfl (Nat.le_refl _) (Nat.le_refl _) dX3_slotSeen_25 ⟨rfl, congrArg nI (by unfold slotV; repeat (first | rw [if_pos (by omega)] | rw [if_neg (by omega)]))⟩

set_option maxHeartbeats 4000000 in
set_option maxRecDepth 100000 in
theorem c_X3_upsideDown (l : Launch) (D : va_G) (cy : Nat → ClassId) (a : Nat → Nat) (L : List Nat) (c : Nat → Nat → Int32) (g : Nat → Nat → Int64) (r : Nat → Nat → Option Nat) (v : Nat) (hv : v < 32) : zPI l yX3_upsideDown wsX3_upsideDown { frames := 0, cells := 0, slots := 0, locals := 0 } D cy a L c g r [Value.int (nI v)] (fun z => z = nI (flip5 v)) := by
  refine z_enter cX3_upsideDown 3 (some .int) (by decide) (Nat.le_of_ble_eq_true rfl) ?_
  intro p e s m below meth co C hin
  have C : zC p s m _ meth co D cy _ cX3_upsideDown 3 (some .int) wsX3_upsideDown RX3 := C
  refine z_iconst C dX3_upsideDown_0 (v := nI 0) (by decide) ?_
  refine z_istore_n C dX3_upsideDown_1 rfl (by decide) (lv' := [(1, Value.int (nI 0)), (0, Value.int (nI v))]) rfl ?_
  refine z_iconst C dX3_upsideDown_2 (v := nI 0) (by decide) ?_
  refine z_istore_n C dX3_upsideDown_3 rfl (by decide) (lv' := [(2, Value.int (nI 0)), (1, Value.int (nI 0)), (0, Value.int (nI v))]) rfl ?_
  refine z_for 0 5 (Nat.zero_le _) (fun i => [(2, Value.int (nI i)), (1, Value.int (upC (nI v) i)), (0, Value.int (nI v))]) (fun i => c) (fun i => g) ?_ ?_
  · refine z_iload_n C dX3_upsideDown_4 rfl (q := 0) rfl ?_
    refine z_iconst C dX3_upsideDown_5 (v := nI 5) (by decide) ?_
    refine z_icmp_ge C dX3_upsideDown_6 (tgt := 25) (by decide) (fun h6 => ?_) (fun h6 => absurd (Int32.le_refl _) h6)
    refine z_iload_n C dX3_upsideDown_25 rfl (q := 1) rfl ?_
    exact z_iret C rfl (Nat.le_refl _) (Nat.le_refl _) dX3_upsideDown_26 ⟨rfl, (flip5_ok v hv).1⟩
  · intro i hli hi ihi
    refine z_iload_n C dX3_upsideDown_4 rfl (q := 0) rfl ?_
    refine z_iconst C dX3_upsideDown_5 (v := nI 5) (by decide) ?_
    refine z_icmp_ge C dX3_upsideDown_6 (tgt := 25) (by decide) (fun h6 => absurd h6 (nI_ge hi (by omega))) (fun h6 => ?_)
    refine z_iload_n C dX3_upsideDown_9 rfl (q := 1) rfl ?_
    refine z_iconst C dX3_upsideDown_10 (v := 1) (by decide) ?_
    refine z_ishl C dX3_upsideDown_11 (v := (upC (nI v) i) <<< (1 &&& 31)) rfl ?_
    refine z_iload_n C dX3_upsideDown_12 rfl (q := 2) rfl ?_
    refine z_iload_n C dX3_upsideDown_13 rfl (q := 0) rfl ?_
    refine z_ishr C dX3_upsideDown_14 (v := (nI v) >>> ((nI i) &&& 31)) rfl ?_
    refine z_iconst C dX3_upsideDown_15 (v := 1) (by decide) ?_
    refine z_iand C dX3_upsideDown_16 (v := ((nI v) >>> ((nI i) &&& 31)) &&& 1) rfl ?_
    refine z_ior C dX3_upsideDown_17 (v := ((upC (nI v) i) <<< (1 &&& 31)) ||| (((nI v) >>> ((nI i) &&& 31)) &&& 1)) rfl ?_
    refine z_istore_n C dX3_upsideDown_18 rfl (by decide) (lv' := [(1, Value.int (((upC (nI v) i) <<< (1 &&& 31)) ||| (((nI v) >>> ((nI i) &&& 31)) &&& 1))), (2, Value.int (nI i)), (0, Value.int (nI v))]) rfl ?_
    refine z_iinc C dX3_upsideDown_19 (q := 1) rfl (v := nI (i + 1)) (nI_1 _) (by decide) (lv' := [(2, Value.int (nI (i + 1))), (1, Value.int (((upC (nI v) i) <<< (1 &&& 31)) ||| (((nI v) >>> ((nI i) &&& 31)) &&& 1))), (0, Value.int (nI v))]) rfl ?_
    refine z_goto C dX3_upsideDown_22 (tgt := 4) (by decide) ?_
    exact ihi

set_option maxHeartbeats 4000000 in
set_option maxRecDepth 100000 in
theorem c_X3_seen (l : Launch) (D : va_G) (cy : Nat → ClassId) (a : Nat → Nat) (L : List Nat) (c : Nat → Nat → Int32) (g : Nat → Nat → Int64) (r : Nat → Nat → Option Nat) (nl nk : Nat) (hL : zLv L nl nk) (hR : RC r nl nk) (hI : CI c nl nk) (lay : Nat → Nat) (hy : ∀ q, q < 60 → c 4 q = nI (lay q) ∧ lay q ≤ 31) (t lk i : Nat) (ht : t < nn c 3 1) (hk : lk < 4) (hi : i < nn c 3 1) : zPI l yX3_seen wsX3_seen { frames := 1, cells := 0, slots := 0, locals := 24 } D cy a L c g r [Value.ref (a 3), Value.int (nI t), Value.int (nI lk), Value.int (nI i)] (fun v => v = nI (seenV (nn c 3 1) lay t lk i)) := by
  refine z_enter cX3_seen 5 (some .int) (by decide) (Nat.le_of_ble_eq_true rfl) ?_
  intro p e s m below meth co C hin
  have C : zC p s m _ meth co D cy _ cX3_seen 5 (some .int) wsX3_seen RX3 := C
  have i3 : ∀ w ∈ wsX30, w ∈ wsX3_seen := by decide +kernel
  have hs := (CI_S hI).2
  refine z_aload_n C dX3_seen_0 rfl (q := 0) rfl ?_
  refine zg_X3_laid C (k := 3) (hL _ (by unfold live; omega)) (by rfl) i3 (by decide +kernel) (k' := 4) (RC_laid hR) dX3_seen_1 ?_
  refine z_aload_n C dX3_seen_4 rfl (q := 0) rfl ?_
  refine z_iload_n C dX3_seen_5 rfl (q := 1) rfl ?_
  refine z_iload_n C dX3_seen_6 rfl (q := 2) rfl ?_
  refine z_iload_n C dX3_seen_7 rfl (q := 3) rfl ?_
  refine z_pI C (z_runV C (As := [Value.int (nI t), Value.int (nI lk), Value.int (nI i)]) (rest := [Value.ref (a 4)]) (c_X3_slotSeen l D cy a L c g r nl nk hL hR hI t lk i (by omega) (by omega) (by omega)) (cwV 3 C.2.2.2.2.2.1 gX3_seen_X3_slotSeen rfl rfl rfl (by decide +kernel) ⟨Nat.le_of_ble_eq_true rfl, Nat.le_of_ble_eq_true rfl⟩) (hL _ (by unfold live; omega)) (zF_k3 (by rfl)) rfl rfl rfl rfl (Nat.le_of_ble_eq_true rfl) dX3_seen_8 ⟨Nat.zero_le _, Nat.zero_le _⟩) (fun v8 e8 => ?_)
  subst e8
  have hsl := slotV_lt (lk := lk) ht hi
  have hq := hy (slotV (nn c 3 1) t lk i) (by omega)
  refine z_iaload C (k := 4) (hL _ (by unfold live; omega)) (by rfl) (j := (slotV (nn c 3 1) t lk i)) rfl (by rw [show ln 4 = 60 from rfl]; omega) (by rw [show ln 4 = 60 from rfl]; decide) (v := nI (lay (slotV (nn c 3 1) t lk i))) hq.1 dX3_seen_11 ?_
  refine z_istore C dX3_seen_12 (by decide) (lv' := [(4, Value.int (nI (lay (slotV (nn c 3 1) t lk i)))), (0, Value.ref (a 3)), (1, Value.int (nI t)), (2, Value.int (nI lk)), (3, Value.int (nI i))]) rfl ?_
  refine z_iload_n C dX3_seen_14 rfl (q := 3) rfl ?_
  refine z_iconst C dX3_seen_15 (v := 2) (by decide) ?_
  refine z_iand C dX3_seen_16 (v := nI (2 * (lk / 2))) (and2_ok lk hk) ?_
  refine z_if_ne C dX3_seen_17 (tgt := 25) (by decide) (fun h17 => ?_) (fun h17 => ?_)
  · have q17 := iv_ne (y := 0) (nI_toInt (by omega)) (show (0 : Int32).toInt = 0 from by decide) h17
    refine z_iload C dX3_seen_25 (q := 0) rfl ?_
    have hq2 := hq.2
    refine z_pI C (z_runS C (As := [Value.int (nI (lay (slotV (nn c 3 1) t lk i)))]) (rest := []) (c_X3_upsideDown l D cy a L c g r (lay (slotV (nn c 3 1) t lk i)) (by omega)) (va_cwS 1 C.2.2.2.2.2.1 gX3_seen_X3_upsideDown rfl rfl rfl (by decide +kernel) ⟨Nat.le_of_ble_eq_true rfl, Nat.le_of_ble_eq_true rfl⟩) rfl rfl (Nat.le_of_ble_eq_true rfl) dX3_seen_27 ⟨Nat.zero_le _, Nat.zero_le _⟩) (fun v27 e27 => ?_)
    subst e27
    exact z_iret C rfl (Nat.le_refl _) (Nat.le_refl _) dX3_seen_30 ⟨rfl, congrArg nI (by unfold seenV; first | rw [if_pos (by omega)] | rw [if_neg (by omega)])⟩
  · have q17 := iv_eq (y := 0) (nI_toInt (by omega)) (show (0 : Int32).toInt = 0 from by decide) h17
    refine z_iload C dX3_seen_20 (q := 0) rfl ?_
    refine z_goto C dX3_seen_22 (tgt := 30) (by decide) ?_
    exact z_iret C rfl (Nat.le_refl _) (Nat.le_refl _) dX3_seen_30 ⟨rfl, congrArg nI (by unfold seenV; first | rw [if_pos (by omega)] | rw [if_neg (by omega)])⟩
