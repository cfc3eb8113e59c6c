set_option maxHeartbeats 4000000 in
set_option maxRecDepth 100000 in
theorem c_X4_hasItem (l : Launch) (D : va_G) (cy : Nat → ClassId) (a : Nat → Nat) (L : List Nat) (c : Nat → Nat → Int32) (g : Nat → Nat → Int64) (r : Nat → Nat → Option Nat) (nl nk : Nat) (hL : zLv L nl nk) (hR : RC r nl nk) (hI : CI c nl nk) (sh : Nat) (hsh : sh < 4) (i : Int32) : zPI l yX4_hasItem wsX4_hasItem { frames := 1, cells := 0, slots := 0, locals := 22 } D cy a L c g r [Value.ref (a (40 + sh)), Value.int i] (fun v => (v = 1 ∧ (0 ≤ i.toInt ∧ i.toInt < (nn c (40 + sh) 3 : Int))) ∨ (v = 0 ∧ ¬ (0 ≤ i.toInt ∧ i.toInt < (nn c (40 + sh) 3 : Int)))) := by
  refine z_enter cX4_hasItem 2 (some .boolean) (by decide) (Nat.le_of_ble_eq_true rfl) ?_
  intro p e s m below meth co C hin
  have C : zC p s m _ meth co D cy _ cX4_hasItem 2 (some .boolean) wsX4_hasItem RX4 := C
  have i4 : ∀ w ∈ wsX40, w ∈ wsX4_hasItem := by decide +kernel
  have hn := (CI_sh hI hsh).2.2.2
  have hf := (CI_sh hI hsh).2.1.2
  have ho := (CI_sh hI hsh).1.2
  refine z_iload_n C dX4_hasItem_0 rfl (q := 1) rfl ?_
  refine z_iconst C dX4_hasItem_1 (v := 0) (by decide) ?_
  refine z_aload_n C dX4_hasItem_2 rfl (q := 0) rfl ?_
  refine zg_X4_size C (k := 40 + sh) (hL _ (by unfold live; omega)) (kd_s (by omega)) i4 (by decide +kernel) (v := nI (nn c (40 + sh) 3)) (CI_sh hI (by omega)).2.2.1 dX4_hasItem_3 ?_
  refine z_iconst C dX4_hasItem_6 (v := 1) (by decide) ?_
  refine z_isub C dX4_hasItem_7 (v := (nI (nn c (40 + sh) 3)) - 1) rfl ?_
  refine z_pI C (z_runSN C (As := [Value.int i, Value.int 0, Value.int ((nI (nn c (40 + sh) 3)) - 1)]) (rest := []) (c_X7_within l D cy a L c g r i 0 ((nI (nn c (40 + sh) 3)) - 1) (V := i.toInt) (LO := 0) (HI := ((nn c (40 + sh) 3 : Nat) : Int) - 1) rfl (show (0 : Int32).toInt = 0 from by decide) (tI_pred (by omega))) ⟨va_cnB 3 C.2.2.2.2.2.1 gX4_hasItem_X7_within_n32 rfl rfl rfl C.2.2.2.2.2.2.1.2.1.2.2.2.2.2.2.2.2.2 (C.2.2.2.2.2.1 _ (by decide +kernel)) (by decide +kernel) ⟨Nat.le_of_ble_eq_true rfl, Nat.le_of_ble_eq_true rfl⟩, C.2.2.2.2.2.1 _ (by decide +kernel), trivial⟩ rfl rfl (Nat.le_of_ble_eq_true rfl) dX4_hasItem_8 ⟨Nat.zero_le _, Nat.zero_le _⟩) (fun v8 e8 => ?_)
  rcases e8 with ⟨rfl, e8⟩ | ⟨rfl, e8⟩
  · exact z_zret C rfl (Nat.le_refl _) (Nat.le_refl _) dX4_hasItem_11 rfl ⟨rfl, Or.inl ⟨rfl, by omega⟩⟩
  · exact z_zret C rfl (Nat.le_refl _) (Nat.le_refl _) dX4_hasItem_11 rfl ⟨rfl, Or.inr ⟨rfl, by omega⟩⟩

theorem tI_subx {n : Nat} {x : Int32} (hn : n < 2 ^ 30) (h0 : 0 ≤ x.toInt) (h1 : x.toInt ≤ n) : (nI n - x).toInt = (n : Int) - x.toInt := by
  rw [tI_of h0, tI_sub hn (by omega), nI_toInt (by omega)]

set_option maxHeartbeats 4000000 in
set_option maxRecDepth 100000 in
theorem c_X4_hasRun (l : Launch) (D : va_G) (cy : Nat → ClassId) (a : Nat → Nat) (L : List Nat) (c : Nat → Nat → Int32) (g : Nat → Nat → Int64) (r : Nat → Nat → Option Nat) (nl nk : Nat) (hL : zLv L nl nk) (hR : RC r nl nk) (hI : CI c nl nk) (sh : Nat) (hsh : sh < 4) (i n : Int32) : zPI l yX4_hasRun wsX4_hasRun { frames := 0, cells := 0, slots := 0, locals := 0 } D cy a L c g r [Value.ref (a (40 + sh)), Value.int i, Value.int n] (fun v => (v = 1 ∧ (0 ≤ i.toInt ∧ 0 ≤ n.toInt ∧ i.toInt + n.toInt ≤ (nn c (40 + sh) 3 : Int))) ∨ (v = 0 ∧ ¬ (0 ≤ i.toInt ∧ 0 ≤ n.toInt ∧ i.toInt + n.toInt ≤ (nn c (40 + sh) 3 : Int)))) := by
  refine z_enter cX4_hasRun 3 (some .boolean) (by decide) (Nat.le_of_ble_eq_true rfl) ?_
  intro p e s m below meth co C hin
  have C : zC p s m _ meth co D cy _ cX4_hasRun 3 (some .boolean) wsX4_hasRun RX4 := C
  have i4 : ∀ w ∈ wsX40, w ∈ wsX4_hasRun := by decide +kernel
  have hn := (CI_sh hI hsh).2.2.2
  have hf := (CI_sh hI hsh).2.1.2
  have ho := (CI_sh hI hsh).1.2
  refine z_iload_n C dX4_hasRun_0 rfl (q := 1) rfl ?_
  refine z_if_lt C dX4_hasRun_1 (tgt := 30) (by decide) (fun h1 => ?_) (fun h1 => ?_)
  · have q1 := iv_lt rfl (show (0 : Int32).toInt = 0 from by decide) h1
    refine z_iconst C dX4_hasRun_30 (v := 0) (by decide) ?_
    exact z_zret C rfl (Nat.le_refl _) (Nat.le_refl _) dX4_hasRun_31 rfl ⟨rfl, Or.inr ⟨rfl, by omega⟩⟩
  · have q1 := iv_nlt rfl (show (0 : Int32).toInt = 0 from by decide) h1
    refine z_iload_n C dX4_hasRun_4 rfl (q := 2) rfl ?_
    refine z_if_lt C dX4_hasRun_5 (tgt := 30) (by decide) (fun h5 => ?_) (fun h5 => ?_)
    · have q5 := iv_lt rfl (show (0 : Int32).toInt = 0 from by decide) h5
      refine z_iconst C dX4_hasRun_30 (v := 0) (by decide) ?_
      exact z_zret C rfl (Nat.le_refl _) (Nat.le_refl _) dX4_hasRun_31 rfl ⟨rfl, Or.inr ⟨rfl, by omega⟩⟩
    · have q5 := iv_nlt rfl (show (0 : Int32).toInt = 0 from by decide) h5
      refine z_iload_n C dX4_hasRun_8 rfl (q := 1) rfl ?_
      refine z_aload_n C dX4_hasRun_9 rfl (q := 0) rfl ?_
      refine zg_X4_size C (k := 40 + sh) (hL _ (by unfold live; omega)) (kd_s (by omega)) i4 (by decide +kernel) (v := nI (nn c (40 + sh) 3)) (CI_sh hI (by omega)).2.2.1 dX4_hasRun_10 ?_
      refine z_icmp_gt C dX4_hasRun_13 (tgt := 30) (by decide) (fun h13 => ?_) (fun h13 => ?_)
      · have q13 := iv_lt (nI_toInt (by omega)) rfl h13
        refine z_iconst C dX4_hasRun_30 (v := 0) (by decide) ?_
        exact z_zret C rfl (Nat.le_refl _) (Nat.le_refl _) dX4_hasRun_31 rfl ⟨rfl, Or.inr ⟨rfl, by omega⟩⟩
      · have q13 := iv_nlt (nI_toInt (by omega)) rfl h13
        refine z_iload_n C dX4_hasRun_16 rfl (q := 2) rfl ?_
        refine z_aload_n C dX4_hasRun_17 rfl (q := 0) rfl ?_
        refine zg_X4_size C (k := 40 + sh) (hL _ (by unfold live; omega)) (kd_s (by omega)) i4 (by decide +kernel) (v := nI (nn c (40 + sh) 3)) (CI_sh hI (by omega)).2.2.1 dX4_hasRun_18 ?_
        refine z_iload_n C dX4_hasRun_21 rfl (q := 1) rfl ?_
        refine z_isub C dX4_hasRun_22 (v := (nI (nn c (40 + sh) 3)) - i) rfl ?_
        refine z_icmp_gt C dX4_hasRun_23 (tgt := 30) (by decide) (fun h23 => ?_) (fun h23 => ?_)
        · have q23 := iv_lt (tI_subx (by omega) (by omega) (by omega)) rfl h23
          refine z_iconst C dX4_hasRun_30 (v := 0) (by decide) ?_
          exact z_zret C rfl (Nat.le_refl _) (Nat.le_refl _) dX4_hasRun_31 rfl ⟨rfl, Or.inr ⟨rfl, by omega⟩⟩
        · have q23 := iv_nlt (tI_subx (by omega) (by omega) (by omega)) rfl h23
          refine z_iconst C dX4_hasRun_26 (v := 1) (by decide) ?_
          refine z_goto C dX4_hasRun_27 (tgt := 31) (by decide) ?_
          exact z_zret C rfl (Nat.le_refl _) (Nat.le_refl _) dX4_hasRun_31 rfl ⟨rfl, Or.inl ⟨rfl, by omega⟩⟩

set_option maxHeartbeats 4000000 in
set_option maxRecDepth 100000 in
theorem c_X4_renew (l : Launch) (D : va_G) (cy : Nat → ClassId) (a : Nat → Nat) (L : List Nat) (c : Nat → Nat → Int32) (g : Nat → Nat → Int64) (r : Nat → Nat → Option Nat) (nl nk : Nat) (hL : zLv L nl nk) (hR : RC r nl nk) (hI : CI c nl nk) (sh : Nat) (hsh : sh < 4) (f n : Nat) : zCV l yX4_renew wsX4_renew { frames := 1, cells := 0, slots := 0, locals := 23 } D cy a L c g r [Value.ref (a (40 + sh)), Value.int (nI f), Value.int (nI n)] (fun c' => c' = up1 (up2 (up2 (up2 c (40 + sh) 1 (nI 0)) (40 + sh) 2 (nI f)) (40 + sh) 3 (nI n)) (50 + sh) (fun q => if q < ln (50 + sh) then nI 0 else (up2 (up2 (up2 c (40 + sh) 1 (nI 0)) (40 + sh) 2 (nI f)) (40 + sh) 3 (nI n)) (50 + sh) q)) := by
  refine z_enter cX4_renew 3 none (by decide) (Nat.le_of_ble_eq_true rfl) ?_
  intro p e s m below meth co C hin
  have C : zC p s m _ meth co D cy _ cX4_renew 3 none wsX4_renew RX4 := C
  have i4 : ∀ w ∈ wsX40, w ∈ wsX4_renew := by decide +kernel
  refine z_aload_n C dX4_renew_0 rfl (q := 0) rfl ?_
  refine z_iconst C dX4_renew_1 (v := nI 0) (by decide) ?_
  refine zp_X4_isLost C (k := 40 + sh) (hL _ (by unfold live; omega)) (kd_s (by omega)) i4 (by decide +kernel) rfl rfl dX4_renew_2 ?_
  refine z_aload_n C dX4_renew_5 rfl (q := 0) rfl ?_
  refine z_iload_n C dX4_renew_6 rfl (q := 1) rfl ?_
  refine zp_X4_form C (k := 40 + sh) (hL _ (by unfold live; omega)) (kd_s (by omega)) i4 (by decide +kernel) dX4_renew_7 ?_
  refine z_aload_n C dX4_renew_10 rfl (q := 0) rfl ?_
  refine z_iload_n C dX4_renew_11 rfl (q := 2) rfl ?_
  refine zp_X4_size C (k := 40 + sh) (hL _ (by unfold live; omega)) (kd_s (by omega)) i4 (by decide +kernel) dX4_renew_12 ?_
  refine z_aload_n C dX4_renew_15 rfl (q := 0) rfl ?_
  refine zg_X4_items C (k := 40 + sh) (hL _ (by unfold live; omega)) (kd_s (by omega)) i4 (by decide +kernel) (k' := 50 + sh) (RC_items hR (by omega)) dX4_renew_16 ?_
  refine z_iconst C dX4_renew_19 (v := nI 0) (by decide) ?_
  refine z_cV C (z_runS C (As := [Value.ref (a (50 + sh)), Value.int (nI 0)]) (rest := []) (c_J7_fill_53178 l D cy a L (up2 (up2 (up2 c (40 + sh) 1 (nI 0)) (40 + sh) 2 (nI f)) (40 + sh) 3 (nI n)) g r (50 + sh) (hL _ (by unfold live; omega)) (kd_it (by omega)) (by rw [ln_it (by omega)]; decide) (nI 0)) (va_cwS 2 C.2.2.2.2.2.1 gX4_renew_J7_fill_53178 rfl rfl rfl (by decide +kernel) ⟨Nat.le_of_ble_eq_true rfl, Nat.le_of_ble_eq_true rfl⟩) rfl rfl (Nat.le_of_ble_eq_true rfl) dX4_renew_20 ⟨Nat.zero_le _, Nat.zero_le _⟩) (fun c20 e20 => ?_)
  subst e20
  exact z_vret C rfl (Nat.le_refl _) (Nat.le_refl _) dX4_renew_23 ⟨_, rfl, rfl⟩

/-- what an item of a form keeps of v -/
def wrV (f : Nat) (v : Int32) : Int32 := if f = 0 then v.toInt8.toInt32 else if f = 1 then v.toInt16.toInt32 else v

set_option maxHeartbeats 4000000 in
set_option maxRecDepth 100000 in
theorem c_X4_write (l : Launch) (D : va_G) (cy : Nat → ClassId) (a : Nat → Nat) (L : List Nat) (c : Nat → Nat → Int32) (g : Nat → Nat → Int64) (r : Nat → Nat → Option Nat) (nl nk : Nat) (hL : zLv L nl nk) (hR : RC r nl nk) (hI : CI c nl nk) (sh : Nat) (hsh : sh < 4) (i : Nat) (hi : i < 60) (v : Int32) : zCV l yX4_write wsX4_write { frames := 0, cells := 0, slots := 0, locals := 0 } D cy a L c g r [Value.ref (a (40 + sh)), Value.int (nI i), Value.int v] (fun c' => c' = up2 c (50 + sh) i (wrV (nn c (40 + sh) 2) v)) := by
  refine z_enter cX4_write 3 none (by decide) (Nat.le_of_ble_eq_true rfl) ?_
  intro p e s m below meth co C hin
  have C : zC p s m _ meth co D cy _ cX4_write 3 none wsX4_write RX4 := C
  have i4 : ∀ w ∈ wsX40, w ∈ wsX4_write := by decide +kernel
  have hn := (CI_sh hI hsh).2.2.2
  have hf := (CI_sh hI hsh).2.1.2
  have ho := (CI_sh hI hsh).1.2
  refine z_aload_n C dX4_write_0 rfl (q := 0) rfl ?_
  refine zg_X4_form C (k := 40 + sh) (hL _ (by unfold live; omega)) (kd_s (by omega)) i4 (by decide +kernel) (v := nI (nn c (40 + sh) 2)) (CI_sh hI (by omega)).2.1.1 dX4_write_1 ?_
  have h3 : nn c (40 + sh) 2 = 0 ∨ nn c (40 + sh) 2 = 1 ∨ nn c (40 + sh) 2 = 2 := by omega
  rcases h3 with h3 | h3 | h3
  · refine z_lookup C dX4_write_4 (off := 28) (tgt := 32) (by decide) (by rw [h3]; decide) (by decide) ?_
    refine z_aload_n C dX4_write_32 rfl (q := 0) rfl ?_
    refine zg_X4_items C (k := 40 + sh) (hL _ (by unfold live; omega)) (kd_s (by omega)) i4 (by decide +kernel) (k' := 50 + sh) (RC_items hR (by omega)) dX4_write_33 ?_
    refine z_iload_n C dX4_write_36 rfl (q := 1) rfl ?_
    refine z_iload_n C dX4_write_37 rfl (q := 2) rfl ?_
    refine z_i2b C dX4_write_38 (v := v.toInt8.toInt32) rfl ?_
    refine z_iastore C (k := 50 + sh) (hL _ (by unfold live; omega)) (kd_it (by omega)) (j := i) rfl (by rw [ln_it (by omega)]; omega) (by rw [ln_it (by omega)]; decide) dX4_write_39 ?_
    refine z_goto C dX4_write_40 (tgt := 61) (by decide) ?_
    exact z_vret C rfl (Nat.le_refl _) (Nat.le_refl _) dX4_write_61 ⟨_, rfl, by rw [wrV, h3]; rfl⟩
  · refine z_lookup C dX4_write_4 (off := 39) (tgt := 43) (by decide) (by rw [h3]; decide) (by decide) ?_
    refine z_aload_n C dX4_write_43 rfl (q := 0) rfl ?_
    refine zg_X4_items C (k := 40 + sh) (hL _ (by unfold live; omega)) (kd_s (by omega)) i4 (by decide +kernel) (k' := 50 + sh) (RC_items hR (by omega)) dX4_write_44 ?_
    refine z_iload_n C dX4_write_47 rfl (q := 1) rfl ?_
    refine z_iload_n C dX4_write_48 rfl (q := 2) rfl ?_
    refine z_i2s C dX4_write_49 (v := v.toInt16.toInt32) rfl ?_
    refine z_iastore C (k := 50 + sh) (hL _ (by unfold live; omega)) (kd_it (by omega)) (j := i) rfl (by rw [ln_it (by omega)]; omega) (by rw [ln_it (by omega)]; decide) dX4_write_50 ?_
    refine z_goto C dX4_write_51 (tgt := 61) (by decide) ?_
    exact z_vret C rfl (Nat.le_refl _) (Nat.le_refl _) dX4_write_61 ⟨_, rfl, by rw [wrV, h3]; rfl⟩
  · refine z_lookup C dX4_write_4 (off := 50) (tgt := 54) (by decide) (by rw [h3]; decide) (by decide) ?_
    refine z_aload_n C dX4_write_54 rfl (q := 0) rfl ?_
    refine zg_X4_items C (k := 40 + sh) (hL _ (by unfold live; omega)) (kd_s (by omega)) i4 (by decide +kernel) (k' := 50 + sh) (RC_items hR (by omega)) dX4_write_55 ?_
    refine z_iload_n C dX4_write_58 rfl (q := 1) rfl ?_
    refine z_iload_n C dX4_write_59 rfl (q := 2) rfl ?_
    refine z_iastore C (k := 50 + sh) (hL _ (by unfold live; omega)) (kd_it (by omega)) (j := i) rfl (by rw [ln_it (by omega)]; omega) (by rw [ln_it (by omega)]; decide) dX4_write_60 ?_
    exact z_vret C rfl (Nat.le_refl _) (Nat.le_refl _) dX4_write_61 ⟨_, rfl, by rw [wrV, h3]; rfl⟩

/-- the want of a week in a sheet, -1 without -/
def wantC (c : Nat → Nat → Int32) (sh wk : Nat) : Int32 := if nn c (40 + sh) 1 = 0 ∧ wk < nn c (40 + sh) 3 ∧ 0 ≤ (c (50 + sh) wk).toInt then c (50 + sh) wk else -1

set_option maxHeartbeats 4000000 in
set_option maxRecDepth 100000 in
theorem c_X4_wantAt (l : Launch) (D : va_G) (cy : Nat → ClassId) (a : Nat → Nat) (L : List Nat) (c : Nat → Nat → Int32) (g : Nat → Nat → Int64) (r : Nat → Nat → Option Nat) (nl nk : Nat) (hL : zLv L nl nk) (hR : RC r nl nk) (hI : CI c nl nk) (sh : Nat) (hsh : sh < 4) (wk : Nat) (hwk : wk < 52) : zPI l yX4_wantAt wsX4_wantAt { frames := 2, cells := 0, slots := 0, locals := 43 } D cy a L c g r [Value.ref (a (40 + sh)), Value.int (nI wk)] (fun v => v = wantC c sh wk) := by
  refine z_enter cX4_wantAt 2 (some .int) (by decide) (Nat.le_of_ble_eq_true rfl) ?_
  intro p e s m below meth co C hin
  have C : zC p s m _ meth co D cy _ cX4_wantAt 2 (some .int) wsX4_wantAt RX4 := C
  have i4 : ∀ w ∈ wsX40, w ∈ wsX4_wantAt := by decide +kernel
  have hn := (CI_sh hI hsh).2.2.2
  have hf := (CI_sh hI hsh).2.1.2
  have ho := (CI_sh hI hsh).1.2
  have hti := nI_toInt (n := wk) (by omega)
  refine z_aload_n C dX4_wantAt_0 rfl (q := 0) rfl ?_
  refine zg_X4_isLost C (k := 40 + sh) (hL _ (by unfold live; omega)) (kd_s (by omega)) i4 (by decide +kernel) (v := nI (nn c (40 + sh) 1)) (CI_sh hI (by omega)).1.1 dX4_wantAt_1 ?_
  refine z_if_ne C dX4_wantAt_4 (tgt := 24) (by decide) (fun h4 => ?_) (fun h4 => ?_)
  · have q4 := iv_ne (y := 0) (nI_toInt (by omega)) (show (0 : Int32).toInt = 0 from by decide) h4
    refine z_iconst C dX4_wantAt_24 (v := -1) (by decide) ?_
    refine z_goto C dX4_wantAt_25 (tgt := 34) (by decide) ?_
    exact z_iret C rfl (Nat.le_refl _) (Nat.le_refl _) dX4_wantAt_34 ⟨rfl, by rw [wantC, if_neg (by omega)]⟩
  · have q4 := iv_eq (y := 0) (nI_toInt (by omega)) (show (0 : Int32).toInt = 0 from by decide) h4
    refine z_aload_n C dX4_wantAt_7 rfl (q := 0) rfl ?_
    refine z_iload_n C dX4_wantAt_8 rfl (q := 1) rfl ?_
    refine z_pI C (z_runV C (As := [Value.int (nI wk)]) (rest := []) (c_X4_hasItem l D cy a L c g r nl nk hL hR hI sh (by omega) (nI wk)) (cwV 1 C.2.2.2.2.2.1 gX4_wantAt_X4_hasItem rfl rfl rfl (by decide +kernel) ⟨Nat.le_of_ble_eq_true rfl, Nat.le_of_ble_eq_true rfl⟩) (hL _ (by unfold live; omega)) (zF_k4 (kd_s (by omega))) rfl rfl rfl rfl (Nat.le_of_ble_eq_true rfl) dX4_wantAt_9 ⟨Nat.zero_le _, Nat.zero_le _⟩) (fun v9 e9 => ?_)
    rcases e9 with ⟨rfl, e9⟩ | ⟨rfl, e9⟩
    · refine z_if_eq C dX4_wantAt_12 (tgt := 24) (by decide) (fun h12 => absurd h12 (by decide)) (fun h12 => ?_)
      refine z_aload_n C dX4_wantAt_15 rfl (q := 0) rfl ?_
      refine zg_X4_items C (k := 40 + sh) (hL _ (by unfold live; omega)) (kd_s (by omega)) i4 (by decide +kernel) (k' := 50 + sh) (RC_items hR (by omega)) dX4_wantAt_16 ?_
      refine z_iload_n C dX4_wantAt_19 rfl (q := 1) rfl ?_
      refine z_iaload C (k := 50 + sh) (hL _ (by unfold live; omega)) (kd_it (by omega)) (j := wk) rfl (by rw [ln_it (by omega)]; omega) (by rw [ln_it (by omega)]; decide) (v := c (50 + sh) wk) rfl dX4_wantAt_20 ?_
      refine z_if_ge C dX4_wantAt_21 (tgt := 28) (by decide) (fun h21 => ?_) (fun h21 => ?_)
      · have q21 := iv_le (show (0 : Int32).toInt = 0 from by decide) rfl h21
        refine z_aload_n C dX4_wantAt_28 rfl (q := 0) rfl ?_
        refine zg_X4_items C (k := 40 + sh) (hL _ (by unfold live; omega)) (kd_s (by omega)) i4 (by decide +kernel) (k' := 50 + sh) (RC_items hR (by omega)) dX4_wantAt_29 ?_
        refine z_iload_n C dX4_wantAt_32 rfl (q := 1) rfl ?_
        refine z_iaload C (k := 50 + sh) (hL _ (by unfold live; omega)) (kd_it (by omega)) (j := wk) rfl (by rw [ln_it (by omega)]; omega) (by rw [ln_it (by omega)]; decide) (v := c (50 + sh) wk) rfl dX4_wantAt_33 ?_
        exact z_iret C rfl (Nat.le_refl _) (Nat.le_refl _) dX4_wantAt_34 ⟨rfl, by rw [wantC, if_pos (by omega)]⟩
      · have q21 := iv_nle (show (0 : Int32).toInt = 0 from by decide) rfl h21
        refine z_iconst C dX4_wantAt_24 (v := -1) (by decide) ?_
        refine z_goto C dX4_wantAt_25 (tgt := 34) (by decide) ?_
        exact z_iret C rfl (Nat.le_refl _) (Nat.le_refl _) dX4_wantAt_34 ⟨rfl, by rw [wantC, if_neg (by omega)]⟩
    · refine z_if_eq C dX4_wantAt_12 (tgt := 24) (by decide) (fun h12 => ?_) (fun h12 => absurd h12 (by decide))
      refine z_iconst C dX4_wantAt_24 (v := -1) (by decide) ?_
      refine z_goto C dX4_wantAt_25 (tgt := 34) (by decide) ?_
      exact z_iret C rfl (Nat.le_refl _) (Nat.le_refl _) dX4_wantAt_34 ⟨rfl, by rw [wantC, if_neg (by omega)]⟩

set_option maxHeartbeats 4000000 in
set_option maxRecDepth 100000 in
theorem c_X6_append (l : Launch) (D : va_G) (cy : Nat → ClassId) (a : Nat → Nat) (L : List Nat) (c : Nat → Nat → Int32) (g : Nat → Nat → Int64) (r : Nat → Nat → Option Nat) (nl nk : Nat) (hL : zLv L nl nk) (hR : RC r nl nk) (hI : CI c nl nk) (w : Nat) (hw : w < 8) (j : Nat) (hj : j < nl) : zXI l yX6_append wsX6_append { frames := 0, cells := 0, slots := 0, locals := 0 } D cy a L c g r [Value.ref (a (20 + w)), Value.ref (a (100 + j))] (fun v ω => (v = 1 ∧ nn c (20 + w) 1 < 10 ∧ ω = (a, L, up2 c (20 + w) 1 (nI (nn c (20 + w) 1 + 1)), g, up2 r (30 + w) (nn c (20 + w) 1) (some (100 + j)))) ∨ (v = 0 ∧ nn c (20 + w) 1 = 10 ∧ ω = (a, L, c, g, r))) 0 0 := by
  refine z_enter cX6_append 2 (some .boolean) (by decide) (Nat.le_of_ble_eq_true rfl) ?_
  intro p e s m below meth co C hin
  have C : zC p s m _ meth co D cy _ cX6_append 2 (some .boolean) wsX6_append RX6 := C
  have i6 : ∀ w ∈ wsX60, w ∈ wsX6_append := by decide +kernel
  have h16 := CI_nl16 hI
  have hz := (CI_sz hI hw).2
  refine z_aload_n C dX6_append_0 rfl (q := 0) rfl ?_
  refine zg_X6_size C (k := 20 + w) (hL _ (by unfold live; omega)) (kd_w (by omega)) i6 (by decide +kernel) (v := nI (nn c (20 + w) 1)) (CI_sz hI (by omega)).1 dX6_append_1 ?_
  refine z_bipush C dX6_append_4 (v := 10) (by decide) ?_
  refine z_icmp_lt C dX6_append_6 (tgt := 11) (by decide) (fun h6 => ?_) (fun h6 => ?_)
  · have q6 := iv_lt (nI_toInt (by omega)) (show (10 : Int32).toInt = 10 from by decide) h6
    refine z_aload_n C dX6_append_11 rfl (q := 0) rfl ?_
    refine zg_X6_letters C (k := 20 + w) (hL _ (by unfold live; omega)) (kd_w (by omega)) i6 (by decide +kernel) (k' := 30 + w) (RC_letters hR (by omega)) dX6_append_12 ?_
    refine z_aload_n C dX6_append_15 rfl (q := 0) rfl ?_
    refine zg_X6_size C (k := 20 + w) (hL _ (by unfold live; omega)) (kd_w (by omega)) i6 (by decide +kernel) (v := nI (nn c (20 + w) 1)) (CI_sz hI (by omega)).1 dX6_append_16 ?_
    refine z_aload_n C dX6_append_19 rfl (q := 1) rfl ?_
    refine z_aastore C (k := 30 + w) (n := 11) (hL _ (by unfold live; omega)) (kd_wl (by omega)) (by decide) (y := 100 + j) (hL _ (by unfold live; omega)) (zF_k0 (kd_l (by omega))) (j := nn c (20 + w) 1) rfl (by rw [ln_wl (by omega)]; omega) (by rw [ln_wl (by omega)]; decide) dX6_append_20 ?_
    refine z_aload_n C dX6_append_21 rfl (q := 0) rfl ?_
    refine z_dup C dX6_append_22 rfl ?_
    refine zg_X6_size C (k := 20 + w) (hL _ (by unfold live; omega)) (kd_w (by omega)) i6 (by decide +kernel) (v := nI (nn c (20 + w) 1)) (CI_sz hI (by omega)).1 dX6_append_23 ?_
    refine z_iconst C dX6_append_26 (v := 1) (by decide) ?_
    refine z_iadd C dX6_append_27 (v := nI ((nn c (20 + w) 1) + 1)) (nI_add (nn c (20 + w) 1) 1) ?_
    refine zp_X6_size C (k := 20 + w) (hL _ (by unfold live; omega)) (kd_w (by omega)) i6 (by decide +kernel) dX6_append_28 ?_
    refine z_iconst C dX6_append_31 (v := 1) (by decide) ?_
    exact z_zret C rfl (Nat.le_refl _) (Nat.le_refl _) dX6_append_32 rfl (Or.inl ⟨rfl, by omega, rfl⟩)
  · have q6 := iv_nlt (nI_toInt (by omega)) (show (10 : Int32).toInt = 10 from by decide) h6
    refine z_iconst C dX6_append_9 (v := 0) (by decide) ?_
    exact z_zret C rfl (Nat.le_refl _) (Nat.le_refl _) dX6_append_10 rfl (Or.inr ⟨rfl, by omega, rfl⟩)
