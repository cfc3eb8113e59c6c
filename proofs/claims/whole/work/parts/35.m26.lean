set_option maxHeartbeats 4000000 in
set_option maxRecDepth 100000 in
theorem c_X8_longest (l : Launch) (D : va_G) (cy : Nat → ClassId) (a : Nat → Nat) (L : List Nat) (c : Nat → Nat → Int32) (g : Nat → Nat → Int64) (r : Nat → Nat → Option Nat) (nl nk : Nat) (hL : zLv L nl nk) (hM : RM r) (d : Nat → Nat → Int32) (hI : CI d nl nk) (x : Nat → Nat → Nat) (hX : XL d nl x) (hK : LK d c nl nk x) : zPI l yX8_longest wsX8_longest { frames := 2, cells := 0, slots := 0, locals := 44 } D cy a L c g r [Value.ref (a 300)] (fun v => v = lo2i (longO d x 8)) := by
  refine z_enter cX8_longest 3 (some .int) (by decide) (Nat.le_of_ble_eq_true rfl) ?_
  intro p e s m below meth co C hin
  have C : zC p s m _ meth co D cy _ cX8_longest 3 (some .int) wsX8_longest RX8 := C
  have i8 : ∀ w ∈ wsX80, w ∈ wsX8_longest := by decide +kernel
  refine z_iconst C dX8_longest_0 (v := lo2i (longO d x 0)) rfl ?_
  refine z_istore_n C dX8_longest_1 rfl (by decide) (lv' := [(1, Value.int (lo2i (longO d x 0))), (0, Value.ref (a 300))]) rfl ?_
  refine z_iconst C dX8_longest_2 (v := nI 0) (by decide) ?_
  refine z_istore_n C dX8_longest_3 rfl (by decide) (lv' := [(2, Value.int (nI 0)), (1, Value.int (lo2i (longO d x 0))), (0, Value.ref (a 300))]) rfl ?_
  refine z_forP (fun w => ∀ b, longO d x w = some b → b < 8) 0 8 (Nat.zero_le _) (fun w => [(2, Value.int (nI w)), (1, Value.int (lo2i (longO d x w))), (0, Value.ref (a 300))]) (fun w => c) (fun w => g) ?_ ?_ (fun b h => by cases h)
  · intro hvw
    refine z_iload_n C dX8_longest_4 rfl (q := 0) rfl ?_
    refine z_bipush C dX8_longest_5 (v := nI 8) (by decide) ?_
    refine z_icmp_ge C dX8_longest_7 (tgt := 74) (by decide) (fun h7 => ?_) (fun h7 => absurd (Int32.le_refl _) h7)
    refine z_iload_n C dX8_longest_74 rfl (q := 1) rfl ?_
    exact z_iret C rfl (Nat.le_refl _) (Nat.le_refl _) dX8_longest_75 ⟨rfl, rfl⟩
  · intro w hlw hw hvw ihw
    have hzw := (CI_sz hI hw).2
    have hwl := wideD_le hI hX hw
    refine z_iload_n C dX8_longest_4 rfl (q := 0) rfl ?_
    refine z_bipush C dX8_longest_5 (v := nI 8) (by decide) ?_
    refine z_icmp_ge C dX8_longest_7 (tgt := 74) (by decide) (fun h7 => absurd h7 (nI_ge hw (by omega))) (fun h7 => ?_)
    refine z_aload_n C dX8_longest_10 rfl (q := 2) rfl ?_
    refine z_iload_n C dX8_longest_11 rfl (q := 0) rfl ?_
    refine z_pI C (z_runV C (As := [Value.int (nI w)]) (rest := []) (c_X8_fits l D cy a L c g r nl nk hL hM d hI x hX hK w (by omega)) (cwV 1 C.2.2.2.2.2.1 gX8_longest_X8_fits rfl rfl rfl (by decide +kernel) ⟨Nat.le_of_ble_eq_true rfl, Nat.le_of_ble_eq_true rfl⟩) (hL _ (by unfold live; omega)) (zF_k8 (by rfl)) rfl rfl rfl rfl (Nat.le_of_ble_eq_true rfl) dX8_longest_12 ⟨Nat.zero_le _, Nat.zero_le _⟩) (fun v12 e12 => ?_)
    rcases e12 with ⟨rfl, e12⟩ | ⟨rfl, e12⟩
    · refine z_if_eq C dX8_longest_15 (tgt := 68) (by decide) (fun h15 => absurd h15 (by decide)) (fun h15 => ?_)
      cases hb : longO d x w with
      | none =>
        refine z_lveq (lv' := [(2, Value.int (nI w)), (1, Value.int (-1)), (0, Value.ref (a 300))]) rfl ?_
        refine z_iload_n C dX8_longest_18 rfl (q := 1) rfl ?_
        refine z_iconst C dX8_longest_19 (v := -1) (by decide) ?_
        refine z_icmp_eq C dX8_longest_20 (tgt := 66) (by decide) (fun h20 => ?_) (fun h20 => absurd (rfl) h20)
        refine z_iload_n C dX8_longest_66 rfl (q := 0) rfl ?_
        refine z_istore_n C dX8_longest_67 rfl (by decide) (lv' := [(1, Value.int (nI w)), (2, Value.int (nI w)), (0, Value.ref (a 300))]) rfl ?_
        refine z_iinc C dX8_longest_68 (q := 1) rfl (v := nI (w + 1)) (nI_1 _) (by decide) (lv' := [(2, Value.int (nI (w + 1))), (1, Value.int (nI w)), (0, Value.ref (a 300))]) rfl ?_
        refine z_goto C dX8_longest_71 (tgt := 4) (by decide) ?_
        have he : longO d x (w + 1) = some w := by rw [longO_n hb]; exact pick_pos e12
        rw [he] at ihw
        exact ihw (fun b h => by cases h; exact hw)
      | some b =>
        have hb8 := hvw b hb
        have hzb := (CI_sz hI hb8).2
        have hbl := wideD_le hI hX hb8
        refine z_lveq (lv' := [(2, Value.int (nI w)), (1, Value.int (nI b)), (0, Value.ref (a 300))]) rfl ?_
        refine z_iload_n C dX8_longest_18 rfl (q := 1) rfl ?_
        refine z_iconst C dX8_longest_19 (v := -1) (by decide) ?_
        refine z_icmp_eq C dX8_longest_20 (tgt := 66) (by decide) (fun h20 => absurd h20 (fun h => m1_nI (by omega) h.symm)) (fun h20 => ?_)
        refine z_aload_n C dX8_longest_23 rfl (q := 2) rfl ?_
        refine zg_X8_spelled C (k := 300) (hL _ (by unfold live; omega)) (by rfl) i8 (by decide +kernel) (k' := 307) (RM_spelled hM) dX8_longest_24 ?_
        refine z_iload_n C dX8_longest_27 rfl (q := 0) rfl ?_
        refine z_iaload C (k := 307) (hL _ (by unfold live; omega)) (by rfl) (j := w) rfl (by rw [show ln 307 = 8 from rfl]; omega) (by rw [show ln 307 = 8 from rfl]; decide) (v := nI (nn d (20 + w) 1)) (LK_sz hK hI (by omega)) dX8_longest_28 ?_
        refine z_aload_n C dX8_longest_29 rfl (q := 2) rfl ?_
        refine zg_X8_spelled C (k := 300) (hL _ (by unfold live; omega)) (by rfl) i8 (by decide +kernel) (k' := 307) (RM_spelled hM) dX8_longest_30 ?_
        refine z_iload_n C dX8_longest_33 rfl (q := 1) rfl ?_
        refine z_iaload C (k := 307) (hL _ (by unfold live; omega)) (by rfl) (j := b) rfl (by rw [show ln 307 = 8 from rfl]; omega) (by rw [show ln 307 = 8 from rfl]; decide) (v := nI (nn d (20 + b) 1)) (LK_sz hK hI (by omega)) dX8_longest_34 ?_
        refine z_icmp_gt C dX8_longest_35 (tgt := 66) (by decide) (fun h35 => ?_) (fun h35 => ?_)
        · have q35 := iv_lt (nI_toInt (by omega)) (nI_toInt (by omega)) h35
          refine z_iload_n C dX8_longest_66 rfl (q := 0) rfl ?_
          refine z_istore_n C dX8_longest_67 rfl (by decide) (lv' := [(1, Value.int (nI w)), (2, Value.int (nI w)), (0, Value.ref (a 300))]) rfl ?_
          refine z_iinc C dX8_longest_68 (q := 1) rfl (v := nI (w + 1)) (nI_1 _) (by decide) (lv' := [(2, Value.int (nI (w + 1))), (1, Value.int (nI w)), (0, Value.ref (a 300))]) rfl ?_
          refine z_goto C dX8_longest_71 (tgt := 4) (by decide) ?_
          have he : longO d x (w + 1) = some w := by rw [longO_s hb]; exact pick_pos ⟨e12, by omega⟩
          rw [he] at ihw
          exact ihw (fun b h => by cases h; exact hw)
        · have q35 := iv_nlt (nI_toInt (by omega)) (nI_toInt (by omega)) h35
          refine z_aload_n C dX8_longest_38 rfl (q := 2) rfl ?_
          refine zg_X8_spelled C (k := 300) (hL _ (by unfold live; omega)) (by rfl) i8 (by decide +kernel) (k' := 307) (RM_spelled hM) dX8_longest_39 ?_
          refine z_iload_n C dX8_longest_42 rfl (q := 0) rfl ?_
          refine z_iaload C (k := 307) (hL _ (by unfold live; omega)) (by rfl) (j := w) rfl (by rw [show ln 307 = 8 from rfl]; omega) (by rw [show ln 307 = 8 from rfl]; decide) (v := nI (nn d (20 + w) 1)) (LK_sz hK hI (by omega)) dX8_longest_43 ?_
          refine z_aload_n C dX8_longest_44 rfl (q := 2) rfl ?_
          refine zg_X8_spelled C (k := 300) (hL _ (by unfold live; omega)) (by rfl) i8 (by decide +kernel) (k' := 307) (RM_spelled hM) dX8_longest_45 ?_
          refine z_iload_n C dX8_longest_48 rfl (q := 1) rfl ?_
          refine z_iaload C (k := 307) (hL _ (by unfold live; omega)) (by rfl) (j := b) rfl (by rw [show ln 307 = 8 from rfl]; omega) (by rw [show ln 307 = 8 from rfl]; decide) (v := nI (nn d (20 + b) 1)) (LK_sz hK hI (by omega)) dX8_longest_49 ?_
          refine z_icmp_ne C dX8_longest_50 (tgt := 68) (by decide) (fun h50 => ?_) (fun h50 => ?_)
          · have q50 := iv_ne (nI_toInt (by omega)) (nI_toInt (by omega)) h50
            refine z_iinc C dX8_longest_68 (q := 0) rfl (v := nI (w + 1)) (nI_1 _) (by decide) (lv' := [(2, Value.int (nI (w + 1))), (1, Value.int (nI b)), (0, Value.ref (a 300))]) rfl ?_
            refine z_goto C dX8_longest_71 (tgt := 4) (by decide) ?_
            have he : longO d x (w + 1) = some b := by rw [longO_s hb]; exact pick_neg (fun h => by have := h.2; omega)
            rw [he] at ihw
            exact ihw (fun b h => by cases h; exact hb8)
          · have q50 := iv_eq (nI_toInt (by omega)) (nI_toInt (by omega)) h50
            refine z_aload_n C dX8_longest_53 rfl (q := 2) rfl ?_
            refine z_iload_n C dX8_longest_54 rfl (q := 0) rfl ?_
            refine z_pI C (z_runV C (As := [Value.int (nI w)]) (rest := []) (c_X8_wideOf l D cy a L c g r nl nk hL hM d hI x hX hK w (by omega)) (cwV 1 C.2.2.2.2.2.1 gX8_longest_X8_wideOf rfl rfl rfl (by decide +kernel) ⟨Nat.le_of_ble_eq_true rfl, Nat.le_of_ble_eq_true rfl⟩) (hL _ (by unfold live; omega)) (zF_k8 (by rfl)) rfl rfl rfl rfl (Nat.le_of_ble_eq_true rfl) dX8_longest_55 ⟨Nat.zero_le _, Nat.zero_le _⟩) (fun v55 e55 => ?_)
            subst e55
            refine z_aload_n C dX8_longest_58 rfl (q := 2) rfl ?_
            refine z_iload_n C dX8_longest_59 rfl (q := 1) rfl ?_
            refine z_pI C (z_runV C (As := [Value.int (nI b)]) (rest := [Value.int (nI (wideC d x w))]) (c_X8_wideOf l D cy a L c g r nl nk hL hM d hI x hX hK b (by omega)) (cwV 1 C.2.2.2.2.2.1 gX8_longest_X8_wideOf rfl rfl rfl (by decide +kernel) ⟨Nat.le_of_ble_eq_true rfl, Nat.le_of_ble_eq_true rfl⟩) (hL _ (by unfold live; omega)) (zF_k8 (by rfl)) rfl rfl rfl rfl (Nat.le_of_ble_eq_true rfl) dX8_longest_60 ⟨Nat.zero_le _, Nat.zero_le _⟩) (fun v60 e60 => ?_)
            subst e60
            refine z_icmp_le C dX8_longest_63 (tgt := 68) (by decide) (fun h63 => ?_) (fun h63 => ?_)
            · have q63 := iv_le (nI_toInt (by omega)) (nI_toInt (by omega)) h63
              refine z_iinc C dX8_longest_68 (q := 0) rfl (v := nI (w + 1)) (nI_1 _) (by decide) (lv' := [(2, Value.int (nI (w + 1))), (1, Value.int (nI b)), (0, Value.ref (a 300))]) rfl ?_
              refine z_goto C dX8_longest_71 (tgt := 4) (by decide) ?_
              have he : longO d x (w + 1) = some b := by rw [longO_s hb]; exact pick_neg (fun h => by have := h.2; omega)
              rw [he] at ihw
              exact ihw (fun b h => by cases h; exact hb8)
            · have q63 := iv_nle (nI_toInt (by omega)) (nI_toInt (by omega)) h63
              refine z_iload_n C dX8_longest_66 rfl (q := 0) rfl ?_
              refine z_istore_n C dX8_longest_67 rfl (by decide) (lv' := [(1, Value.int (nI w)), (2, Value.int (nI w)), (0, Value.ref (a 300))]) rfl ?_
              refine z_iinc C dX8_longest_68 (q := 1) rfl (v := nI (w + 1)) (nI_1 _) (by decide) (lv' := [(2, Value.int (nI (w + 1))), (1, Value.int (nI w)), (0, Value.ref (a 300))]) rfl ?_
              refine z_goto C dX8_longest_71 (tgt := 4) (by decide) ?_
              have he : longO d x (w + 1) = some w := by rw [longO_s hb]; exact pick_pos ⟨e12, by omega⟩
              rw [he] at ihw
              exact ihw (fun b h => by cases h; exact hw)
    · refine z_if_eq C dX8_longest_15 (tgt := 68) (by decide) (fun h15 => ?_) (fun h15 => absurd h15 (by decide))
      refine z_iinc C dX8_longest_68 (q := 0) rfl (v := nI (w + 1)) (nI_1 _) (by decide) (lv' := [(2, Value.int (nI (w + 1))), (1, Value.int (lo2i (longO d x w))), (0, Value.ref (a 300))]) rfl ?_
      refine z_goto C dX8_longest_71 (tgt := 4) (by decide) ?_
      have he : longO d x (w + 1) = longO d x w := by
        cases hb : longO d x w with
        | none => rw [longO_n hb]; exact pick_neg e12
        | some b => rw [longO_s hb]; exact pick_neg (fun h => e12 h.1)
      rw [he] at ihw
      exact ihw hvw

theorem layK_step (kr : Nat) (c : Nat → Nat → Int32) (f sp : Nat → Nat) (st k : Nat) (h : st + k < 60) : up2 (up1 c kr (fun q => if q < 60 then nI (if st ≤ q ∧ q < st + k then sp (q - st) else f q) else c kr q)) kr (st + k) (nI (sp k)) = up1 c kr (fun q => if q < 60 then nI (if st ≤ q ∧ q < st + (k + 1) then sp (q - st) else f q) else c kr q) := by
  funext k' q; unfold up2 up1
  by_cases hk : k' = kr
  · subst hk
    simp only [if_true]
    by_cases hq : q = st + k
    · subst hq
      rw [if_pos rfl, if_pos h, if_pos (by omega)]
      congr 2; omega
    · rw [if_neg hq]
      by_cases h60 : q < 60
      · rw [if_pos h60, if_pos h60]
        by_cases h2 : st ≤ q ∧ q < st + k
        · rw [if_pos h2, if_pos (by omega)]
        · rw [if_neg h2, if_neg (by omega)]
      · rw [if_neg h60, if_neg h60]
  · simp [hk]
theorem layK_start (kr : Nat) (c : Nat → Nat → Int32) (f sp : Nat → Nat) (st : Nat) : up1 c kr (fun q => if q < 60 then nI (if st ≤ q ∧ q < st + 0 then sp (q - st) else f q) else c kr q) = up1 c kr (fun q => if q < 60 then nI (f q) else c kr q) := by
  congr 1; funext q; rw [if_neg (show ¬ (st ≤ q ∧ q < st + 0) by omega)]

set_option maxHeartbeats 4000000 in
set_option maxRecDepth 100000 in
theorem c_X8_lay (l : Launch) (D : va_G) (cy : Nat → ClassId) (a : Nat → Nat) (L : List Nat) (c : Nat → Nat → Int32) (g : Nat → Nat → Int64) (r : Nat → Nat → Option Nat) (nl nk : Nat) (hL : zLv L nl nk) (hM : RM r) (d : Nat → Nat → Int32) (hI : CI d nl nk) (x : Nat → Nat → Nat) (hX : XL d nl x) (hK : LK d c nl nk x) (w : Nat) (hw : w < 8) (hfit : wideC d x w ≤ 60) : zCV l yX8_lay wsX8_lay { frames := 0, cells := 0, slots := 0, locals := 0 } D cy a L c g r [Value.ref (a 300), Value.int (nI w)] (fun c' => c' = up1 c 311 (fun q => if q < 60 then nI (layC d x w q) else c 311 q)) := by
  refine z_enter cX8_lay 6 none (by decide) (Nat.le_of_ble_eq_true rfl) ?_
  intro p e s m below meth co C hin
  have C : zC p s m _ meth co D cy _ cX8_lay 6 none wsX8_lay RX8 := C
  have i8 : ∀ w ∈ wsX80, w ∈ wsX8_lay := by decide +kernel
  have h16 := CI_nl16 hI
  have hz := (CI_sz hI hw).2
  have hg := (CI_G hI).2
  refine z_iconst C dX8_lay_0 (v := nI 0) (by decide) ?_
  refine z_istore_n C dX8_lay_1 rfl (by decide) (lv' := [(2, Value.int (nI 0)), (0, Value.ref (a 300)), (1, Value.int (nI w))]) rfl ?_
  refine z_ceq (fill_0 c 311 (nI 0)) ?_
  refine z_for 0 60 (Nat.zero_le _) (fun z => [(2, Value.int (nI z)), (0, Value.ref (a 300)), (1, Value.int (nI w))]) (fun z => up1 c 311 (fun q => if q < z then nI 0 else c 311 q)) (fun z => g) ?_ ?_
  · refine z_iload_n C dX8_lay_2 rfl (q := 0) rfl ?_
    refine z_bipush C dX8_lay_3 (v := nI 60) (by decide) ?_
    refine z_icmp_ge C dX8_lay_5 (tgt := 21) (by decide) (fun h5 => ?_) (fun h5 => absurd (Int32.le_refl _) h5)
    refine z_iconst C dX8_lay_21 (v := nI 0) (by decide) ?_
    refine z_istore_n C dX8_lay_22 rfl (by decide) (lv' := [(2, Value.int (nI 0)), (0, Value.ref (a 300)), (1, Value.int (nI w))]) rfl ?_
    refine z_iconst C dX8_lay_23 (v := nI 0) (by decide) ?_
    refine z_istore_n C dX8_lay_24 rfl (by decide) (lv' := [(3, Value.int (nI 0)), (2, Value.int (nI 0)), (0, Value.ref (a 300)), (1, Value.int (nI w))]) rfl ?_
    refine z_ceq (c' := up1 c 311 (fun q => if q < 60 then nI (layV (fun j => nn d (100 + x w j) 0) (nn d 3 2) (fun j k => nn d (120 + x w j) k) 0 q) else c 311 q)) rfl ?_
    refine z_for 0 ((nn d (20 + w) 1)) (Nat.zero_le _) (fun i => [(3, Value.int (nI i)), (2, Value.int (nI (sumF (fun j => nn d (100 + x w j) 0 + nn d 3 2) i))), (0, Value.ref (a 300)), (1, Value.int (nI w))]) (fun i => up1 c 311 (fun q => if q < 60 then nI (layV (fun j => nn d (100 + x w j) 0) (nn d 3 2) (fun j k => nn d (120 + x w j) k) i q) else c 311 q)) (fun i => g) ?_ ?_
    · refine z_iload_n C dX8_lay_25 rfl (q := 0) rfl ?_
      refine z_aload_n C dX8_lay_26 rfl (q := 2) rfl ?_
      refine zg_X8_spelled C (k := 300) (hL _ (by unfold live; omega)) (by rfl) i8 (by decide +kernel) (k' := 307) (RM_spelled hM) dX8_lay_27 ?_
      refine z_iload_n C dX8_lay_30 rfl (q := 3) rfl ?_
      refine z_iaload C (k := 307) (hL _ (by unfold live; omega)) (by rfl) (j := w) rfl (by rw [show ln 307 = 8 from rfl]; omega) (by rw [show ln 307 = 8 from rfl]; decide) (v := nI (nn d (20 + w) 1)) (LK_sz (LK_s (lks_row (by unfold lkr; omega) (by decide) _) hK) hI hw) dX8_lay_31 ?_
      refine z_icmp_ge C dX8_lay_32 (tgt := 111) (by decide) (fun h32 => ?_) (fun h32 => absurd (Int32.le_refl _) h32)
      exact z_vret C rfl (Nat.le_refl _) (Nat.le_refl _) dX8_lay_111 ⟨_, rfl, rfl⟩
    · intro i hli hi ihi
      have hx := hX w hw i hi
      have hwi := (CI_wi hI hx).2
      have hmo := sumF_mono (fun j => nn d (100 + x w j) 0 + nn d 3 2) (show i + 1 ≤ nn d (20 + w) 1 from hi)
      have hse : sumF (fun j => nn d (100 + x w j) 0 + nn d 3 2) (i + 1) = (sumF (fun j => nn d (100 + x w j) 0 + nn d 3 2) i) + (nn d (100 + x w i) 0 + nn d 3 2) := rfl
      have hfit : sumF (fun j => nn d (100 + x w j) 0 + nn d 3 2) (nn d (20 + w) 1) ≤ 60 := hfit
      refine z_iload_n C dX8_lay_25 rfl (q := 0) rfl ?_
      refine z_aload_n C dX8_lay_26 rfl (q := 2) rfl ?_
      refine zg_X8_spelled C (k := 300) (hL _ (by unfold live; omega)) (by rfl) i8 (by decide +kernel) (k' := 307) (RM_spelled hM) dX8_lay_27 ?_
      refine z_iload_n C dX8_lay_30 rfl (q := 3) rfl ?_
      refine z_iaload C (k := 307) (hL _ (by unfold live; omega)) (by rfl) (j := w) rfl (by rw [show ln 307 = 8 from rfl]; omega) (by rw [show ln 307 = 8 from rfl]; decide) (v := nI (nn d (20 + w) 1)) (LK_sz (LK_s (lks_row (by unfold lkr; omega) (by decide) _) hK) hI hw) dX8_lay_31 ?_
      refine z_icmp_ge C dX8_lay_32 (tgt := 111) (by decide) (fun h32 => absurd h32 (nI_ge hi (by omega))) (fun h32 => ?_)
      refine z_aload_n C dX8_lay_35 rfl (q := 2) rfl ?_
      refine zg_X8_words C (k := 300) (hL _ (by unfold live; omega)) (by rfl) i8 (by decide +kernel) (k' := 308) (RM_words hM) dX8_lay_36 ?_
      refine z_bipush C dX8_lay_39 (v := 10) (by decide) ?_
      refine z_iload_n C dX8_lay_41 rfl (q := 3) rfl ?_
      refine z_imul C dX8_lay_42 (v := nI (10 * w)) (pk_mul 10 w) ?_
      refine z_iload_n C dX8_lay_43 rfl (q := 0) rfl ?_
      refine z_iadd C dX8_lay_44 (v := nI ((10 * w) + i)) (nI_add (10 * w) i) ?_
      refine z_iaload C (k := 308) (hL _ (by unfold live; omega)) (by rfl) (j := ((10 * w) + i)) rfl (by rw [show ln 308 = 80 from rfl]; omega) (by rw [show ln 308 = 80 from rfl]; decide) (v := nI (x w i)) (LK_x (LK_s (lks_row (by unfold lkr; omega) (by decide) _) hK) hw hi) dX8_lay_45 ?_
      refine z_istore C dX8_lay_46 (by decide) (lv' := [(4, Value.int (nI (x w i))), (3, Value.int (nI i)), (2, Value.int (nI (sumF (fun j => nn d (100 + x w j) 0 + nn d 3 2) i))), (0, Value.ref (a 300)), (1, Value.int (nI w))]) rfl ?_
      refine z_iconst C dX8_lay_48 (v := nI 0) (by decide) ?_
      refine z_istore C dX8_lay_49 (by decide) (lv' := [(5, Value.int (nI 0)), (4, Value.int (nI (x w i))), (3, Value.int (nI i)), (2, Value.int (nI (sumF (fun j => nn d (100 + x w j) 0 + nn d 3 2) i))), (0, Value.ref (a 300)), (1, Value.int (nI w))]) rfl ?_
      refine z_ceq (c' := up1 c 311 (fun q => if q < 60 then nI (if (sumF (fun j => nn d (100 + x w j) 0 + nn d 3 2) i) ≤ q ∧ q < (sumF (fun j => nn d (100 + x w j) 0 + nn d 3 2) i) + 0 then nn d (120 + x w i) (q - (sumF (fun j => nn d (100 + x w j) 0 + nn d 3 2) i)) else layV (fun j => nn d (100 + x w j) 0) (nn d 3 2) (fun j k => nn d (120 + x w j) k) i q) else c 311 q)) (layK_start 311 c _ (fun z => nn d (120 + x w i) z) _) ?_
      refine z_for 0 ((nn d (100 + x w i) 0)) (Nat.zero_le _) (fun k => [(5, Value.int (nI k)), (4, Value.int (nI (x w i))), (3, Value.int (nI i)), (2, Value.int (nI (sumF (fun j => nn d (100 + x w j) 0 + nn d 3 2) i))), (0, Value.ref (a 300)), (1, Value.int (nI w))]) (fun k => up1 c 311 (fun q => if q < 60 then nI (if (sumF (fun j => nn d (100 + x w j) 0 + nn d 3 2) i) ≤ q ∧ q < (sumF (fun j => nn d (100 + x w j) 0 + nn d 3 2) i) + k then nn d (120 + x w i) (q - (sumF (fun j => nn d (100 + x w j) 0 + nn d 3 2) i)) else layV (fun j => nn d (100 + x w j) 0) (nn d 3 2) (fun j k => nn d (120 + x w j) k) i q) else c 311 q)) (fun k => g) ?_ ?_
      · refine z_iload C dX8_lay_51 (q := 0) rfl ?_
        refine z_aload_n C dX8_lay_53 rfl (q := 4) rfl ?_
        refine zg_X8_width C (k := 300) (hL _ (by unfold live; omega)) (by rfl) i8 (by decide +kernel) (k' := 303) (RM_width hM) dX8_lay_54 ?_
        refine z_iload C dX8_lay_57 (q := 1) rfl ?_
        refine z_iaload C (k := 303) (hL _ (by unfold live; omega)) (by rfl) (j := (x w i)) rfl (by rw [show ln 303 = 16 from rfl]; omega) (by rw [show ln 303 = 16 from rfl]; decide) (v := nI (nn d (100 + x w i) 0)) (LK_wi (LK_s (lks_row (by unfold lkr; omega) (by decide) _) hK) hI hx) dX8_lay_59 ?_
        refine z_icmp_ge C dX8_lay_60 (tgt := 90) (by decide) (fun h60 => ?_) (fun h60 => absurd (Int32.le_refl _) h60)
        refine z_iload_n C dX8_lay_90 rfl (q := 3) rfl ?_
        refine z_aload_n C dX8_lay_91 rfl (q := 4) rfl ?_
        refine zg_X8_width C (k := 300) (hL _ (by unfold live; omega)) (by rfl) i8 (by decide +kernel) (k' := 303) (RM_width hM) dX8_lay_92 ?_
        refine z_iload C dX8_lay_95 (q := 1) rfl ?_
        refine z_iaload C (k := 303) (hL _ (by unfold live; omega)) (by rfl) (j := (x w i)) rfl (by rw [show ln 303 = 16 from rfl]; omega) (by rw [show ln 303 = 16 from rfl]; decide) (v := nI (nn d (100 + x w i) 0)) (LK_wi (LK_s (lks_row (by unfold lkr; omega) (by decide) _) hK) hI hx) dX8_lay_97 ?_
        refine z_aload_n C dX8_lay_98 rfl (q := 4) rfl ?_
        refine zg_X8_gap C (k := 300) (hL _ (by unfold live; omega)) (by rfl) i8 (by decide +kernel) (v := nI (nn d 3 2)) (LK_G (LK_s (lks_row (by unfold lkr; omega) (by decide) _) hK) hI) dX8_lay_99 ?_
        refine z_iadd C dX8_lay_102 (v := nI (nn d (100 + x w i) 0 + nn d 3 2)) (nI_add _ _) ?_
        refine z_iadd C dX8_lay_103 (v := nI (sumF (fun j => nn d (100 + x w j) 0 + nn d 3 2) (i + 1))) (nI_add _ _) ?_
        refine z_istore_n C dX8_lay_104 rfl (by decide) (lv' := [(2, Value.int (nI (sumF (fun j => nn d (100 + x w j) 0 + nn d 3 2) (i + 1)))), (5, Value.int (nI (nn d (100 + x w i) 0))), (4, Value.int (nI (x w i))), (3, Value.int (nI i)), (0, Value.ref (a 300)), (1, Value.int (nI w))]) rfl ?_
        refine z_iinc C dX8_lay_105 (q := 3) rfl (v := nI (i + 1)) (nI_1 _) (by decide) (lv' := [(3, Value.int (nI (i + 1))), (2, Value.int (nI (sumF (fun j => nn d (100 + x w j) 0 + nn d 3 2) (i + 1)))), (5, Value.int (nI (nn d (100 + x w i) 0))), (4, Value.int (nI (x w i))), (0, Value.ref (a 300)), (1, Value.int (nI w))]) rfl ?_
        refine z_goto C dX8_lay_108 (tgt := 25) (by decide) ?_
        refine z_sub [0, 1, 4, 5] (lv' := [(3, Value.int (nI (i + 1))), (2, Value.int (nI (sumF (fun j => nn d (100 + x w j) 0 + nn d 3 2) (i + 1)))), (0, Value.ref (a 300)), (1, Value.int (nI w))]) rfl ?_
        exact ihi
      · intro k hlk hk ihk
        refine z_iload C dX8_lay_51 (q := 0) rfl ?_
        refine z_aload_n C dX8_lay_53 rfl (q := 4) rfl ?_
        refine zg_X8_width C (k := 300) (hL _ (by unfold live; omega)) (by rfl) i8 (by decide +kernel) (k' := 303) (RM_width hM) dX8_lay_54 ?_
        refine z_iload C dX8_lay_57 (q := 1) rfl ?_
        refine z_iaload C (k := 303) (hL _ (by unfold live; omega)) (by rfl) (j := (x w i)) rfl (by rw [show ln 303 = 16 from rfl]; omega) (by rw [show ln 303 = 16 from rfl]; decide) (v := nI (nn d (100 + x w i) 0)) (LK_wi (LK_s (lks_row (by unfold lkr; omega) (by decide) _) hK) hI hx) dX8_lay_59 ?_
        refine z_icmp_ge C dX8_lay_60 (tgt := 90) (by decide) (fun h60 => absurd h60 (nI_ge hk (by omega))) (fun h60 => ?_)
        refine z_aload_n C dX8_lay_63 rfl (q := 4) rfl ?_
        refine zg_X8_laid C (k := 300) (hL _ (by unfold live; omega)) (by rfl) i8 (by decide +kernel) (k' := 311) (RM_laid hM) dX8_lay_64 ?_
        refine z_iload_n C dX8_lay_67 rfl (q := 3) rfl ?_
        refine z_iload C dX8_lay_68 (q := 0) rfl ?_
        refine z_iadd C dX8_lay_70 (v := nI ((sumF (fun j => nn d (100 + x w j) 0 + nn d 3 2) i) + k)) (nI_add _ _) ?_
        refine z_aload_n C dX8_lay_71 rfl (q := 4) rfl ?_
        refine zg_X8_strips C (k := 300) (hL _ (by unfold live; omega)) (by rfl) i8 (by decide +kernel) (k' := 306) (RM_strips hM) dX8_lay_72 ?_
        refine z_iconst C dX8_lay_75 (v := 5) (by decide) ?_
        refine z_iload C dX8_lay_76 (q := 1) rfl ?_
        refine z_imul C dX8_lay_78 (v := nI (5 * (x w i))) (pk_mul 5 (x w i)) ?_
        refine z_iload C dX8_lay_79 (q := 0) rfl ?_
        refine z_iadd C dX8_lay_81 (v := nI ((5 * (x w i)) + k)) (nI_add (5 * (x w i)) k) ?_
        refine z_iaload C (k := 306) (hL _ (by unfold live; omega)) (by rfl) (j := ((5 * (x w i)) + k)) rfl (by rw [show ln 306 = 80 from rfl]; omega) (by rw [show ln 306 = 80 from rfl]; decide) (v := nI (nn d (120 + x w i) k)) (LK_sp (LK_s (lks_row (by unfold lkr; omega) (by decide) _) hK) hI hx (by omega)) dX8_lay_82 ?_
        refine z_iastore C (k := 311) (hL _ (by unfold live; omega)) (by rfl) (j := (sumF (fun j => nn d (100 + x w j) 0 + nn d 3 2) i) + k) rfl (show _ < 60 by omega) (by rw [show ln 311 = 60 from rfl]; decide) dX8_lay_83 ?_
        refine z_iinc C dX8_lay_84 (q := 0) rfl (v := nI (k + 1)) (nI_1 _) (by decide) (lv' := [(5, Value.int (nI (k + 1))), (4, Value.int (nI (x w i))), (3, Value.int (nI i)), (2, Value.int (nI (sumF (fun j => nn d (100 + x w j) 0 + nn d 3 2) i))), (0, Value.ref (a 300)), (1, Value.int (nI w))]) rfl ?_
        refine z_goto C dX8_lay_87 (tgt := 51) (by decide) ?_
        refine z_ceq (layK_step 311 c _ (fun z => nn d (120 + x w i) z) (sumF (fun j => nn d (100 + x w j) 0 + nn d 3 2) i) k (by omega)).symm ?_
        exact ihk
  · intro z hlz hz ihz
    refine z_iload_n C dX8_lay_2 rfl (q := 0) rfl ?_
    refine z_bipush C dX8_lay_3 (v := nI 60) (by decide) ?_
    refine z_icmp_ge C dX8_lay_5 (tgt := 21) (by decide) (fun h5 => absurd h5 (nI_ge hz (by omega))) (fun h5 => ?_)
    refine z_aload_n C dX8_lay_8 rfl (q := 1) rfl ?_
    refine zg_X8_laid C (k := 300) (hL _ (by unfold live; omega)) (by rfl) i8 (by decide +kernel) (k' := 311) (RM_laid hM) dX8_lay_9 ?_
    refine z_iload_n C dX8_lay_12 rfl (q := 0) rfl ?_
    refine z_iconst C dX8_lay_13 (v := nI 0) (by decide) ?_
    refine z_iastore C (k := 311) (hL _ (by unfold live; omega)) (by rfl) (j := z) rfl hz (by rw [show ln 311 = 60 from rfl]; decide) dX8_lay_14 ?_
    refine z_iinc C dX8_lay_15 (q := 0) rfl (v := nI (z + 1)) (nI_1 _) (by decide) (lv' := [(2, Value.int (nI (z + 1))), (0, Value.ref (a 300)), (1, Value.int (nI w))]) rfl ?_
    refine z_goto C dX8_lay_18 (tgt := 2) (by decide) ?_
    refine z_ceq (fill_step c 311 z (nI 0)).symm ?_
    exact ihz

def upM (s : Int32) : Nat → Int32
  | 0 => nI 0
  | b + 1 => upM s b ||| (((s >>> (nI b &&& 31)) &&& 1) <<< ((4 - nI b) &&& 31))
theorem flip5_M : ∀ v, v < 32 → upM (nI v) 5 = nI (flip5 v) := by decide +kernel
theorem slot_0 {S t i : Nat} (ht : t < S) (hi : i < S) : (i + t) % S = (if t + i < S then t + i else t + i - S) := by
  split
  · rw [Nat.mod_eq_of_lt (by omega)]; omega
  · rw [Nat.mod_eq_sub_mod (by omega), Nat.mod_eq_of_lt (by omega)]; omega
theorem slot_1 {S t i : Nat} (ht : t < S) (hi : i < S) : (t + S - i) % S = (if i ≤ t then t - i else t + S - i) := by
  split
  · rw [Nat.mod_eq_sub_mod (by omega), Nat.mod_eq_of_lt (by omega)]; omega
  · rw [Nat.mod_eq_of_lt (by omega)]

set_option maxHeartbeats 4000000 in
set_option maxRecDepth 100000 in
theorem c_X8_upsideDown (l : Launch) (D : va_G) (cy : Nat → ClassId) (a : Nat → Nat) (L : List Nat) (c : Nat → Nat → Int32) (g : Nat → Nat → Int64) (r : Nat → Nat → Option Nat) (v : Nat) (hv : v < 32) : zPI l yX8_upsideDown wsX8_upsideDown { frames := 0, cells := 0, slots := 0, locals := 0 } D cy a L c g r [Value.int (nI v)] (fun z => z = nI (flip5 v)) := by
  refine z_enter cX8_upsideDown 3 (some .int) (by decide) (Nat.le_of_ble_eq_true rfl) ?_
  intro p e s m below meth co C hin
  have C : zC p s m _ meth co D cy _ cX8_upsideDown 3 (some .int) wsX8_upsideDown RX8 := C
  refine z_iconst C dX8_upsideDown_0 (v := nI 0) (by decide) ?_
  refine z_istore_n C dX8_upsideDown_1 rfl (by decide) (lv' := [(1, Value.int (nI 0)), (0, Value.int (nI v))]) rfl ?_
  refine z_iconst C dX8_upsideDown_2 (v := nI 0) (by decide) ?_
  refine z_istore_n C dX8_upsideDown_3 rfl (by decide) (lv' := [(2, Value.int (nI 0)), (1, Value.int (nI 0)), (0, Value.int (nI v))]) rfl ?_
  refine z_for 0 5 (Nat.zero_le _) (fun i => [(2, Value.int (nI i)), (1, Value.int (upM (nI v) i)), (0, Value.int (nI v))]) (fun i => c) (fun i => g) ?_ ?_
  · refine z_iload_n C dX8_upsideDown_4 rfl (q := 0) rfl ?_
    refine z_iconst C dX8_upsideDown_5 (v := nI 5) (by decide) ?_
    refine z_icmp_ge C dX8_upsideDown_6 (tgt := 27) (by decide) (fun h6 => ?_) (fun h6 => absurd (Int32.le_refl _) h6)
    refine z_iload_n C dX8_upsideDown_27 rfl (q := 1) rfl ?_
    exact z_iret C rfl (Nat.le_refl _) (Nat.le_refl _) dX8_upsideDown_28 ⟨rfl, flip5_M v hv⟩
  · intro i hli hi ihi
    refine z_iload_n C dX8_upsideDown_4 rfl (q := 0) rfl ?_
    refine z_iconst C dX8_upsideDown_5 (v := nI 5) (by decide) ?_
    refine z_icmp_ge C dX8_upsideDown_6 (tgt := 27) (by decide) (fun h6 => absurd h6 (nI_ge hi (by omega))) (fun h6 => ?_)
    refine z_iload_n C dX8_upsideDown_9 rfl (q := 1) rfl ?_
    refine z_iload_n C dX8_upsideDown_10 rfl (q := 2) rfl ?_
    refine z_iload_n C dX8_upsideDown_11 rfl (q := 0) rfl ?_
    refine z_ishr C dX8_upsideDown_12 (v := (nI v) >>> ((nI i) &&& 31)) rfl ?_
    refine z_iconst C dX8_upsideDown_13 (v := 1) (by decide) ?_
    refine z_iand C dX8_upsideDown_14 (v := ((nI v) >>> ((nI i) &&& 31)) &&& 1) rfl ?_
    refine z_iconst C dX8_upsideDown_15 (v := 4) (by decide) ?_
    refine z_iload_n C dX8_upsideDown_16 rfl (q := 0) rfl ?_
    refine z_isub C dX8_upsideDown_17 (v := 4 - (nI i)) rfl ?_
    refine z_ishl C dX8_upsideDown_18 (v := (((nI v) >>> ((nI i) &&& 31)) &&& 1) <<< ((4 - (nI i)) &&& 31)) rfl ?_
    refine z_ior C dX8_upsideDown_19 (v := (upM (nI v) i) ||| ((((nI v) >>> ((nI i) &&& 31)) &&& 1) <<< ((4 - (nI i)) &&& 31))) rfl ?_
    refine z_istore_n C dX8_upsideDown_20 rfl (by decide) (lv' := [(1, Value.int ((upM (nI v) i) ||| ((((nI v) >>> ((nI i) &&& 31)) &&& 1) <<< ((4 - (nI i)) &&& 31)))), (2, Value.int (nI i)), (0, Value.int (nI v))]) rfl ?_
    refine z_iinc C dX8_upsideDown_21 (q := 1) rfl (v := nI (i + 1)) (nI_1 _) (by decide) (lv' := [(2, Value.int (nI (i + 1))), (1, Value.int ((upM (nI v) i) ||| ((((nI v) >>> ((nI i) &&& 31)) &&& 1) <<< ((4 - (nI i)) &&& 31)))), (0, Value.int (nI v))]) rfl ?_
    refine z_goto C dX8_upsideDown_24 (tgt := 4) (by decide) ?_
    exact ihi

set_option maxHeartbeats 4000000 in
set_option maxRecDepth 100000 in
theorem c_X8_cutAt (l : Launch) (D : va_G) (cy : Nat → ClassId) (a : Nat → Nat) (L : List Nat) (c : Nat → Nat → Int32) (g : Nat → Nat → Int64) (r : Nat → Nat → Option Nat) (nl nk : Nat) (hL : zLv L nl nk) (hM : RM r) (d : Nat → Nat → Int32) (hI : CI d nl nk) (x : Nat → Nat → Nat) (hX : XL d nl x) (hK : LK d c nl nk x) (lay : Nat → Nat) (hy : ∀ q, q < 60 → c 311 q = nI (lay q) ∧ lay q ≤ 31) (t lk i : Nat) (ht : t < nn d 3 1) (hk : lk < 4) (hi : i < nn d 3 1) : zPI l yX8_cutAt wsX8_cutAt { frames := 1, cells := 0, slots := 0, locals := 22 } D cy a L c g r [Value.ref (a 300), Value.int (nI t), Value.int (nI lk), Value.int (nI i)] (fun v => v = nI (seenV (nn d 3 1) lay t lk i)) := by
  refine z_enter cX8_cutAt 5 (some .int) (by decide) (Nat.le_of_ble_eq_true rfl) ?_
  intro p e s m below meth co C hin
  have C : zC p s m _ meth co D cy _ cX8_cutAt 5 (some .int) wsX8_cutAt RX8 := C
  have i8 : ∀ w ∈ wsX80, w ∈ wsX8_cutAt := by decide +kernel
  have hs := (CI_S hI).2
  have hsl := slotV_lt (lk := lk) ht hi
  have hq := hy (slotV (nn d 3 1) t lk i) (by omega)
  have hq2 := hq.2
  refine z_iload_n C dX8_cutAt_0 rfl (q := 2) rfl ?_
  refine z_iconst C dX8_cutAt_1 (v := 1) (by decide) ?_
  refine z_iand C dX8_cutAt_2 (v := nI (lk % 2)) (pk_andN (by omega) 1 (by decide)) ?_
  refine z_if_ne C dX8_cutAt_3 (tgt := 17) (by decide) (fun h3 => ?_) (fun h3 => ?_)
  · have q3 := iv_ne (y := 0) (nI_toInt (by omega)) (show (0 : Int32).toInt = 0 from by decide) h3
    refine z_iload_n C dX8_cutAt_17 rfl (q := 1) rfl ?_
    refine z_iload_n C dX8_cutAt_18 rfl (q := 3) rfl ?_
    refine z_isub C dX8_cutAt_19 (v := (nI t) - (nI i)) rfl ?_
    refine z_aload_n C dX8_cutAt_20 rfl (q := 0) rfl ?_
    refine zg_X8_slots C (k := 300) (hL _ (by unfold live; omega)) (by rfl) i8 (by decide +kernel) (v := nI (nn d 3 1)) (LK_S hK hI) dX8_cutAt_21 ?_
    refine z_iadd C dX8_cutAt_24 (v := nI (t + nn d 3 1 - i)) (nI_sub_add (by omega)) ?_
    refine z_aload_n C dX8_cutAt_25 rfl (q := 0) rfl ?_
    refine zg_X8_slots C (k := 300) (hL _ (by unfold live; omega)) (by rfl) i8 (by decide +kernel) (v := nI (nn d 3 1)) (LK_S hK hI) dX8_cutAt_26 ?_
    refine z_irem C dX8_cutAt_29 (nI_ne0 (by omega) (by omega)) (v := nI (slotV (nn d 3 1) t lk i)) (by rw [pk_rem (by omega) (by omega) (by omega), slot_1 ht hi]; unfold slotV; rw [if_pos (show lk % 2 = 1 by omega)]) ?_
    refine z_istore C dX8_cutAt_30 (by decide) (lv' := [(4, Value.int (nI (slotV (nn d 3 1) t lk i))), (0, Value.ref (a 300)), (1, Value.int (nI t)), (2, Value.int (nI lk)), (3, Value.int (nI i))]) rfl ?_
    refine z_iload_n C dX8_cutAt_32 rfl (q := 3) rfl ?_
    refine z_iconst C dX8_cutAt_33 (v := nI 2) (by decide) ?_
    refine z_icmp_ge C dX8_cutAt_34 (tgt := 47) (by decide) (fun h34 => ?_) (fun h34 => ?_)
    · have q34 := iv_le (nI_toInt (by omega)) (nI_toInt (by omega)) h34
      refine z_aload_n C dX8_cutAt_47 rfl (q := 1) rfl ?_
      refine zg_X8_laid C (k := 300) (hL _ (by unfold live; omega)) (by rfl) i8 (by decide +kernel) (k' := 311) (RM_laid hM) dX8_cutAt_48 ?_
      refine z_iload C dX8_cutAt_51 (q := 0) rfl ?_
      refine z_iaload C (k := 311) (hL _ (by unfold live; omega)) (by rfl) (j := (slotV (nn d 3 1) t lk i)) rfl (show _ < 60 by omega) (by rw [show ln 311 = 60 from rfl]; decide) (v := nI (lay (slotV (nn d 3 1) t lk i))) hq.1 dX8_cutAt_53 ?_
      refine z_pI C (z_runS C (As := [Value.int (nI (lay (slotV (nn d 3 1) t lk i)))]) (rest := []) (c_X8_upsideDown l D cy a L c g r (lay (slotV (nn d 3 1) t lk i)) (by omega)) (va_cwS 1 C.2.2.2.2.2.1 gX8_cutAt_X8_upsideDown rfl rfl rfl (by decide +kernel) ⟨Nat.le_of_ble_eq_true rfl, Nat.le_of_ble_eq_true rfl⟩) rfl rfl (Nat.le_of_ble_eq_true rfl) dX8_cutAt_54 ⟨Nat.zero_le _, Nat.zero_le _⟩) (fun v54 e54 => ?_)
      subst e54
      exact z_iret C rfl (Nat.le_refl _) (Nat.le_refl _) dX8_cutAt_57 ⟨rfl, congrArg nI (by unfold seenV; first | rw [if_pos (by omega)] | rw [if_neg (by omega)])⟩
    · have q34 := iv_nle (nI_toInt (by omega)) (nI_toInt (by omega)) h34
      refine z_aload_n C dX8_cutAt_37 rfl (q := 1) rfl ?_
      refine zg_X8_laid C (k := 300) (hL _ (by unfold live; omega)) (by rfl) i8 (by decide +kernel) (k' := 311) (RM_laid hM) dX8_cutAt_38 ?_
      refine z_iload C dX8_cutAt_41 (q := 0) rfl ?_
      refine z_iaload C (k := 311) (hL _ (by unfold live; omega)) (by rfl) (j := (slotV (nn d 3 1) t lk i)) rfl (show _ < 60 by omega) (by rw [show ln 311 = 60 from rfl]; decide) (v := nI (lay (slotV (nn d 3 1) t lk i))) hq.1 dX8_cutAt_43 ?_
      refine z_goto C dX8_cutAt_44 (tgt := 57) (by decide) ?_
      exact z_iret C rfl (Nat.le_refl _) (Nat.le_refl _) dX8_cutAt_57 ⟨rfl, congrArg nI (by unfold seenV; first | rw [if_pos (by omega)] | rw [if_neg (by omega)])⟩
  · have q3 := iv_eq (y := 0) (nI_toInt (by omega)) (show (0 : Int32).toInt = 0 from by decide) h3
    refine z_iload_n C dX8_cutAt_6 rfl (q := 3) rfl ?_
    refine z_iload_n C dX8_cutAt_7 rfl (q := 1) rfl ?_
    refine z_iadd C dX8_cutAt_8 (v := nI (i + t)) (nI_add i t) ?_
    refine z_aload_n C dX8_cutAt_9 rfl (q := 0) rfl ?_
    refine zg_X8_slots C (k := 300) (hL _ (by unfold live; omega)) (by rfl) i8 (by decide +kernel) (v := nI (nn d 3 1)) (LK_S hK hI) dX8_cutAt_10 ?_
    refine z_irem C dX8_cutAt_13 (nI_ne0 (by omega) (by omega)) (v := nI (slotV (nn d 3 1) t lk i)) (by rw [pk_rem (by omega) (by omega) (by omega), slot_0 ht hi]; unfold slotV; rw [if_neg (show ¬ lk % 2 = 1 by omega)]) ?_
    refine z_goto C dX8_cutAt_14 (tgt := 30) (by decide) ?_
    refine z_istore C dX8_cutAt_30 (by decide) (lv' := [(4, Value.int (nI (slotV (nn d 3 1) t lk i))), (0, Value.ref (a 300)), (1, Value.int (nI t)), (2, Value.int (nI lk)), (3, Value.int (nI i))]) rfl ?_
    refine z_iload_n C dX8_cutAt_32 rfl (q := 3) rfl ?_
    refine z_iconst C dX8_cutAt_33 (v := nI 2) (by decide) ?_
    refine z_icmp_ge C dX8_cutAt_34 (tgt := 47) (by decide) (fun h34 => ?_) (fun h34 => ?_)
    · have q34 := iv_le (nI_toInt (by omega)) (nI_toInt (by omega)) h34
      refine z_aload_n C dX8_cutAt_47 rfl (q := 1) rfl ?_
      refine zg_X8_laid C (k := 300) (hL _ (by unfold live; omega)) (by rfl) i8 (by decide +kernel) (k' := 311) (RM_laid hM) dX8_cutAt_48 ?_
      refine z_iload C dX8_cutAt_51 (q := 0) rfl ?_
      refine z_iaload C (k := 311) (hL _ (by unfold live; omega)) (by rfl) (j := (slotV (nn d 3 1) t lk i)) rfl (show _ < 60 by omega) (by rw [show ln 311 = 60 from rfl]; decide) (v := nI (lay (slotV (nn d 3 1) t lk i))) hq.1 dX8_cutAt_53 ?_
      refine z_pI C (z_runS C (As := [Value.int (nI (lay (slotV (nn d 3 1) t lk i)))]) (rest := []) (c_X8_upsideDown l D cy a L c g r (lay (slotV (nn d 3 1) t lk i)) (by omega)) (va_cwS 1 C.2.2.2.2.2.1 gX8_cutAt_X8_upsideDown rfl rfl rfl (by decide +kernel) ⟨Nat.le_of_ble_eq_true rfl, Nat.le_of_ble_eq_true rfl⟩) rfl rfl (Nat.le_of_ble_eq_true rfl) dX8_cutAt_54 ⟨Nat.zero_le _, Nat.zero_le _⟩) (fun v54 e54 => ?_)
      subst e54
      exact z_iret C rfl (Nat.le_refl _) (Nat.le_refl _) dX8_cutAt_57 ⟨rfl, congrArg nI (by unfold seenV; first | rw [if_pos (by omega)] | rw [if_neg (by omega)])⟩
    · have q34 := iv_nle (nI_toInt (by omega)) (nI_toInt (by omega)) h34
      refine z_aload_n C dX8_cutAt_37 rfl (q := 1) rfl ?_
      refine zg_X8_laid C (k := 300) (hL _ (by unfold live; omega)) (by rfl) i8 (by decide +kernel) (k' := 311) (RM_laid hM) dX8_cutAt_38 ?_
      refine z_iload C dX8_cutAt_41 (q := 0) rfl ?_
      refine z_iaload C (k := 311) (hL _ (by unfold live; omega)) (by rfl) (j := (slotV (nn d 3 1) t lk i)) rfl (show _ < 60 by omega) (by rw [show ln 311 = 60 from rfl]; decide) (v := nI (lay (slotV (nn d 3 1) t lk i))) hq.1 dX8_cutAt_43 ?_
      refine z_goto C dX8_cutAt_44 (tgt := 57) (by decide) ?_
      exact z_iret C rfl (Nat.le_refl _) (Nat.le_refl _) dX8_cutAt_57 ⟨rfl, congrArg nI (by unfold seenV; first | rw [if_pos (by omega)] | rw [if_neg (by omega)])⟩
