set_option maxHeartbeats 4000000 in
set_option maxRecDepth 100000 in
theorem c_X8_set (l : Launch) (D : va_G) (cy : Nat → ClassId) (a : Nat → Nat) (L : List Nat) (c : Nat → Nat → Int32) (g : Nat → Nat → Int64) (r : Nat → Nat → Option Nat) (nl nk : Nat) (hL : zLv L nl nk) (hM : RM r) (d : Nat → Nat → Int32) (hI : CI d nl nk) (x : Nat → Nat → Nat) (hX : XL d nl x) (hK : LK d c nl nk x) (what n : Int32) : zCI l yX8_set wsX8_set { frames := 1, cells := 0, slots := 0, locals := 25 } D cy a L c g r [Value.ref (a 300), Value.int what, Value.int n] (fun v c' => (((0 ≤ what.toInt ∧ what.toInt ≤ 3) ∧ (leV (tn what)).toInt ≤ n.toInt ∧ n.toInt ≤ (moV (tn what)).toInt) ∧ v = d 5 (tn what) ∧ c' = up2 c 301 (tn what) n) ∨ (¬ ((0 ≤ what.toInt ∧ what.toInt ≤ 3) ∧ (leV (tn what)).toInt ≤ n.toInt ∧ n.toInt ≤ (moV (tn what)).toInt) ∧ v = -2 ∧ c' = c)) := by
  refine z_enter cX8_set 5 (some .int) (by decide) (Nat.le_of_ble_eq_true rfl) ?_
  intro p e s m below meth co C hin
  have C : zC p s m _ meth co D cy _ cX8_set 5 (some .int) wsX8_set RX8 := C
  have i8 : ∀ w ∈ wsX80, w ∈ wsX8_set := by decide +kernel
  refine z_iload_n C dX8_set_0 rfl (q := 1) rfl ?_
  refine z_if_ne C dX8_set_1 (tgt := 18) (by decide) (fun h1 => ?_) (fun h1 => ?_)
  · have q1 := iv_ne (y := 0) rfl (show (0 : Int32).toInt = 0 from by decide) h1
    refine z_iload_n C dX8_set_18 rfl (q := 1) rfl ?_
    refine z_iconst C dX8_set_19 (v := 1) (by decide) ?_
    refine z_icmp_ne C dX8_set_20 (tgt := 35) (by decide) (fun h20 => ?_) (fun h20 => ?_)
    · have q20 := iv_ne rfl (show (1 : Int32).toInt = 1 from by decide) h20
      refine z_iload_n C dX8_set_35 rfl (q := 1) rfl ?_
      refine z_iconst C dX8_set_36 (v := 2) (by decide) ?_
      refine z_icmp_ne C dX8_set_37 (tgt := 52) (by decide) (fun h37 => ?_) (fun h37 => ?_)
      · have q37 := iv_ne rfl (show (2 : Int32).toInt = 2 from by decide) h37
        refine z_iload_n C dX8_set_52 rfl (q := 1) rfl ?_
        refine z_iconst C dX8_set_53 (v := 3) (by decide) ?_
        refine z_icmp_ne C dX8_set_54 (tgt := 73) (by decide) (fun h54 => ?_) (fun h54 => ?_)
        · have q54 := iv_ne rfl (show (3 : Int32).toInt = 3 from by decide) h54
          refine z_iconst C dX8_set_73 (v := 0) (by decide) ?_
          refine z_istore_n C dX8_set_74 rfl (by decide) (lv' := [(3, Value.int 0), (0, Value.ref (a 300)), (1, Value.int what), (2, Value.int n)]) rfl ?_
          refine z_iload_n C dX8_set_75 rfl (q := 0) rfl ?_
          refine z_if_ne C dX8_set_76 (tgt := 82) (by decide) (fun h76 => absurd h76 (by decide)) (fun h76 => ?_)
          refine z_bipush C dX8_set_79 (v := -2) (by decide) ?_
          exact z_iret C rfl (Nat.le_refl _) (Nat.le_refl _) dX8_set_81 ⟨_, rfl, Or.inr ⟨by omega, rfl, rfl⟩⟩
        · have q54 := iv_eq rfl (show (3 : Int32).toInt = 3 from by decide) h54
          refine z_iload_n C dX8_set_57 rfl (q := 2) rfl ?_
          refine z_i2l C dX8_set_58 (v := n.toInt64) rfl ?_
          refine z_lconst C dX8_set_59 (v := 0) (by decide) ?_
          refine z_ldc2 C dX8_set_60 (v := 100) (by decide +kernel) ?_
          refine z_pI C (z_runS C (As := [Value.long (n.toInt64), Value.long 0, Value.long 100]) (rest := []) (c_X8_in l D cy a L c g r n.toInt64 0 100 (V := n.toInt) (LO := 0) (HI := 100) (tL rfl) (show (0 : Int64).toInt = 0 from by decide) (show (100 : Int64).toInt = 100 from by decide)) (va_cwS 3 C.2.2.2.2.2.1 gX8_set_X8_in rfl rfl rfl (by decide +kernel) ⟨Nat.le_of_ble_eq_true rfl, Nat.le_of_ble_eq_true rfl⟩) rfl rfl (Nat.le_of_ble_eq_true rfl) dX8_set_63 ⟨Nat.zero_le _, Nat.zero_le _⟩) (fun v63 e63 => ?_)
          rcases e63 with ⟨rfl, e63⟩ | ⟨rfl, e63⟩
          · refine z_if_eq C dX8_set_66 (tgt := 73) (by decide) (fun h66 => absurd h66 (by decide)) (fun h66 => ?_)
            refine z_iconst C dX8_set_69 (v := 1) (by decide) ?_
            refine z_goto C dX8_set_70 (tgt := 74) (by decide) ?_
            refine z_istore_n C dX8_set_74 rfl (by decide) (lv' := [(3, Value.int 1), (0, Value.ref (a 300)), (1, Value.int what), (2, Value.int n)]) rfl ?_
            refine z_iload_n C dX8_set_75 rfl (q := 0) rfl ?_
            refine z_if_ne C dX8_set_76 (tgt := 82) (by decide) (fun h76 => ?_) (fun h76 => absurd h76 (by decide))
            obtain ⟨wh, hwh, rfl⟩ := arg_nI (v := what) (b := 3) ⟨by omega, by omega⟩
            have twh := nI_toInt (n := wh) (by omega)
            have uwh := tn_nI (j := wh) (by omega)
            refine z_aload_n C dX8_set_82 rfl (q := 1) rfl ?_
            refine zg_X8_told C (k := 300) (hL _ (by unfold live; omega)) (by rfl) i8 (by decide +kernel) (k' := 301) (RM_told hM) dX8_set_83 ?_
            refine z_iload_n C dX8_set_86 rfl (q := 2) rfl ?_
            refine z_iaload C (k := 301) (hL _ (by unfold live; omega)) (by rfl) (j := wh) rfl (by rw [show ln 301 = 4 from rfl]; omega) (by rw [show ln 301 = 4 from rfl]; decide) (v := d 5 wh) (LK_told hK (by omega)) dX8_set_87 ?_
            refine z_istore C dX8_set_88 (by decide) (lv' := [(4, Value.int (d 5 wh)), (3, Value.int 1), (0, Value.ref (a 300)), (1, Value.int (nI wh)), (2, Value.int n)]) rfl ?_
            refine z_aload_n C dX8_set_90 rfl (q := 2) rfl ?_
            refine zg_X8_told C (k := 300) (hL _ (by unfold live; omega)) (by rfl) i8 (by decide +kernel) (k' := 301) (RM_told hM) dX8_set_91 ?_
            refine z_iload_n C dX8_set_94 rfl (q := 3) rfl ?_
            refine z_iload_n C dX8_set_95 rfl (q := 4) rfl ?_
            refine z_iastore C (k := 301) (hL _ (by unfold live; omega)) (by rfl) (j := wh) rfl (by rw [show ln 301 = 4 from rfl]; omega) (by rw [show ln 301 = 4 from rfl]; decide) dX8_set_96 ?_
            refine z_iload C dX8_set_97 (q := 0) rfl ?_
            exact z_iret C rfl (Nat.le_refl _) (Nat.le_refl _) dX8_set_99 ⟨_, rfl, Or.inl ⟨by rw [uwh]; have hk : wh = 3 := (by omega); subst hk; have a1 : (leV 3).toInt = 0 := (by decide); have a2 : (moV 3).toInt = 100 := (by decide); omega, by rw [uwh], by rw [uwh]⟩⟩
          · refine z_if_eq C dX8_set_66 (tgt := 73) (by decide) (fun h66 => ?_) (fun h66 => absurd h66 (by decide))
            refine z_iconst C dX8_set_73 (v := 0) (by decide) ?_
            refine z_istore_n C dX8_set_74 rfl (by decide) (lv' := [(3, Value.int 0), (0, Value.ref (a 300)), (1, Value.int what), (2, Value.int n)]) rfl ?_
            refine z_iload_n C dX8_set_75 rfl (q := 0) rfl ?_
            refine z_if_ne C dX8_set_76 (tgt := 82) (by decide) (fun h76 => absurd h76 (by decide)) (fun h76 => ?_)
            refine z_bipush C dX8_set_79 (v := -2) (by decide) ?_
            exact z_iret C rfl (Nat.le_refl _) (Nat.le_refl _) dX8_set_81 ⟨_, rfl, Or.inr ⟨by have hk : tn what = 3 := (by unfold tn; omega); rw [hk]; have a1 : (leV 3).toInt = 0 := (by decide); have a2 : (moV 3).toInt = 100 := (by decide); omega, rfl, rfl⟩⟩
      · have q37 := iv_eq rfl (show (2 : Int32).toInt = 2 from by decide) h37
        refine z_iload_n C dX8_set_40 rfl (q := 2) rfl ?_
        refine z_i2l C dX8_set_41 (v := n.toInt64) rfl ?_
        refine z_lconst C dX8_set_42 (v := 1) (by decide) ?_
        refine z_ldc2 C dX8_set_43 (v := 1000) (by decide +kernel) ?_
        refine z_pI C (z_runS C (As := [Value.long (n.toInt64), Value.long 1, Value.long 1000]) (rest := []) (c_X8_in l D cy a L c g r n.toInt64 1 1000 (V := n.toInt) (LO := 1) (HI := 1000) (tL rfl) (show (1 : Int64).toInt = 1 from by decide) (show (1000 : Int64).toInt = 1000 from by decide)) (va_cwS 3 C.2.2.2.2.2.1 gX8_set_X8_in rfl rfl rfl (by decide +kernel) ⟨Nat.le_of_ble_eq_true rfl, Nat.le_of_ble_eq_true rfl⟩) rfl rfl (Nat.le_of_ble_eq_true rfl) dX8_set_46 ⟨Nat.zero_le _, Nat.zero_le _⟩) (fun v46 e46 => ?_)
        rcases e46 with ⟨rfl, e46⟩ | ⟨rfl, e46⟩
        · refine z_goto C dX8_set_49 (tgt := 74) (by decide) ?_
          refine z_istore_n C dX8_set_74 rfl (by decide) (lv' := [(3, Value.int 1), (0, Value.ref (a 300)), (1, Value.int what), (2, Value.int n)]) rfl ?_
          refine z_iload_n C dX8_set_75 rfl (q := 0) rfl ?_
          refine z_if_ne C dX8_set_76 (tgt := 82) (by decide) (fun h76 => ?_) (fun h76 => absurd h76 (by decide))
          obtain ⟨wh, hwh, rfl⟩ := arg_nI (v := what) (b := 3) ⟨by omega, by omega⟩
          have twh := nI_toInt (n := wh) (by omega)
          have uwh := tn_nI (j := wh) (by omega)
          refine z_aload_n C dX8_set_82 rfl (q := 1) rfl ?_
          refine zg_X8_told C (k := 300) (hL _ (by unfold live; omega)) (by rfl) i8 (by decide +kernel) (k' := 301) (RM_told hM) dX8_set_83 ?_
          refine z_iload_n C dX8_set_86 rfl (q := 2) rfl ?_
          refine z_iaload C (k := 301) (hL _ (by unfold live; omega)) (by rfl) (j := wh) rfl (by rw [show ln 301 = 4 from rfl]; omega) (by rw [show ln 301 = 4 from rfl]; decide) (v := d 5 wh) (LK_told hK (by omega)) dX8_set_87 ?_
          refine z_istore C dX8_set_88 (by decide) (lv' := [(4, Value.int (d 5 wh)), (3, Value.int 1), (0, Value.ref (a 300)), (1, Value.int (nI wh)), (2, Value.int n)]) rfl ?_
          refine z_aload_n C dX8_set_90 rfl (q := 2) rfl ?_
          refine zg_X8_told C (k := 300) (hL _ (by unfold live; omega)) (by rfl) i8 (by decide +kernel) (k' := 301) (RM_told hM) dX8_set_91 ?_
          refine z_iload_n C dX8_set_94 rfl (q := 3) rfl ?_
          refine z_iload_n C dX8_set_95 rfl (q := 4) rfl ?_
          refine z_iastore C (k := 301) (hL _ (by unfold live; omega)) (by rfl) (j := wh) rfl (by rw [show ln 301 = 4 from rfl]; omega) (by rw [show ln 301 = 4 from rfl]; decide) dX8_set_96 ?_
          refine z_iload C dX8_set_97 (q := 0) rfl ?_
          exact z_iret C rfl (Nat.le_refl _) (Nat.le_refl _) dX8_set_99 ⟨_, rfl, Or.inl ⟨by rw [uwh]; have hk : wh = 2 := (by omega); subst hk; have a1 : (leV 2).toInt = 1 := (by decide); have a2 : (moV 2).toInt = 1000 := (by decide); omega, by rw [uwh], by rw [uwh]⟩⟩
        · refine z_goto C dX8_set_49 (tgt := 74) (by decide) ?_
          refine z_istore_n C dX8_set_74 rfl (by decide) (lv' := [(3, Value.int 0), (0, Value.ref (a 300)), (1, Value.int what), (2, Value.int n)]) rfl ?_
          refine z_iload_n C dX8_set_75 rfl (q := 0) rfl ?_
          refine z_if_ne C dX8_set_76 (tgt := 82) (by decide) (fun h76 => absurd h76 (by decide)) (fun h76 => ?_)
          refine z_bipush C dX8_set_79 (v := -2) (by decide) ?_
          exact z_iret C rfl (Nat.le_refl _) (Nat.le_refl _) dX8_set_81 ⟨_, rfl, Or.inr ⟨by have hk : tn what = 2 := (by unfold tn; omega); rw [hk]; have a1 : (leV 2).toInt = 1 := (by decide); have a2 : (moV 2).toInt = 1000 := (by decide); omega, rfl, rfl⟩⟩
    · have q20 := iv_eq rfl (show (1 : Int32).toInt = 1 from by decide) h20
      refine z_iload_n C dX8_set_23 rfl (q := 2) rfl ?_
      refine z_i2l C dX8_set_24 (v := n.toInt64) rfl ?_
      refine z_lconst C dX8_set_25 (v := 0) (by decide) ?_
      refine z_ldc2 C dX8_set_26 (v := 1000) (by decide +kernel) ?_
      refine z_pI C (z_runS C (As := [Value.long (n.toInt64), Value.long 0, Value.long 1000]) (rest := []) (c_X8_in l D cy a L c g r n.toInt64 0 1000 (V := n.toInt) (LO := 0) (HI := 1000) (tL rfl) (show (0 : Int64).toInt = 0 from by decide) (show (1000 : Int64).toInt = 1000 from by decide)) (va_cwS 3 C.2.2.2.2.2.1 gX8_set_X8_in rfl rfl rfl (by decide +kernel) ⟨Nat.le_of_ble_eq_true rfl, Nat.le_of_ble_eq_true rfl⟩) rfl rfl (Nat.le_of_ble_eq_true rfl) dX8_set_29 ⟨Nat.zero_le _, Nat.zero_le _⟩) (fun v29 e29 => ?_)
      rcases e29 with ⟨rfl, e29⟩ | ⟨rfl, e29⟩
      · refine z_goto C dX8_set_32 (tgt := 74) (by decide) ?_
        refine z_istore_n C dX8_set_74 rfl (by decide) (lv' := [(3, Value.int 1), (0, Value.ref (a 300)), (1, Value.int what), (2, Value.int n)]) rfl ?_
        refine z_iload_n C dX8_set_75 rfl (q := 0) rfl ?_
        refine z_if_ne C dX8_set_76 (tgt := 82) (by decide) (fun h76 => ?_) (fun h76 => absurd h76 (by decide))
        obtain ⟨wh, hwh, rfl⟩ := arg_nI (v := what) (b := 3) ⟨by omega, by omega⟩
        have twh := nI_toInt (n := wh) (by omega)
        have uwh := tn_nI (j := wh) (by omega)
        refine z_aload_n C dX8_set_82 rfl (q := 1) rfl ?_
        refine zg_X8_told C (k := 300) (hL _ (by unfold live; omega)) (by rfl) i8 (by decide +kernel) (k' := 301) (RM_told hM) dX8_set_83 ?_
        refine z_iload_n C dX8_set_86 rfl (q := 2) rfl ?_
        refine z_iaload C (k := 301) (hL _ (by unfold live; omega)) (by rfl) (j := wh) rfl (by rw [show ln 301 = 4 from rfl]; omega) (by rw [show ln 301 = 4 from rfl]; decide) (v := d 5 wh) (LK_told hK (by omega)) dX8_set_87 ?_
        refine z_istore C dX8_set_88 (by decide) (lv' := [(4, Value.int (d 5 wh)), (3, Value.int 1), (0, Value.ref (a 300)), (1, Value.int (nI wh)), (2, Value.int n)]) rfl ?_
        refine z_aload_n C dX8_set_90 rfl (q := 2) rfl ?_
        refine zg_X8_told C (k := 300) (hL _ (by unfold live; omega)) (by rfl) i8 (by decide +kernel) (k' := 301) (RM_told hM) dX8_set_91 ?_
        refine z_iload_n C dX8_set_94 rfl (q := 3) rfl ?_
        refine z_iload_n C dX8_set_95 rfl (q := 4) rfl ?_
        refine z_iastore C (k := 301) (hL _ (by unfold live; omega)) (by rfl) (j := wh) rfl (by rw [show ln 301 = 4 from rfl]; omega) (by rw [show ln 301 = 4 from rfl]; decide) dX8_set_96 ?_
        refine z_iload C dX8_set_97 (q := 0) rfl ?_
        exact z_iret C rfl (Nat.le_refl _) (Nat.le_refl _) dX8_set_99 ⟨_, rfl, Or.inl ⟨by rw [uwh]; have hk : wh = 1 := (by omega); subst hk; have a1 : (leV 1).toInt = 0 := (by decide); have a2 : (moV 1).toInt = 1000 := (by decide); omega, by rw [uwh], by rw [uwh]⟩⟩
      · refine z_goto C dX8_set_32 (tgt := 74) (by decide) ?_
        refine z_istore_n C dX8_set_74 rfl (by decide) (lv' := [(3, Value.int 0), (0, Value.ref (a 300)), (1, Value.int what), (2, Value.int n)]) rfl ?_
        refine z_iload_n C dX8_set_75 rfl (q := 0) rfl ?_
        refine z_if_ne C dX8_set_76 (tgt := 82) (by decide) (fun h76 => absurd h76 (by decide)) (fun h76 => ?_)
        refine z_bipush C dX8_set_79 (v := -2) (by decide) ?_
        exact z_iret C rfl (Nat.le_refl _) (Nat.le_refl _) dX8_set_81 ⟨_, rfl, Or.inr ⟨by have hk : tn what = 1 := (by unfold tn; omega); rw [hk]; have a1 : (leV 1).toInt = 0 := (by decide); have a2 : (moV 1).toInt = 1000 := (by decide); omega, rfl, rfl⟩⟩
  · have q1 := iv_eq (y := 0) rfl (show (0 : Int32).toInt = 0 from by decide) h1
    refine z_iload_n C dX8_set_4 rfl (q := 2) rfl ?_
    refine z_i2l C dX8_set_5 (v := n.toInt64) rfl ?_
    refine z_ldc2 C dX8_set_6 (v := 10) (by decide +kernel) ?_
    refine z_ldc2 C dX8_set_9 (v := 200) (by decide +kernel) ?_
    refine z_pI C (z_runS C (As := [Value.long (n.toInt64), Value.long 10, Value.long 200]) (rest := []) (c_X8_in l D cy a L c g r n.toInt64 10 200 (V := n.toInt) (LO := 10) (HI := 200) (tL rfl) (show (10 : Int64).toInt = 10 from by decide) (show (200 : Int64).toInt = 200 from by decide)) (va_cwS 3 C.2.2.2.2.2.1 gX8_set_X8_in rfl rfl rfl (by decide +kernel) ⟨Nat.le_of_ble_eq_true rfl, Nat.le_of_ble_eq_true rfl⟩) rfl rfl (Nat.le_of_ble_eq_true rfl) dX8_set_12 ⟨Nat.zero_le _, Nat.zero_le _⟩) (fun v12 e12 => ?_)
    rcases e12 with ⟨rfl, e12⟩ | ⟨rfl, e12⟩
    · refine z_goto C dX8_set_15 (tgt := 74) (by decide) ?_
      refine z_istore_n C dX8_set_74 rfl (by decide) (lv' := [(3, Value.int 1), (0, Value.ref (a 300)), (1, Value.int what), (2, Value.int n)]) rfl ?_
      refine z_iload_n C dX8_set_75 rfl (q := 0) rfl ?_
      refine z_if_ne C dX8_set_76 (tgt := 82) (by decide) (fun h76 => ?_) (fun h76 => absurd h76 (by decide))
      obtain ⟨wh, hwh, rfl⟩ := arg_nI (v := what) (b := 3) ⟨by omega, by omega⟩
      have twh := nI_toInt (n := wh) (by omega)
      have uwh := tn_nI (j := wh) (by omega)
      refine z_aload_n C dX8_set_82 rfl (q := 1) rfl ?_
      refine zg_X8_told C (k := 300) (hL _ (by unfold live; omega)) (by rfl) i8 (by decide +kernel) (k' := 301) (RM_told hM) dX8_set_83 ?_
      refine z_iload_n C dX8_set_86 rfl (q := 2) rfl ?_
      refine z_iaload C (k := 301) (hL _ (by unfold live; omega)) (by rfl) (j := wh) rfl (by rw [show ln 301 = 4 from rfl]; omega) (by rw [show ln 301 = 4 from rfl]; decide) (v := d 5 wh) (LK_told hK (by omega)) dX8_set_87 ?_
      refine z_istore C dX8_set_88 (by decide) (lv' := [(4, Value.int (d 5 wh)), (3, Value.int 1), (0, Value.ref (a 300)), (1, Value.int (nI wh)), (2, Value.int n)]) rfl ?_
      refine z_aload_n C dX8_set_90 rfl (q := 2) rfl ?_
      refine zg_X8_told C (k := 300) (hL _ (by unfold live; omega)) (by rfl) i8 (by decide +kernel) (k' := 301) (RM_told hM) dX8_set_91 ?_
      refine z_iload_n C dX8_set_94 rfl (q := 3) rfl ?_
      refine z_iload_n C dX8_set_95 rfl (q := 4) rfl ?_
      refine z_iastore C (k := 301) (hL _ (by unfold live; omega)) (by rfl) (j := wh) rfl (by rw [show ln 301 = 4 from rfl]; omega) (by rw [show ln 301 = 4 from rfl]; decide) dX8_set_96 ?_
      refine z_iload C dX8_set_97 (q := 0) rfl ?_
      exact z_iret C rfl (Nat.le_refl _) (Nat.le_refl _) dX8_set_99 ⟨_, rfl, Or.inl ⟨by rw [uwh]; have hk : wh = 0 := (by omega); subst hk; have a1 : (leV 0).toInt = 10 := (by decide); have a2 : (moV 0).toInt = 200 := (by decide); omega, by rw [uwh], by rw [uwh]⟩⟩
    · refine z_goto C dX8_set_15 (tgt := 74) (by decide) ?_
      refine z_istore_n C dX8_set_74 rfl (by decide) (lv' := [(3, Value.int 0), (0, Value.ref (a 300)), (1, Value.int what), (2, Value.int n)]) rfl ?_
      refine z_iload_n C dX8_set_75 rfl (q := 0) rfl ?_
      refine z_if_ne C dX8_set_76 (tgt := 82) (by decide) (fun h76 => absurd h76 (by decide)) (fun h76 => ?_)
      refine z_bipush C dX8_set_79 (v := -2) (by decide) ?_
      exact z_iret C rfl (Nat.le_refl _) (Nat.le_refl _) dX8_set_81 ⟨_, rfl, Or.inr ⟨by have hk : tn what = 0 := (by unfold tn; omega); rw [hk]; have a1 : (leV 0).toInt = 10 := (by decide); have a2 : (moV 0).toInt = 200 := (by decide); omega, rfl, rfl⟩⟩

set_option maxHeartbeats 4000000 in
set_option maxRecDepth 100000 in
theorem c_X8_made (l : Launch) (D : va_G) (cy : Nat → ClassId) (a : Nat → Nat) (L : List Nat) (c : Nat → Nat → Int32) (g : Nat → Nat → Int64) (r : Nat → Nat → Option Nat) (nl nk : Nat) (hL : zLv L nl nk) (hM : RM r) (d : Nat → Nat → Int32) (hI : CI d nl nk) (x : Nat → Nat → Nat) (hX : XL d nl x) (hK : LK d c nl nk x) (lump what : Int32) : zPI l yX8_made wsX8_made { frames := 1, cells := 0, slots := 0, locals := 25 } D cy a L c g r [Value.ref (a 300), Value.int lump, Value.int what] (fun v => v = madeC d nk lump what) := by
  refine z_enter cX8_made 3 (some .int) (by decide) (Nat.le_of_ble_eq_true rfl) ?_
  intro p e s m below meth co C hin
  have C : zC p s m _ meth co D cy _ cX8_made 3 (some .int) wsX8_made RX8 := C
  have i8 : ∀ w ∈ wsX80, w ∈ wsX8_made := by decide +kernel
  have h40 := CI_nk40 hI
  refine z_iload_n C dX8_made_0 rfl (q := 1) rfl ?_
  refine z_i2l C dX8_made_1 (v := lump.toInt64) rfl ?_
  refine z_lconst C dX8_made_2 (v := 0) (by decide) ?_
  refine z_aload_n C dX8_made_3 rfl (q := 0) rfl ?_
  refine zg_X8_lumps C (k := 300) (hL _ (by unfold live; omega)) (by rfl) i8 (by decide +kernel) (v := nI nk) (LK_nk hK) dX8_made_4 ?_
  refine z_iconst C dX8_made_7 (v := 1) (by decide) ?_
  refine z_isub C dX8_made_8 (v := (nI nk) - 1) rfl ?_
  refine z_i2l C dX8_made_9 (v := ((nI nk) - 1).toInt64) rfl ?_
  refine z_pI C (z_runS C (As := [Value.long (lump.toInt64), Value.long 0, Value.long (((nI nk) - 1).toInt64)]) (rest := []) (c_X8_in l D cy a L c g r lump.toInt64 0 (((nI nk) - 1).toInt64) (V := lump.toInt) (LO := 0) (HI := ((nk : Nat) : Int) - 1) (tL rfl) (show (0 : Int64).toInt = 0 from by decide) (tL (tI_pred (by omega)))) (va_cwS 3 C.2.2.2.2.2.1 gX8_made_X8_in rfl rfl rfl (by decide +kernel) ⟨Nat.le_of_ble_eq_true rfl, Nat.le_of_ble_eq_true rfl⟩) rfl rfl (Nat.le_of_ble_eq_true rfl) dX8_made_10 ⟨Nat.zero_le _, Nat.zero_le _⟩) (fun v10 e10 => ?_)
  rcases e10 with ⟨rfl, e10⟩ | ⟨rfl, e10⟩
  · obtain ⟨k, hk, rfl⟩ := arg_pr e10
    have tk := nI_toInt (n := k) (by omega)
    have uk := tn_nI (j := k) (by omega)
    refine z_if_eq C dX8_made_13 (tgt := 42) (by decide) (fun h13 => absurd h13 (by decide)) (fun h13 => ?_)
    refine z_iload_n C dX8_made_16 rfl (q := 2) rfl ?_
    refine z_i2l C dX8_made_17 (v := what.toInt64) rfl ?_
    refine z_lconst C dX8_made_18 (v := 0) (by decide) ?_
    refine z_ldc2 C dX8_made_19 (v := 5) (by decide +kernel) ?_
    refine z_pI C (z_runS C (As := [Value.long (what.toInt64), Value.long 0, Value.long 5]) (rest := []) (c_X8_in l D cy a L c g r what.toInt64 0 5 (V := what.toInt) (LO := 0) (HI := 5) (tL rfl) (show (0 : Int64).toInt = 0 from by decide) (show (5 : Int64).toInt = 5 from by decide)) (va_cwS 3 C.2.2.2.2.2.1 gX8_made_X8_in rfl rfl rfl (by decide +kernel) ⟨Nat.le_of_ble_eq_true rfl, Nat.le_of_ble_eq_true rfl⟩) rfl rfl (Nat.le_of_ble_eq_true rfl) dX8_made_22 ⟨Nat.zero_le _, Nat.zero_le _⟩) (fun v22 e22 => ?_)
    rcases e22 with ⟨rfl, e22⟩ | ⟨rfl, e22⟩
    · obtain ⟨wh, hwh, rfl⟩ := arg_nI (b := 5) e22
      have twh := nI_toInt (n := wh) (by omega)
      have uwh := tn_nI (j := wh) (by omega)
      refine z_if_eq C dX8_made_25 (tgt := 42) (by decide) (fun h25 => absurd h25 (by decide)) (fun h25 => ?_)
      refine z_aload_n C dX8_made_28 rfl (q := 0) rfl ?_
      refine zg_X8_made C (k := 300) (hL _ (by unfold live; omega)) (by rfl) i8 (by decide +kernel) (k' := 319) (RM_made hM) dX8_made_29 ?_
      refine z_bipush C dX8_made_32 (v := 6) (by decide) ?_
      refine z_iload_n C dX8_made_34 rfl (q := 1) rfl ?_
      refine z_imul C dX8_made_35 (v := nI (6 * k)) (pk_mul 6 k) ?_
      refine z_iload_n C dX8_made_36 rfl (q := 2) rfl ?_
      refine z_iadd C dX8_made_37 (v := nI ((6 * k) + wh)) (nI_add (6 * k) wh) ?_
      refine z_iaload C (k := 319) (hL _ (by unfold live; omega)) (by rfl) (j := ((6 * k) + wh)) rfl (by rw [show ln 319 = 240 from rfl]; omega) (by rw [show ln 319 = 240 from rfl]; decide) (v := d (200 + k) wh) (LK_lump hK hk (by omega)) dX8_made_38 ?_
      refine z_goto C dX8_made_39 (tgt := 44) (by decide) ?_
      exact z_iret C rfl (Nat.le_refl _) (Nat.le_refl _) dX8_made_44 ⟨rfl, by rw [madeC, if_pos (by omega), uk, uwh]⟩
    · refine z_if_eq C dX8_made_25 (tgt := 42) (by decide) (fun h25 => ?_) (fun h25 => absurd h25 (by decide))
      refine z_bipush C dX8_made_42 (v := -2) (by decide) ?_
      exact z_iret C rfl (Nat.le_refl _) (Nat.le_refl _) dX8_made_44 ⟨rfl, by rw [madeC, if_neg (by omega)]⟩
  · refine z_if_eq C dX8_made_13 (tgt := 42) (by decide) (fun h13 => ?_) (fun h13 => absurd h13 (by decide))
    refine z_bipush C dX8_made_42 (v := -2) (by decide) ?_
    exact z_iret C rfl (Nat.le_refl _) (Nat.le_refl _) dX8_made_44 ⟨rfl, by rw [madeC, if_neg (by omega)]⟩

set_option maxHeartbeats 4000000 in
set_option maxRecDepth 100000 in
theorem c_X8_trace (l : Launch) (D : va_G) (cy : Nat → ClassId) (a : Nat → Nat) (L : List Nat) (c : Nat → Nat → Int32) (g : Nat → Nat → Int64) (r : Nat → Nat → Option Nat) (nl nk : Nat) (hL : zLv L nl nk) (hM : RM r) (d : Nat → Nat → Int32) (hI : CI d nl nk) (x : Nat → Nat → Nat) (hX : XL d nl x) (hK : LK d c nl nk x) (stick : Int32) : zPI l yX8_trace wsX8_trace { frames := 1, cells := 0, slots := 0, locals := 25 } D cy a L c g r [Value.ref (a 300), Value.int stick] (fun v => (∃ k, k < nk ∧ v = nI k ∧ ((nn d (200 + k) 3 : Int) ≤ stick.toInt ∧ stick.toInt < (nn d (200 + k) 3 : Int) + nn d (200 + k) 4) ∧ ∀ j, j < k → ¬ ((nn d (200 + j) 3 : Int) ≤ stick.toInt ∧ stick.toInt < (nn d (200 + j) 3 : Int) + nn d (200 + j) 4)) ∨ (v = -2 ∧ ∀ j, j < nk → ¬ ((nn d (200 + j) 3 : Int) ≤ stick.toInt ∧ stick.toInt < (nn d (200 + j) 3 : Int) + nn d (200 + j) 4))) := by
  refine z_enter cX8_trace 3 (some .int) (by decide) (Nat.le_of_ble_eq_true rfl) ?_
  intro p e s m below meth co C hin
  have C : zC p s m _ meth co D cy _ cX8_trace 3 (some .int) wsX8_trace RX8 := C
  have i8 : ∀ w ∈ wsX80, w ∈ wsX8_trace := by decide +kernel
  have h40 := CI_nk40 hI
  refine z_iconst C dX8_trace_0 (v := nI 0) (by decide) ?_
  refine z_istore_n C dX8_trace_1 rfl (by decide) (lv' := [(2, Value.int (nI 0)), (0, Value.ref (a 300)), (1, Value.int stick)]) rfl ?_
  refine z_forP (fun i => ∀ j, j < i → ¬ ((nn d (200 + j) 3 : Int) ≤ stick.toInt ∧ stick.toInt < (nn d (200 + j) 3 : Int) + nn d (200 + j) 4)) 0 nk (Nat.zero_le _) (fun i => [(2, Value.int (nI i)), (0, Value.ref (a 300)), (1, Value.int stick)]) (fun i => c) (fun i => g) ?_ ?_ (fun j h => absurd h (Nat.not_lt_zero j))
  · intro hvi
    refine z_iload_n C dX8_trace_2 rfl (q := 0) rfl ?_
    refine z_aload_n C dX8_trace_3 rfl (q := 1) rfl ?_
    refine zg_X8_lumps C (k := 300) (hL _ (by unfold live; omega)) (by rfl) i8 (by decide +kernel) (v := nI nk) (LK_nk hK) dX8_trace_4 ?_
    refine z_icmp_ge C dX8_trace_7 (tgt := 64) (by decide) (fun h7 => ?_) (fun h7 => absurd (Int32.le_refl _) h7)
    refine z_bipush C dX8_trace_64 (v := -2) (by decide) ?_
    exact z_iret C rfl (Nat.le_refl _) (Nat.le_refl _) dX8_trace_66 ⟨rfl, Or.inr ⟨rfl, hvi⟩⟩
  · intro i hli hi hvi ihi
    have hp1 := (CI_lump hI hi).2.1.2
    have hp2 := (CI_lump hI hi).2.2.1.2
    have hp3 := (CI_lump hI hi).2.2.2.1.2
    have hp4 := (CI_lump hI hi).2.2.2.2.1.2
    refine z_iload_n C dX8_trace_2 rfl (q := 0) rfl ?_
    refine z_aload_n C dX8_trace_3 rfl (q := 1) rfl ?_
    refine zg_X8_lumps C (k := 300) (hL _ (by unfold live; omega)) (by rfl) i8 (by decide +kernel) (v := nI nk) (LK_nk hK) dX8_trace_4 ?_
    refine z_icmp_ge C dX8_trace_7 (tgt := 64) (by decide) (fun h7 => absurd h7 (nI_ge hi (by omega))) (fun h7 => ?_)
    refine z_iload_n C dX8_trace_10 rfl (q := 2) rfl ?_
    refine z_i2l C dX8_trace_11 (v := stick.toInt64) rfl ?_
    refine z_aload_n C dX8_trace_12 rfl (q := 1) rfl ?_
    refine zg_X8_made C (k := 300) (hL _ (by unfold live; omega)) (by rfl) i8 (by decide +kernel) (k' := 319) (RM_made hM) dX8_trace_13 ?_
    refine z_bipush C dX8_trace_16 (v := 6) (by decide) ?_
    refine z_iload_n C dX8_trace_18 rfl (q := 0) rfl ?_
    refine z_imul C dX8_trace_19 (v := nI (6 * i)) (pk_mul 6 i) ?_
    refine z_iconst C dX8_trace_20 (v := 3) (by decide) ?_
    refine z_iadd C dX8_trace_21 (v := nI ((6 * i) + 3)) (nI_add (6 * i) 3) ?_
    refine z_iaload C (k := 319) (hL _ (by unfold live; omega)) (by rfl) (j := ((6 * i) + 3)) rfl (by rw [show ln 319 = 240 from rfl]; omega) (by rw [show ln 319 = 240 from rfl]; decide) (v := nI (nn d (200 + i) 3)) ((LK_lump hK hi (by decide)).trans (CI_lump hI hi).2.2.2.1.1) dX8_trace_22 ?_
    refine z_i2l C dX8_trace_23 (v := (nI (nn d (200 + i) 3)).toInt64) rfl ?_
    refine z_aload_n C dX8_trace_24 rfl (q := 1) rfl ?_
    refine zg_X8_made C (k := 300) (hL _ (by unfold live; omega)) (by rfl) i8 (by decide +kernel) (k' := 319) (RM_made hM) dX8_trace_25 ?_
    refine z_bipush C dX8_trace_28 (v := 6) (by decide) ?_
    refine z_iload_n C dX8_trace_30 rfl (q := 0) rfl ?_
    refine z_imul C dX8_trace_31 (v := nI (6 * i)) (pk_mul 6 i) ?_
    refine z_iconst C dX8_trace_32 (v := 3) (by decide) ?_
    refine z_iadd C dX8_trace_33 (v := nI ((6 * i) + 3)) (nI_add (6 * i) 3) ?_
    refine z_iaload C (k := 319) (hL _ (by unfold live; omega)) (by rfl) (j := ((6 * i) + 3)) rfl (by rw [show ln 319 = 240 from rfl]; omega) (by rw [show ln 319 = 240 from rfl]; decide) (v := nI (nn d (200 + i) 3)) ((LK_lump hK hi (by decide)).trans (CI_lump hI hi).2.2.2.1.1) dX8_trace_34 ?_
    refine z_aload_n C dX8_trace_35 rfl (q := 1) rfl ?_
    refine zg_X8_made C (k := 300) (hL _ (by unfold live; omega)) (by rfl) i8 (by decide +kernel) (k' := 319) (RM_made hM) dX8_trace_36 ?_
    refine z_bipush C dX8_trace_39 (v := 6) (by decide) ?_
    refine z_iload_n C dX8_trace_41 rfl (q := 0) rfl ?_
    refine z_imul C dX8_trace_42 (v := nI (6 * i)) (pk_mul 6 i) ?_
    refine z_iconst C dX8_trace_43 (v := 4) (by decide) ?_
    refine z_iadd C dX8_trace_44 (v := nI ((6 * i) + 4)) (nI_add (6 * i) 4) ?_
    refine z_iaload C (k := 319) (hL _ (by unfold live; omega)) (by rfl) (j := ((6 * i) + 4)) rfl (by rw [show ln 319 = 240 from rfl]; omega) (by rw [show ln 319 = 240 from rfl]; decide) (v := nI (nn d (200 + i) 4)) ((LK_lump hK hi (by decide)).trans (CI_lump hI hi).2.2.2.2.1.1) dX8_trace_45 ?_
    refine z_iadd C dX8_trace_46 (v := nI ((nn d (200 + i) 3) + (nn d (200 + i) 4))) (nI_add (nn d (200 + i) 3) (nn d (200 + i) 4)) ?_
    refine z_iconst C dX8_trace_47 (v := 1) (by decide) ?_
    refine z_isub C dX8_trace_48 (v := (nI ((nn d (200 + i) 3) + (nn d (200 + i) 4))) - 1) rfl ?_
    refine z_i2l C dX8_trace_49 (v := ((nI ((nn d (200 + i) 3) + (nn d (200 + i) 4))) - 1).toInt64) rfl ?_
    refine z_pI C (z_runS C (As := [Value.long (stick.toInt64), Value.long ((nI (nn d (200 + i) 3)).toInt64), Value.long (((nI ((nn d (200 + i) 3) + (nn d (200 + i) 4))) - 1).toInt64)]) (rest := []) (c_X8_in l D cy a L c g r stick.toInt64 ((nI (nn d (200 + i) 3)).toInt64) (((nI ((nn d (200 + i) 3) + (nn d (200 + i) 4))) - 1).toInt64) (V := stick.toInt) (LO := ((nn d (200 + i) 3 : Nat) : Int)) (HI := (((nn d (200 + i) 3) + (nn d (200 + i) 4) : Nat) : Int) - 1) (tL rfl) (tL (nI_toInt (by omega))) (tL (tI_pred (by omega)))) (va_cwS 3 C.2.2.2.2.2.1 gX8_trace_X8_in rfl rfl rfl (by decide +kernel) ⟨Nat.le_of_ble_eq_true rfl, Nat.le_of_ble_eq_true rfl⟩) rfl rfl (Nat.le_of_ble_eq_true rfl) dX8_trace_50 ⟨Nat.zero_le _, Nat.zero_le _⟩) (fun v50 e50 => ?_)
    rcases e50 with ⟨rfl, e50⟩ | ⟨rfl, e50⟩
    · refine z_if_eq C dX8_trace_53 (tgt := 58) (by decide) (fun h53 => absurd h53 (by decide)) (fun h53 => ?_)
      refine z_iload_n C dX8_trace_56 rfl (q := 0) rfl ?_
      exact z_iret C rfl (Nat.le_refl _) (Nat.le_refl _) dX8_trace_57 ⟨rfl, Or.inl ⟨i, hi, rfl, by omega, hvi⟩⟩
    · refine z_if_eq C dX8_trace_53 (tgt := 58) (by decide) (fun h53 => ?_) (fun h53 => absurd h53 (by decide))
      refine z_iinc C dX8_trace_58 (q := 0) rfl (v := nI (i + 1)) (nI_1 _) (by decide) (lv' := [(2, Value.int (nI (i + 1))), (0, Value.ref (a 300)), (1, Value.int stick)]) rfl ?_
      refine z_goto C dX8_trace_61 (tgt := 2) (by decide) ?_
      exact ihi (lt_s hvi (by omega))

set_option maxHeartbeats 4000000 in
set_option maxRecDepth 100000 in
theorem c_X8_recall (l : Launch) (D : va_G) (cy : Nat → ClassId) (a : Nat → Nat) (L : List Nat) (c : Nat → Nat → Int32) (g : Nat → Nat → Int64) (r : Nat → Nat → Option Nat) (nl nk : Nat) (hL : zLv L nl nk) (hM : RM r) (d : Nat → Nat → Int32) (hI : CI d nl nk) (x : Nat → Nat → Nat) (hX : XL d nl x) (hK : LK d c nl nk x) (hand fr to : Int32) : zPI l yX8_recall wsX8_recall { frames := 1, cells := 0, slots := 0, locals := 25 } D cy a L c g r [Value.ref (a 300), Value.int hand, Value.int fr, Value.int to] (fun v => v = if (-1 ≤ hand.toInt ∧ hand.toInt ≤ 9) ∧ 0 ≤ fr.toInt ∧ fr.toInt ≤ to.toInt ∧ to.toInt ≤ 999 then nI (sumF (recC d hand fr to) nk) else -2) := by
  refine z_enter cX8_recall 7 (some .int) (by decide) (Nat.le_of_ble_eq_true rfl) ?_
  intro p e s m below meth co C hin
  have C : zC p s m _ meth co D cy _ cX8_recall 7 (some .int) wsX8_recall RX8 := C
  have i8 : ∀ w ∈ wsX80, w ∈ wsX8_recall := by decide +kernel
  have h40 := CI_nk40 hI
  refine z_iload_n C dX8_recall_0 rfl (q := 1) rfl ?_
  refine z_i2l C dX8_recall_1 (v := hand.toInt64) rfl ?_
  refine z_ldc2 C dX8_recall_2 (v := -1) (by decide +kernel) ?_
  refine z_ldc2 C dX8_recall_5 (v := 9) (by decide +kernel) ?_
  refine z_pI C (z_runS C (As := [Value.long (hand.toInt64), Value.long (-1), Value.long 9]) (rest := []) (c_X8_in l D cy a L c g r hand.toInt64 (-1) 9 (V := hand.toInt) (LO := -1) (HI := 9) (tL rfl) (show (-1 : Int64).toInt = -1 from by decide) (show (9 : Int64).toInt = 9 from by decide)) (va_cwS 3 C.2.2.2.2.2.1 gX8_recall_X8_in rfl rfl rfl (by decide +kernel) ⟨Nat.le_of_ble_eq_true rfl, Nat.le_of_ble_eq_true rfl⟩) rfl rfl (Nat.le_of_ble_eq_true rfl) dX8_recall_8 ⟨Nat.zero_le _, Nat.zero_le _⟩) (fun v8 e8 => ?_)
  rcases e8 with ⟨rfl, e8⟩ | ⟨rfl, e8⟩
  · refine z_if_eq C dX8_recall_11 (tgt := 37) (by decide) (fun h11 => absurd h11 (by decide)) (fun h11 => ?_)
    refine z_iload_n C dX8_recall_14 rfl (q := 3) rfl ?_
    refine z_i2l C dX8_recall_15 (v := to.toInt64) rfl ?_
    refine z_lconst C dX8_recall_16 (v := 0) (by decide) ?_
    refine z_ldc2 C dX8_recall_17 (v := 999) (by decide +kernel) ?_
    refine z_pI C (z_runS C (As := [Value.long (to.toInt64), Value.long 0, Value.long 999]) (rest := []) (c_X8_in l D cy a L c g r to.toInt64 0 999 (V := to.toInt) (LO := 0) (HI := 999) (tL rfl) (show (0 : Int64).toInt = 0 from by decide) (show (999 : Int64).toInt = 999 from by decide)) (va_cwS 3 C.2.2.2.2.2.1 gX8_recall_X8_in rfl rfl rfl (by decide +kernel) ⟨Nat.le_of_ble_eq_true rfl, Nat.le_of_ble_eq_true rfl⟩) rfl rfl (Nat.le_of_ble_eq_true rfl) dX8_recall_20 ⟨Nat.zero_le _, Nat.zero_le _⟩) (fun v20 e20 => ?_)
    rcases e20 with ⟨rfl, e20⟩ | ⟨rfl, e20⟩
    · refine z_if_eq C dX8_recall_23 (tgt := 37) (by decide) (fun h23 => absurd h23 (by decide)) (fun h23 => ?_)
      refine z_iload_n C dX8_recall_26 rfl (q := 2) rfl ?_
      refine z_i2l C dX8_recall_27 (v := fr.toInt64) rfl ?_
      refine z_lconst C dX8_recall_28 (v := 0) (by decide) ?_
      refine z_iload_n C dX8_recall_29 rfl (q := 3) rfl ?_
      refine z_i2l C dX8_recall_30 (v := to.toInt64) rfl ?_
      refine z_pI C (z_runS C (As := [Value.long (fr.toInt64), Value.long 0, Value.long (to.toInt64)]) (rest := []) (c_X8_in l D cy a L c g r fr.toInt64 0 to.toInt64 (V := fr.toInt) (LO := 0) (HI := to.toInt) (tL rfl) (show (0 : Int64).toInt = 0 from by decide) (tL rfl)) (va_cwS 3 C.2.2.2.2.2.1 gX8_recall_X8_in rfl rfl rfl (by decide +kernel) ⟨Nat.le_of_ble_eq_true rfl, Nat.le_of_ble_eq_true rfl⟩) rfl rfl (Nat.le_of_ble_eq_true rfl) dX8_recall_31 ⟨Nat.zero_le _, Nat.zero_le _⟩) (fun v31 e31 => ?_)
      rcases e31 with ⟨rfl, e31⟩ | ⟨rfl, e31⟩
      · refine z_if_ne C dX8_recall_34 (tgt := 40) (by decide) (fun h34 => ?_) (fun h34 => absurd h34 (by decide))
        refine z_iconst C dX8_recall_40 (v := nI 0) (by decide) ?_
        refine z_istore C dX8_recall_41 (by decide) (lv' := [(4, Value.int (nI 0)), (0, Value.ref (a 300)), (1, Value.int hand), (2, Value.int fr), (3, Value.int to)]) rfl ?_
        refine z_iconst C dX8_recall_43 (v := nI 0) (by decide) ?_
        refine z_istore C dX8_recall_44 (by decide) (lv' := [(5, Value.int (nI 0)), (4, Value.int (nI 0)), (0, Value.ref (a 300)), (1, Value.int hand), (2, Value.int fr), (3, Value.int to)]) rfl ?_
        refine z_for 0 nk (Nat.zero_le _) (fun i => [(5, Value.int (nI i)), (4, Value.int (nI (sumF (recC d hand fr to) i))), (0, Value.ref (a 300)), (1, Value.int hand), (2, Value.int fr), (3, Value.int to)]) (fun i => c) (fun i => g) ?_ ?_
        · refine z_iload C dX8_recall_46 (q := 0) rfl ?_
          refine z_aload_n C dX8_recall_48 rfl (q := 2) rfl ?_
          refine zg_X8_lumps C (k := 300) (hL _ (by unfold live; omega)) (by rfl) i8 (by decide +kernel) (v := nI nk) (LK_nk hK) dX8_recall_49 ?_
          refine z_icmp_ge C dX8_recall_52 (tgt := 138) (by decide) (fun h52 => ?_) (fun h52 => absurd (Int32.le_refl _) h52)
          refine z_iload C dX8_recall_138 (q := 1) rfl ?_
          exact z_iret C rfl (Nat.le_refl _) (Nat.le_refl _) dX8_recall_140 ⟨rfl, by rw [if_pos (by omega)]⟩
        · intro i hli hi ihi
          have hp1 := (CI_lump hI hi).2.1.2
          have hp2 := (CI_lump hI hi).2.2.1.2
          have hp3 := (CI_lump hI hi).2.2.2.1.2
          have hp4 := (CI_lump hI hi).2.2.2.2.1.2
          refine z_iload C dX8_recall_46 (q := 0) rfl ?_
          refine z_aload_n C dX8_recall_48 rfl (q := 2) rfl ?_
          refine zg_X8_lumps C (k := 300) (hL _ (by unfold live; omega)) (by rfl) i8 (by decide +kernel) (v := nI nk) (LK_nk hK) dX8_recall_49 ?_
          refine z_icmp_ge C dX8_recall_52 (tgt := 138) (by decide) (fun h52 => absurd h52 (nI_ge hi (by omega))) (fun h52 => ?_)
          refine z_iload_n C dX8_recall_55 rfl (q := 3) rfl ?_
          refine z_iconst C dX8_recall_56 (v := -1) (by decide) ?_
          refine z_icmp_eq C dX8_recall_57 (tgt := 76) (by decide) (fun h57 => ?_) (fun h57 => ?_)
          · have q57 := iv_eq rfl (show (-1 : Int32).toInt = -1 from by decide) h57
            refine z_aload_n C dX8_recall_76 rfl (q := 2) rfl ?_
            refine zg_X8_made C (k := 300) (hL _ (by unfold live; omega)) (by rfl) i8 (by decide +kernel) (k' := 319) (RM_made hM) dX8_recall_77 ?_
            refine z_bipush C dX8_recall_80 (v := 6) (by decide) ?_
            refine z_iload C dX8_recall_82 (q := 0) rfl ?_
            refine z_imul C dX8_recall_84 (v := nI (6 * i)) (pk_mul 6 i) ?_
            refine z_iconst C dX8_recall_85 (v := 2) (by decide) ?_
            refine z_iadd C dX8_recall_86 (v := nI ((6 * i) + 2)) (nI_add (6 * i) 2) ?_
            refine z_iaload C (k := 319) (hL _ (by unfold live; omega)) (by rfl) (j := ((6 * i) + 2)) rfl (by rw [show ln 319 = 240 from rfl]; omega) (by rw [show ln 319 = 240 from rfl]; decide) (v := nI (nn d (200 + i) 2)) ((LK_lump hK hi (by decide)).trans (CI_lump hI hi).2.2.1.1) dX8_recall_87 ?_
            refine z_i2l C dX8_recall_88 (v := (nI (nn d (200 + i) 2)).toInt64) rfl ?_
            refine z_iload_n C dX8_recall_89 rfl (q := 4) rfl ?_
            refine z_i2l C dX8_recall_90 (v := fr.toInt64) rfl ?_
            refine z_iload_n C dX8_recall_91 rfl (q := 5) rfl ?_
            refine z_i2l C dX8_recall_92 (v := to.toInt64) rfl ?_
            refine z_pI C (z_runS C (As := [Value.long ((nI (nn d (200 + i) 2)).toInt64), Value.long (fr.toInt64), Value.long (to.toInt64)]) (rest := []) (c_X8_in l D cy a L c g r ((nI (nn d (200 + i) 2)).toInt64) fr.toInt64 to.toInt64 (V := ((nn d (200 + i) 2 : Nat) : Int)) (LO := fr.toInt) (HI := to.toInt) (tL (nI_toInt (by omega))) (tL rfl) (tL rfl)) (va_cwS 3 C.2.2.2.2.2.1 gX8_recall_X8_in rfl rfl rfl (by decide +kernel) ⟨Nat.le_of_ble_eq_true rfl, Nat.le_of_ble_eq_true rfl⟩) rfl rfl (Nat.le_of_ble_eq_true rfl) dX8_recall_93 ⟨Nat.zero_le _, Nat.zero_le _⟩) (fun v93 e93 => ?_)
            rcases e93 with ⟨rfl, e93⟩ | ⟨rfl, e93⟩
            · refine z_if_eq C dX8_recall_96 (tgt := 103) (by decide) (fun h96 => absurd h96 (by decide)) (fun h96 => ?_)
              refine z_iconst C dX8_recall_99 (v := 1) (by decide) ?_
              refine z_goto C dX8_recall_100 (tgt := 104) (by decide) ?_
              refine z_istore C dX8_recall_104 (by decide) (lv' := [(6, Value.int 1), (5, Value.int (nI i)), (4, Value.int (nI (sumF (recC d hand fr to) i))), (0, Value.ref (a 300)), (1, Value.int hand), (2, Value.int fr), (3, Value.int to)]) rfl ?_
              refine z_iload C dX8_recall_106 (q := 2) rfl ?_
              refine z_iload C dX8_recall_108 (q := 0) rfl ?_
              refine z_if_eq C dX8_recall_110 (tgt := 128) (by decide) (fun h110 => absurd h110 (by decide)) (fun h110 => ?_)
              refine z_aload_n C dX8_recall_113 rfl (q := 3) rfl ?_
              refine zg_X8_made C (k := 300) (hL _ (by unfold live; omega)) (by rfl) i8 (by decide +kernel) (k' := 319) (RM_made hM) dX8_recall_114 ?_
              refine z_bipush C dX8_recall_117 (v := 6) (by decide) ?_
              refine z_iload C dX8_recall_119 (q := 1) rfl ?_
              refine z_imul C dX8_recall_121 (v := nI (6 * i)) (pk_mul 6 i) ?_
              refine z_iconst C dX8_recall_122 (v := 4) (by decide) ?_
              refine z_iadd C dX8_recall_123 (v := nI ((6 * i) + 4)) (nI_add (6 * i) 4) ?_
              refine z_iaload C (k := 319) (hL _ (by unfold live; omega)) (by rfl) (j := ((6 * i) + 4)) rfl (by rw [show ln 319 = 240 from rfl]; omega) (by rw [show ln 319 = 240 from rfl]; decide) (v := nI (nn d (200 + i) 4)) ((LK_lump hK hi (by decide)).trans (CI_lump hI hi).2.2.2.2.1.1) dX8_recall_124 ?_
              refine z_goto C dX8_recall_125 (tgt := 129) (by decide) ?_
              refine z_iadd C dX8_recall_129 (v := nI ((sumF (recC d hand fr to) i) + (nn d (200 + i) 4))) (nI_add (sumF (recC d hand fr to) i) (nn d (200 + i) 4)) ?_
              refine z_istore C dX8_recall_130 (by decide) (lv' := [(4, Value.int (nI ((sumF (recC d hand fr to) i) + (nn d (200 + i) 4)))), (6, Value.int 1), (5, Value.int (nI i)), (0, Value.ref (a 300)), (1, Value.int hand), (2, Value.int fr), (3, Value.int to)]) rfl ?_
              refine z_iinc C dX8_recall_132 (q := 2) rfl (v := nI (i + 1)) (nI_1 _) (by decide) (lv' := [(5, Value.int (nI (i + 1))), (4, Value.int (nI ((sumF (recC d hand fr to) i) + (nn d (200 + i) 4)))), (6, Value.int 1), (0, Value.ref (a 300)), (1, Value.int hand), (2, Value.int fr), (3, Value.int to)]) rfl ?_
              refine z_goto C dX8_recall_135 (tgt := 46) (by decide) ?_
              refine z_sub [0, 1, 3, 4, 5, 6] (lv' := [(5, Value.int (nI (i + 1))), (4, Value.int (nI ((sumF (recC d hand fr to) i) + (nn d (200 + i) 4)))), (0, Value.ref (a 300)), (1, Value.int hand), (2, Value.int fr), (3, Value.int to)]) rfl ?_
              rw [show sumF (recC d hand fr to) (i + 1) = sumF (recC d hand fr to) i + nn d (200 + i) 4 from by rw [sumF, recC, if_pos (by omega)]] at ihi
              exact ihi
            · refine z_if_eq C dX8_recall_96 (tgt := 103) (by decide) (fun h96 => ?_) (fun h96 => absurd h96 (by decide))
              refine z_iconst C dX8_recall_103 (v := 0) (by decide) ?_
              refine z_istore C dX8_recall_104 (by decide) (lv' := [(6, Value.int 0), (5, Value.int (nI i)), (4, Value.int (nI (sumF (recC d hand fr to) i))), (0, Value.ref (a 300)), (1, Value.int hand), (2, Value.int fr), (3, Value.int to)]) rfl ?_
              refine z_iload C dX8_recall_106 (q := 2) rfl ?_
              refine z_iload C dX8_recall_108 (q := 0) rfl ?_
              refine z_if_eq C dX8_recall_110 (tgt := 128) (by decide) (fun h110 => ?_) (fun h110 => absurd h110 (by decide))
              refine z_iconst C dX8_recall_128 (v := 0) (by decide) ?_
              refine z_iadd C dX8_recall_129 (v := nI ((sumF (recC d hand fr to) i) + 0)) (nI_add (sumF (recC d hand fr to) i) 0) ?_
              refine z_istore C dX8_recall_130 (by decide) (lv' := [(4, Value.int (nI ((sumF (recC d hand fr to) i) + 0))), (6, Value.int 0), (5, Value.int (nI i)), (0, Value.ref (a 300)), (1, Value.int hand), (2, Value.int fr), (3, Value.int to)]) rfl ?_
              refine z_iinc C dX8_recall_132 (q := 2) rfl (v := nI (i + 1)) (nI_1 _) (by decide) (lv' := [(5, Value.int (nI (i + 1))), (4, Value.int (nI ((sumF (recC d hand fr to) i) + 0))), (6, Value.int 0), (0, Value.ref (a 300)), (1, Value.int hand), (2, Value.int fr), (3, Value.int to)]) rfl ?_
              refine z_goto C dX8_recall_135 (tgt := 46) (by decide) ?_
              refine z_sub [0, 1, 3, 4, 5, 6] (lv' := [(5, Value.int (nI (i + 1))), (4, Value.int (nI ((sumF (recC d hand fr to) i) + 0))), (0, Value.ref (a 300)), (1, Value.int hand), (2, Value.int fr), (3, Value.int to)]) rfl ?_
              rw [show sumF (recC d hand fr to) (i + 1) = sumF (recC d hand fr to) i + 0 from by rw [sumF, recC, if_neg (by omega)]] at ihi
              exact ihi
          · have q57 := iv_ne rfl (show (-1 : Int32).toInt = -1 from by decide) h57
            refine z_aload_n C dX8_recall_60 rfl (q := 2) rfl ?_
            refine zg_X8_made C (k := 300) (hL _ (by unfold live; omega)) (by rfl) i8 (by decide +kernel) (k' := 319) (RM_made hM) dX8_recall_61 ?_
            refine z_bipush C dX8_recall_64 (v := 6) (by decide) ?_
            refine z_iload C dX8_recall_66 (q := 0) rfl ?_
            refine z_imul C dX8_recall_68 (v := nI (6 * i)) (pk_mul 6 i) ?_
            refine z_iconst C dX8_recall_69 (v := 1) (by decide) ?_
            refine z_iadd C dX8_recall_70 (v := nI ((6 * i) + 1)) (nI_add (6 * i) 1) ?_
            refine z_iaload C (k := 319) (hL _ (by unfold live; omega)) (by rfl) (j := ((6 * i) + 1)) rfl (by rw [show ln 319 = 240 from rfl]; omega) (by rw [show ln 319 = 240 from rfl]; decide) (v := nI (nn d (200 + i) 1)) ((LK_lump hK hi (by decide)).trans (CI_lump hI hi).2.1.1) dX8_recall_71 ?_
            refine z_iload_n C dX8_recall_72 rfl (q := 3) rfl ?_
            refine z_icmp_ne C dX8_recall_73 (tgt := 103) (by decide) (fun h73 => ?_) (fun h73 => ?_)
            · have q73 := iv_ne (nI_toInt (by omega)) rfl h73
              refine z_iconst C dX8_recall_103 (v := 0) (by decide) ?_
              refine z_istore C dX8_recall_104 (by decide) (lv' := [(6, Value.int 0), (5, Value.int (nI i)), (4, Value.int (nI (sumF (recC d hand fr to) i))), (0, Value.ref (a 300)), (1, Value.int hand), (2, Value.int fr), (3, Value.int to)]) rfl ?_
              refine z_iload C dX8_recall_106 (q := 2) rfl ?_
              refine z_iload C dX8_recall_108 (q := 0) rfl ?_
              refine z_if_eq C dX8_recall_110 (tgt := 128) (by decide) (fun h110 => ?_) (fun h110 => absurd h110 (by decide))
              refine z_iconst C dX8_recall_128 (v := 0) (by decide) ?_
              refine z_iadd C dX8_recall_129 (v := nI ((sumF (recC d hand fr to) i) + 0)) (nI_add (sumF (recC d hand fr to) i) 0) ?_
              refine z_istore C dX8_recall_130 (by decide) (lv' := [(4, Value.int (nI ((sumF (recC d hand fr to) i) + 0))), (6, Value.int 0), (5, Value.int (nI i)), (0, Value.ref (a 300)), (1, Value.int hand), (2, Value.int fr), (3, Value.int to)]) rfl ?_
              refine z_iinc C dX8_recall_132 (q := 2) rfl (v := nI (i + 1)) (nI_1 _) (by decide) (lv' := [(5, Value.int (nI (i + 1))), (4, Value.int (nI ((sumF (recC d hand fr to) i) + 0))), (6, Value.int 0), (0, Value.ref (a 300)), (1, Value.int hand), (2, Value.int fr), (3, Value.int to)]) rfl ?_
              refine z_goto C dX8_recall_135 (tgt := 46) (by decide) ?_
              refine z_sub [0, 1, 3, 4, 5, 6] (lv' := [(5, Value.int (nI (i + 1))), (4, Value.int (nI ((sumF (recC d hand fr to) i) + 0))), (0, Value.ref (a 300)), (1, Value.int hand), (2, Value.int fr), (3, Value.int to)]) rfl ?_
              rw [show sumF (recC d hand fr to) (i + 1) = sumF (recC d hand fr to) i + 0 from by rw [sumF, recC, if_neg (by omega)]] at ihi
              exact ihi
            · have q73 := iv_eq (nI_toInt (by omega)) rfl h73
              refine z_aload_n C dX8_recall_76 rfl (q := 2) rfl ?_
              refine zg_X8_made C (k := 300) (hL _ (by unfold live; omega)) (by rfl) i8 (by decide +kernel) (k' := 319) (RM_made hM) dX8_recall_77 ?_
              refine z_bipush C dX8_recall_80 (v := 6) (by decide) ?_
              refine z_iload C dX8_recall_82 (q := 0) rfl ?_
              refine z_imul C dX8_recall_84 (v := nI (6 * i)) (pk_mul 6 i) ?_
              refine z_iconst C dX8_recall_85 (v := 2) (by decide) ?_
              refine z_iadd C dX8_recall_86 (v := nI ((6 * i) + 2)) (nI_add (6 * i) 2) ?_
              refine z_iaload C (k := 319) (hL _ (by unfold live; omega)) (by rfl) (j := ((6 * i) + 2)) rfl (by rw [show ln 319 = 240 from rfl]; omega) (by rw [show ln 319 = 240 from rfl]; decide) (v := nI (nn d (200 + i) 2)) ((LK_lump hK hi (by decide)).trans (CI_lump hI hi).2.2.1.1) dX8_recall_87 ?_
              refine z_i2l C dX8_recall_88 (v := (nI (nn d (200 + i) 2)).toInt64) rfl ?_
              refine z_iload_n C dX8_recall_89 rfl (q := 4) rfl ?_
              refine z_i2l C dX8_recall_90 (v := fr.toInt64) rfl ?_
              refine z_iload_n C dX8_recall_91 rfl (q := 5) rfl ?_
              refine z_i2l C dX8_recall_92 (v := to.toInt64) rfl ?_
              refine z_pI C (z_runS C (As := [Value.long ((nI (nn d (200 + i) 2)).toInt64), Value.long (fr.toInt64), Value.long (to.toInt64)]) (rest := []) (c_X8_in l D cy a L c g r ((nI (nn d (200 + i) 2)).toInt64) fr.toInt64 to.toInt64 (V := ((nn d (200 + i) 2 : Nat) : Int)) (LO := fr.toInt) (HI := to.toInt) (tL (nI_toInt (by omega))) (tL rfl) (tL rfl)) (va_cwS 3 C.2.2.2.2.2.1 gX8_recall_X8_in rfl rfl rfl (by decide +kernel) ⟨Nat.le_of_ble_eq_true rfl, Nat.le_of_ble_eq_true rfl⟩) rfl rfl (Nat.le_of_ble_eq_true rfl) dX8_recall_93 ⟨Nat.zero_le _, Nat.zero_le _⟩) (fun v93 e93 => ?_)
              rcases e93 with ⟨rfl, e93⟩ | ⟨rfl, e93⟩
              · refine z_if_eq C dX8_recall_96 (tgt := 103) (by decide) (fun h96 => absurd h96 (by decide)) (fun h96 => ?_)
                refine z_iconst C dX8_recall_99 (v := 1) (by decide) ?_
                refine z_goto C dX8_recall_100 (tgt := 104) (by decide) ?_
                refine z_istore C dX8_recall_104 (by decide) (lv' := [(6, Value.int 1), (5, Value.int (nI i)), (4, Value.int (nI (sumF (recC d hand fr to) i))), (0, Value.ref (a 300)), (1, Value.int hand), (2, Value.int fr), (3, Value.int to)]) rfl ?_
                refine z_iload C dX8_recall_106 (q := 2) rfl ?_
                refine z_iload C dX8_recall_108 (q := 0) rfl ?_
                refine z_if_eq C dX8_recall_110 (tgt := 128) (by decide) (fun h110 => absurd h110 (by decide)) (fun h110 => ?_)
                refine z_aload_n C dX8_recall_113 rfl (q := 3) rfl ?_
                refine zg_X8_made C (k := 300) (hL _ (by unfold live; omega)) (by rfl) i8 (by decide +kernel) (k' := 319) (RM_made hM) dX8_recall_114 ?_
                refine z_bipush C dX8_recall_117 (v := 6) (by decide) ?_
                refine z_iload C dX8_recall_119 (q := 1) rfl ?_
                refine z_imul C dX8_recall_121 (v := nI (6 * i)) (pk_mul 6 i) ?_
                refine z_iconst C dX8_recall_122 (v := 4) (by decide) ?_
                refine z_iadd C dX8_recall_123 (v := nI ((6 * i) + 4)) (nI_add (6 * i) 4) ?_
                refine z_iaload C (k := 319) (hL _ (by unfold live; omega)) (by rfl) (j := ((6 * i) + 4)) rfl (by rw [show ln 319 = 240 from rfl]; omega) (by rw [show ln 319 = 240 from rfl]; decide) (v := nI (nn d (200 + i) 4)) ((LK_lump hK hi (by decide)).trans (CI_lump hI hi).2.2.2.2.1.1) dX8_recall_124 ?_
                refine z_goto C dX8_recall_125 (tgt := 129) (by decide) ?_
                refine z_iadd C dX8_recall_129 (v := nI ((sumF (recC d hand fr to) i) + (nn d (200 + i) 4))) (nI_add (sumF (recC d hand fr to) i) (nn d (200 + i) 4)) ?_
                refine z_istore C dX8_recall_130 (by decide) (lv' := [(4, Value.int (nI ((sumF (recC d hand fr to) i) + (nn d (200 + i) 4)))), (6, Value.int 1), (5, Value.int (nI i)), (0, Value.ref (a 300)), (1, Value.int hand), (2, Value.int fr), (3, Value.int to)]) rfl ?_
                refine z_iinc C dX8_recall_132 (q := 2) rfl (v := nI (i + 1)) (nI_1 _) (by decide) (lv' := [(5, Value.int (nI (i + 1))), (4, Value.int (nI ((sumF (recC d hand fr to) i) + (nn d (200 + i) 4)))), (6, Value.int 1), (0, Value.ref (a 300)), (1, Value.int hand), (2, Value.int fr), (3, Value.int to)]) rfl ?_
                refine z_goto C dX8_recall_135 (tgt := 46) (by decide) ?_
                refine z_sub [0, 1, 3, 4, 5, 6] (lv' := [(5, Value.int (nI (i + 1))), (4, Value.int (nI ((sumF (recC d hand fr to) i) + (nn d (200 + i) 4)))), (0, Value.ref (a 300)), (1, Value.int hand), (2, Value.int fr), (3, Value.int to)]) rfl ?_
                rw [show sumF (recC d hand fr to) (i + 1) = sumF (recC d hand fr to) i + nn d (200 + i) 4 from by rw [sumF, recC, if_pos (by omega)]] at ihi
                exact ihi
              · refine z_if_eq C dX8_recall_96 (tgt := 103) (by decide) (fun h96 => ?_) (fun h96 => absurd h96 (by decide))
                refine z_iconst C dX8_recall_103 (v := 0) (by decide) ?_
                refine z_istore C dX8_recall_104 (by decide) (lv' := [(6, Value.int 0), (5, Value.int (nI i)), (4, Value.int (nI (sumF (recC d hand fr to) i))), (0, Value.ref (a 300)), (1, Value.int hand), (2, Value.int fr), (3, Value.int to)]) rfl ?_
                refine z_iload C dX8_recall_106 (q := 2) rfl ?_
                refine z_iload C dX8_recall_108 (q := 0) rfl ?_
                refine z_if_eq C dX8_recall_110 (tgt := 128) (by decide) (fun h110 => ?_) (fun h110 => absurd h110 (by decide))
                refine z_iconst C dX8_recall_128 (v := 0) (by decide) ?_
                refine z_iadd C dX8_recall_129 (v := nI ((sumF (recC d hand fr to) i) + 0)) (nI_add (sumF (recC d hand fr to) i) 0) ?_
                refine z_istore C dX8_recall_130 (by decide) (lv' := [(4, Value.int (nI ((sumF (recC d hand fr to) i) + 0))), (6, Value.int 0), (5, Value.int (nI i)), (0, Value.ref (a 300)), (1, Value.int hand), (2, Value.int fr), (3, Value.int to)]) rfl ?_
                refine z_iinc C dX8_recall_132 (q := 2) rfl (v := nI (i + 1)) (nI_1 _) (by decide) (lv' := [(5, Value.int (nI (i + 1))), (4, Value.int (nI ((sumF (recC d hand fr to) i) + 0))), (6, Value.int 0), (0, Value.ref (a 300)), (1, Value.int hand), (2, Value.int fr), (3, Value.int to)]) rfl ?_
                refine z_goto C dX8_recall_135 (tgt := 46) (by decide) ?_
                refine z_sub [0, 1, 3, 4, 5, 6] (lv' := [(5, Value.int (nI (i + 1))), (4, Value.int (nI ((sumF (recC d hand fr to) i) + 0))), (0, Value.ref (a 300)), (1, Value.int hand), (2, Value.int fr), (3, Value.int to)]) rfl ?_
                rw [show sumF (recC d hand fr to) (i + 1) = sumF (recC d hand fr to) i + 0 from by rw [sumF, recC, if_neg (by omega)]] at ihi
                exact ihi
      · refine z_if_ne C dX8_recall_34 (tgt := 40) (by decide) (fun h34 => absurd h34 (by decide)) (fun h34 => ?_)
        refine z_bipush C dX8_recall_37 (v := -2) (by decide) ?_
        exact z_iret C rfl (Nat.le_refl _) (Nat.le_refl _) dX8_recall_39 ⟨rfl, by rw [if_neg (by omega)]⟩
    · refine z_if_eq C dX8_recall_23 (tgt := 37) (by decide) (fun h23 => ?_) (fun h23 => absurd h23 (by decide))
      refine z_bipush C dX8_recall_37 (v := -2) (by decide) ?_
      exact z_iret C rfl (Nat.le_refl _) (Nat.le_refl _) dX8_recall_39 ⟨rfl, by rw [if_neg (by omega)]⟩
  · refine z_if_eq C dX8_recall_11 (tgt := 37) (by decide) (fun h11 => ?_) (fun h11 => absurd h11 (by decide))
    refine z_bipush C dX8_recall_37 (v := -2) (by decide) ?_
    exact z_iret C rfl (Nat.le_refl _) (Nat.le_refl _) dX8_recall_39 ⟨rfl, by rw [if_neg (by omega)]⟩

set_option maxHeartbeats 4000000 in
set_option maxRecDepth 100000 in
theorem c_X8_damp (l : Launch) (D : va_G) (cy : Nat → ClassId) (a : Nat → Nat) (L : List Nat) (c : Nat → Nat → Int32) (g : Nat → Nat → Int64) (r : Nat → Nat → Option Nat) (nl nk : Nat) (hL : zLv L nl nk) (hM : RM r) (d : Nat → Nat → Int32) (hI : CI d nl nk) (x : Nat → Nat → Nat) (hX : XL d nl x) (hK : LK d c nl nk x) (week is : Int32) (hb : is = 0 ∨ is = 1) : zCI l yX8_damp wsX8_damp { frames := 2, cells := 0, slots := 0, locals := 45 } D cy a L c g r [Value.ref (a 300), Value.int week, Value.int is] (fun v c' => ((0 ≤ week.toInt ∧ week.toInt ≤ 51) ∧ v = 1 ∧ c' = up2 c 322 (tn week) is) ∨ (¬ (0 ≤ week.toInt ∧ week.toInt ≤ 51) ∧ v = -2 ∧ c' = c)) := by
  refine z_enter cX8_damp 3 (some .int) (by decide) (Nat.le_of_ble_eq_true rfl) ?_
  intro p e s m below meth co C hin
  have C : zC p s m _ meth co D cy _ cX8_damp 3 (some .int) wsX8_damp RX8 := C
  have i8 : ∀ w ∈ wsX80, w ∈ wsX8_damp := by decide +kernel
  refine z_iload_n C dX8_damp_0 rfl (q := 1) rfl ?_
  refine z_pI C (z_runS C (As := [Value.int week]) (rest := []) (c_X8_isWeek l D cy a L c g r week) (va_cwS 1 C.2.2.2.2.2.1 gX8_damp_X8_isWeek rfl rfl rfl (by decide +kernel) ⟨Nat.le_of_ble_eq_true rfl, Nat.le_of_ble_eq_true rfl⟩) rfl rfl (Nat.le_of_ble_eq_true rfl) dX8_damp_1 ⟨Nat.zero_le _, Nat.zero_le _⟩) (fun v1 e1 => ?_)
  rcases e1 with ⟨rfl, e1⟩ | ⟨rfl, e1⟩
  · obtain ⟨wk, hwk, rfl⟩ := arg_nI (b := 51) e1
    have twk := nI_toInt (n := wk) (by omega)
    have uwk := tn_nI (j := wk) (by omega)
    refine z_if_ne C dX8_damp_4 (tgt := 10) (by decide) (fun h4 => ?_) (fun h4 => absurd h4 (by decide))
    refine z_aload_n C dX8_damp_10 rfl (q := 0) rfl ?_
    refine zg_X8_isDamp C (k := 300) (hL _ (by unfold live; omega)) (by rfl) i8 (by decide +kernel) (k' := 322) (RM_isDamp hM) dX8_damp_11 ?_
    refine z_iload_n C dX8_damp_14 rfl (q := 1) rfl ?_
    refine z_iload_n C dX8_damp_15 rfl (q := 2) rfl ?_
    refine z_bastore C (k := 322) (hL _ (by unfold live; omega)) (by rfl) (j := wk) rfl (by rw [show ln 322 = 52 from rfl]; omega) (by rw [show ln 322 = 52 from rfl]; decide) (by rcases hb with rfl | rfl <;> rfl) dX8_damp_16 ?_
    refine z_iconst C dX8_damp_17 (v := 1) (by decide) ?_
    exact z_iret C rfl (Nat.le_refl _) (Nat.le_refl _) dX8_damp_18 ⟨_, rfl, Or.inl ⟨by omega, rfl, by rw [uwk]⟩⟩
  · refine z_if_ne C dX8_damp_4 (tgt := 10) (by decide) (fun h4 => absurd h4 (by decide)) (fun h4 => ?_)
    refine z_bipush C dX8_damp_7 (v := -2) (by decide) ?_
    exact z_iret C rfl (Nat.le_refl _) (Nat.le_refl _) dX8_damp_9 ⟨_, rfl, Or.inr ⟨by omega, rfl, rfl⟩⟩

set_option maxHeartbeats 4000000 in
set_option maxRecDepth 100000 in
theorem c_X8_make (l : Launch) (D : va_G) (cy : Nat → ClassId) (a : Nat → Nat) (L : List Nat) (c : Nat → Nat → Int32) (g : Nat → Nat → Int64) (r : Nat → Nat → Option Nat) (nl nk : Nat) (hL : zLv L nl nk) (hM : RM r) (d : Nat → Nat → Int32) (hI : CI d nl nk) (x : Nat → Nat → Nat) (hX : XL d nl x) (hK : LK d c nl nk x) (week n : Int32) : zCI l yX8_make wsX8_make { frames := 2, cells := 0, slots := 0, locals := 45 } D cy a L c g r [Value.ref (a 300), Value.int week, Value.int n] (fun v c' => (((0 ≤ week.toInt ∧ week.toInt ≤ 51) ∧ 0 ≤ n.toInt ∧ n.toInt ≤ 10000) ∧ v = d 9 (tn week) ∧ c' = up2 c 323 (tn week) n) ∨ (¬ ((0 ≤ week.toInt ∧ week.toInt ≤ 51) ∧ 0 ≤ n.toInt ∧ n.toInt ≤ 10000) ∧ v = -2 ∧ c' = c)) := by
  refine z_enter cX8_make 4 (some .int) (by decide) (Nat.le_of_ble_eq_true rfl) ?_
  intro p e s m below meth co C hin
  have C : zC p s m _ meth co D cy _ cX8_make 4 (some .int) wsX8_make RX8 := C
  have i8 : ∀ w ∈ wsX80, w ∈ wsX8_make := by decide +kernel
  refine z_iload_n C dX8_make_0 rfl (q := 1) rfl ?_
  refine z_pI C (z_runS C (As := [Value.int week]) (rest := []) (c_X8_isWeek l D cy a L c g r week) (va_cwS 1 C.2.2.2.2.2.1 gX8_make_X8_isWeek rfl rfl rfl (by decide +kernel) ⟨Nat.le_of_ble_eq_true rfl, Nat.le_of_ble_eq_true rfl⟩) rfl rfl (Nat.le_of_ble_eq_true rfl) dX8_make_1 ⟨Nat.zero_le _, Nat.zero_le _⟩) (fun v1 e1 => ?_)
  rcases e1 with ⟨rfl, e1⟩ | ⟨rfl, e1⟩
  · obtain ⟨wk, hwk, rfl⟩ := arg_nI (b := 51) e1
    have twk := nI_toInt (n := wk) (by omega)
    have uwk := tn_nI (j := wk) (by omega)
    refine z_if_eq C dX8_make_4 (tgt := 19) (by decide) (fun h4 => absurd h4 (by decide)) (fun h4 => ?_)
    refine z_iload_n C dX8_make_7 rfl (q := 2) rfl ?_
    refine z_i2l C dX8_make_8 (v := n.toInt64) rfl ?_
    refine z_lconst C dX8_make_9 (v := 0) (by decide) ?_
    refine z_ldc2 C dX8_make_10 (v := 10000) (by decide +kernel) ?_
    refine z_pI C (z_runS C (As := [Value.long (n.toInt64), Value.long 0, Value.long 10000]) (rest := []) (c_X8_in l D cy a L c g r n.toInt64 0 10000 (V := n.toInt) (LO := 0) (HI := 10000) (tL rfl) (show (0 : Int64).toInt = 0 from by decide) (show (10000 : Int64).toInt = 10000 from by decide)) (va_cwS 3 C.2.2.2.2.2.1 gX8_make_X8_in rfl rfl rfl (by decide +kernel) ⟨Nat.le_of_ble_eq_true rfl, Nat.le_of_ble_eq_true rfl⟩) rfl rfl (Nat.le_of_ble_eq_true rfl) dX8_make_13 ⟨Nat.zero_le _, Nat.zero_le _⟩) (fun v13 e13 => ?_)
    rcases e13 with ⟨rfl, e13⟩ | ⟨rfl, e13⟩
    · refine z_if_ne C dX8_make_16 (tgt := 22) (by decide) (fun h16 => ?_) (fun h16 => absurd h16 (by decide))
      refine z_aload_n C dX8_make_22 rfl (q := 0) rfl ?_
      refine zg_X8_makes C (k := 300) (hL _ (by unfold live; omega)) (by rfl) i8 (by decide +kernel) (k' := 323) (RM_makes hM) dX8_make_23 ?_
      refine z_iload_n C dX8_make_26 rfl (q := 1) rfl ?_
      refine z_iaload C (k := 323) (hL _ (by unfold live; omega)) (by rfl) (j := wk) rfl (by rw [show ln 323 = 52 from rfl]; omega) (by rw [show ln 323 = 52 from rfl]; decide) (v := d 9 wk) (LK_wk hK hwk).2 dX8_make_27 ?_
      refine z_istore_n C dX8_make_28 rfl (by decide) (lv' := [(3, Value.int (d 9 wk)), (0, Value.ref (a 300)), (1, Value.int (nI wk)), (2, Value.int n)]) rfl ?_
      refine z_aload_n C dX8_make_29 rfl (q := 1) rfl ?_
      refine zg_X8_makes C (k := 300) (hL _ (by unfold live; omega)) (by rfl) i8 (by decide +kernel) (k' := 323) (RM_makes hM) dX8_make_30 ?_
      refine z_iload_n C dX8_make_33 rfl (q := 2) rfl ?_
      refine z_iload_n C dX8_make_34 rfl (q := 3) rfl ?_
      refine z_iastore C (k := 323) (hL _ (by unfold live; omega)) (by rfl) (j := wk) rfl (by rw [show ln 323 = 52 from rfl]; omega) (by rw [show ln 323 = 52 from rfl]; decide) dX8_make_35 ?_
      refine z_iload_n C dX8_make_36 rfl (q := 0) rfl ?_
      exact z_iret C rfl (Nat.le_refl _) (Nat.le_refl _) dX8_make_37 ⟨_, rfl, Or.inl ⟨by omega, by rw [uwk], by rw [uwk]⟩⟩
    · refine z_if_ne C dX8_make_16 (tgt := 22) (by decide) (fun h16 => absurd h16 (by decide)) (fun h16 => ?_)
      refine z_bipush C dX8_make_19 (v := -2) (by decide) ?_
      exact z_iret C rfl (Nat.le_refl _) (Nat.le_refl _) dX8_make_21 ⟨_, rfl, Or.inr ⟨by omega, rfl, rfl⟩⟩
  · refine z_if_eq C dX8_make_4 (tgt := 19) (by decide) (fun h4 => ?_) (fun h4 => absurd h4 (by decide))
    refine z_bipush C dX8_make_19 (v := -2) (by decide) ?_
    exact z_iret C rfl (Nat.le_refl _) (Nat.le_refl _) dX8_make_21 ⟨_, rfl, Or.inr ⟨by omega, rfl, rfl⟩⟩

set_option maxHeartbeats 4000000 in
set_option maxRecDepth 100000 in
theorem c_X8_lose (l : Launch) (D : va_G) (cy : Nat → ClassId) (a : Nat → Nat) (L : List Nat) (c : Nat → Nat → Int32) (g : Nat → Nat → Int64) (r : Nat → Nat → Option Nat) (nl nk : Nat) (hL : zLv L nl nk) (hM : RM r) (d : Nat → Nat → Int32) (hI : CI d nl nk) (x : Nat → Nat → Nat) (hX : XL d nl x) (hK : LK d c nl nk x) (sheet : Int32) : zCI l yX8_lose wsX8_lose { frames := 2, cells := 0, slots := 0, locals := 45 } D cy a L c g r [Value.ref (a 300), Value.int sheet] (fun v c' => (¬ (0 ≤ sheet.toInt ∧ sheet.toInt ≤ 3) ∧ v = -2 ∧ c' = c) ∨ ((0 ≤ sheet.toInt ∧ sheet.toInt ≤ 3) ∧ nn d (40 + tn sheet) 1 = 1 ∧ v = -11 ∧ c' = up2 c 300 27 1) ∨ ((0 ≤ sheet.toInt ∧ sheet.toInt ≤ 3) ∧ nn d (40 + tn sheet) 1 = 0 ∧ v = d (40 + tn sheet) 3 ∧ c' = up2 c 324 (tn sheet) (-1))) := by
  refine z_enter cX8_lose 2 (some .int) (by decide) (Nat.le_of_ble_eq_true rfl) ?_
  intro p e s m below meth co C hin
  have C : zC p s m _ meth co D cy _ cX8_lose 2 (some .int) wsX8_lose RX8 := C
  have i8 : ∀ w ∈ wsX80, w ∈ wsX8_lose := by decide +kernel
  refine z_iload_n C dX8_lose_0 rfl (q := 1) rfl ?_
  refine z_pI C (z_runS C (As := [Value.int sheet]) (rest := []) (c_X8_isSheet l D cy a L c g r sheet) (va_cwS 1 C.2.2.2.2.2.1 gX8_lose_X8_isSheet rfl rfl rfl (by decide +kernel) ⟨Nat.le_of_ble_eq_true rfl, Nat.le_of_ble_eq_true rfl⟩) rfl rfl (Nat.le_of_ble_eq_true rfl) dX8_lose_1 ⟨Nat.zero_le _, Nat.zero_le _⟩) (fun v1 e1 => ?_)
  rcases e1 with ⟨rfl, e1⟩ | ⟨rfl, e1⟩
  · obtain ⟨sh, hsh, rfl⟩ := arg_nI (b := 3) e1
    have tsh := nI_toInt (n := sh) (by omega)
    have ush := tn_nI (j := sh) (by omega)
    refine z_if_ne C dX8_lose_4 (tgt := 10) (by decide) (fun h4 => ?_) (fun h4 => absurd h4 (by decide))
    refine z_aload_n C dX8_lose_10 rfl (q := 0) rfl ?_
    refine zg_X8_forms C (k := 300) (hL _ (by unfold live; omega)) (by rfl) i8 (by decide +kernel) (k' := 324) (RM_forms hM) dX8_lose_11 ?_
    refine z_iload_n C dX8_lose_14 rfl (q := 1) rfl ?_
    have ho15 := (CI_sh hI (show sh < 4 by omega)).1.2
    have hf15 := (CI_sh hI (show sh < 4 by omega)).2.1.2
    have h0 : nn d (40 + sh) 1 = 1 ∨ nn d (40 + sh) 1 = 0 := by omega
    rcases h0 with h0 | h0
    · refine z_iaload C (k := 324) (hL _ (by unfold live; omega)) (by rfl) (j := sh) rfl (by rw [show ln 324 = 4 from rfl]; omega) (by decide) (v := -1) ((LK_fo hK (by omega)).trans (if_pos h0)) dX8_lose_15 ?_
      refine z_if_ge C dX8_lose_16 (tgt := 25) (by decide) (fun h16 => absurd h16 (by decide)) (fun h16 => ?_)
      refine z_aload_n C dX8_lose_19 rfl (q := 0) rfl ?_
      refine z_iconst C dX8_lose_20 (v := 1) (by decide) ?_
      refine z_cI C (z_runV C (As := [Value.int 1]) (rest := []) (c_X8_met l D cy a L c g r nl nk hL 1) (cwV 1 C.2.2.2.2.2.1 gX8_lose_X8_met rfl rfl rfl (by decide +kernel) ⟨Nat.le_of_ble_eq_true rfl, Nat.le_of_ble_eq_true rfl⟩) (hL _ (by unfold live; omega)) (zF_k8 (by rfl)) rfl rfl rfl rfl (Nat.le_of_ble_eq_true rfl) dX8_lose_21 ⟨Nat.zero_le _, Nat.zero_le _⟩) (fun v21 c21 e21 => ?_)
      obtain ⟨rfl, rfl⟩ := e21
      exact z_iret C rfl (Nat.le_refl _) (Nat.le_refl _) dX8_lose_24 ⟨_, rfl, Or.inr (Or.inl ⟨by omega, by rw [ush]; exact h0, by decide, rfl⟩)⟩
    · refine z_iaload C (k := 324) (hL _ (by unfold live; omega)) (by rfl) (j := sh) rfl (by rw [show ln 324 = 4 from rfl]; omega) (by decide) (v := nI (nn d (40 + sh) 2)) ((LK_fo hK (by omega)).trans ((if_neg (by omega)).trans (CI_sh hI (by omega)).2.1.1)) dX8_lose_15 ?_
      refine z_if_ge C dX8_lose_16 (tgt := 25) (by decide) (fun h16 => ?_) (fun h16 => absurd (nI_pos' (by omega)) h16)
      refine z_aload_n C dX8_lose_25 rfl (q := 0) rfl ?_
      refine zg_X8_forms C (k := 300) (hL _ (by unfold live; omega)) (by rfl) i8 (by decide +kernel) (k' := 324) (RM_forms hM) dX8_lose_26 ?_
      refine z_iload_n C dX8_lose_29 rfl (q := 1) rfl ?_
      refine z_iconst C dX8_lose_30 (v := -1) (by decide) ?_
      refine z_iastore C (k := 324) (hL _ (by unfold live; omega)) (by rfl) (j := sh) rfl (by rw [show ln 324 = 4 from rfl]; omega) (by rw [show ln 324 = 4 from rfl]; decide) dX8_lose_31 ?_
      refine z_aload_n C dX8_lose_32 rfl (q := 0) rfl ?_
      refine zg_X8_sizes C (k := 300) (hL _ (by unfold live; omega)) (by rfl) i8 (by decide +kernel) (k' := 325) (RM_sizes hM) dX8_lose_33 ?_
      refine z_iload_n C dX8_lose_36 rfl (q := 1) rfl ?_
      refine z_iaload C (k := 325) (hL _ (by unfold live; omega)) (by rfl) (j := sh) rfl (by rw [show ln 325 = 4 from rfl]; omega) (by rw [show ln 325 = 4 from rfl]; decide) (v := nI (nn d (40 + sh) 3)) (by rw [up2_k _ _ _ _ (by decide)]; exact LK_si hK hI hsh) dX8_lose_37 ?_
      exact z_iret C rfl (Nat.le_refl _) (Nat.le_refl _) dX8_lose_38 ⟨_, rfl, Or.inr (Or.inr ⟨by omega, by rw [ush]; exact h0, by rw [ush]; exact (CI_sh hI hsh).2.2.1.symm, by rw [ush]⟩)⟩
  · refine z_if_ne C dX8_lose_4 (tgt := 10) (by decide) (fun h4 => absurd h4 (by decide)) (fun h4 => ?_)
    refine z_bipush C dX8_lose_7 (v := -2) (by decide) ?_
    exact z_iret C rfl (Nat.le_refl _) (Nat.le_refl _) dX8_lose_9 ⟨_, rfl, Or.inl ⟨e1, rfl, rfl⟩⟩

set_option maxHeartbeats 4000000 in
set_option maxRecDepth 100000 in
theorem c_X8_lacksItem (l : Launch) (D : va_G) (cy : Nat → ClassId) (a : Nat → Nat) (L : List Nat) (c : Nat → Nat → Int32) (g : Nat → Nat → Int64) (r : Nat → Nat → Option Nat) (nl nk : Nat) (hL : zLv L nl nk) (hM : RM r) (d : Nat → Nat → Int32) (hI : CI d nl nk) (x : Nat → Nat → Nat) (hX : XL d nl x) (hK : LK d c nl nk x) (sh fo : Nat) (hsh : sh < 4) (hfo : fo < 3) (i : Int32) : zCI l yX8_lacksItem wsX8_lacksItem { frames := 1, cells := 0, slots := 0, locals := 25 } D cy a L c g r [Value.ref (a 300), Value.int (nI sh), Value.int (nI fo), Value.int i] (fun v c' => (nn d (40 + sh) 1 = 1 ∧ v = -11 ∧ c' = up2 c 300 27 1) ∨ (nn d (40 + sh) 1 = 0 ∧ nn d (40 + sh) 2 ≠ fo ∧ v = -13 ∧ c' = up2 c 300 27 3) ∨ (nn d (40 + sh) 1 = 0 ∧ nn d (40 + sh) 2 = fo ∧ ¬ (0 ≤ i.toInt ∧ i.toInt < (nn d (40 + sh) 3 : Int)) ∧ v = -12 ∧ c' = up2 c 300 27 2) ∨ (nn d (40 + sh) 1 = 0 ∧ nn d (40 + sh) 2 = fo ∧ (0 ≤ i.toInt ∧ i.toInt < (nn d (40 + sh) 3 : Int)) ∧ v = 0 ∧ c' = c)) := by
  refine z_enter cX8_lacksItem 4 (some .int) (by decide) (Nat.le_of_ble_eq_true rfl) ?_
  intro p e s m below meth co C hin
  have C : zC p s m _ meth co D cy _ cX8_lacksItem 4 (some .int) wsX8_lacksItem RX8 := C
  have i8 : ∀ w ∈ wsX80, w ∈ wsX8_lacksItem := by decide +kernel
  have hn := (CI_sh hI hsh).2.2.2
  refine z_aload_n C dX8_lacksItem_0 rfl (q := 0) rfl ?_
  refine zg_X8_forms C (k := 300) (hL _ (by unfold live; omega)) (by rfl) i8 (by decide +kernel) (k' := 324) (RM_forms hM) dX8_lacksItem_1 ?_
  refine z_iload_n C dX8_lacksItem_4 rfl (q := 1) rfl ?_
  have ho5 := (CI_sh hI (show sh < 4 by omega)).1.2
  have hf5 := (CI_sh hI (show sh < 4 by omega)).2.1.2
  have h0 : nn d (40 + sh) 1 = 1 ∨ nn d (40 + sh) 1 = 0 := by omega
  rcases h0 with h0 | h0
  · refine z_iaload C (k := 324) (hL _ (by unfold live; omega)) (by rfl) (j := sh) rfl (by rw [show ln 324 = 4 from rfl]; omega) (by decide) (v := -1) ((LK_fo hK (by omega)).trans (if_pos h0)) dX8_lacksItem_5 ?_
    refine z_if_ge C dX8_lacksItem_6 (tgt := 15) (by decide) (fun h6 => absurd h6 (by decide)) (fun h6 => ?_)
    refine z_aload_n C dX8_lacksItem_9 rfl (q := 0) rfl ?_
    refine z_iconst C dX8_lacksItem_10 (v := 1) (by decide) ?_
    refine z_cI C (z_runV C (As := [Value.int 1]) (rest := []) (c_X8_met l D cy a L c g r nl nk hL 1) (cwV 1 C.2.2.2.2.2.1 gX8_lacksItem_X8_met rfl rfl rfl (by decide +kernel) ⟨Nat.le_of_ble_eq_true rfl, Nat.le_of_ble_eq_true rfl⟩) (hL _ (by unfold live; omega)) (zF_k8 (by rfl)) rfl rfl rfl rfl (Nat.le_of_ble_eq_true rfl) dX8_lacksItem_11 ⟨Nat.zero_le _, Nat.zero_le _⟩) (fun v11 c11 e11 => ?_)
    obtain ⟨rfl, rfl⟩ := e11
    exact z_iret C rfl (Nat.le_refl _) (Nat.le_refl _) dX8_lacksItem_14 ⟨_, rfl, Or.inl ⟨h0, by decide, rfl⟩⟩
  · refine z_iaload C (k := 324) (hL _ (by unfold live; omega)) (by rfl) (j := sh) rfl (by rw [show ln 324 = 4 from rfl]; omega) (by decide) (v := nI (nn d (40 + sh) 2)) ((LK_fo hK (by omega)).trans ((if_neg (by omega)).trans (CI_sh hI (by omega)).2.1.1)) dX8_lacksItem_5 ?_
    refine z_if_ge C dX8_lacksItem_6 (tgt := 15) (by decide) (fun h6 => ?_) (fun h6 => absurd (nI_pos' (by omega)) h6)
    refine z_aload_n C dX8_lacksItem_15 rfl (q := 0) rfl ?_
    refine zg_X8_forms C (k := 300) (hL _ (by unfold live; omega)) (by rfl) i8 (by decide +kernel) (k' := 324) (RM_forms hM) dX8_lacksItem_16 ?_
    refine z_iload_n C dX8_lacksItem_19 rfl (q := 1) rfl ?_
    refine z_iaload C (k := 324) (hL _ (by unfold live; omega)) (by rfl) (j := sh) rfl (by rw [show ln 324 = 4 from rfl]; omega) (by rw [show ln 324 = 4 from rfl]; decide) (v := nI (nn d (40 + sh) 2)) ((LK_fo hK hsh).trans ((if_neg (by omega)).trans (CI_sh hI hsh).2.1.1)) dX8_lacksItem_20 ?_
    refine z_iload_n C dX8_lacksItem_21 rfl (q := 2) rfl ?_
    refine z_icmp_eq C dX8_lacksItem_22 (tgt := 31) (by decide) (fun h22 => ?_) (fun h22 => ?_)
    · have q22 := iv_eq (nI_toInt (by omega)) (nI_toInt (by omega)) h22
      refine z_iload_n C dX8_lacksItem_31 rfl (q := 3) rfl ?_
      refine z_i2l C dX8_lacksItem_32 (v := i.toInt64) rfl ?_
      refine z_lconst C dX8_lacksItem_33 (v := 0) (by decide) ?_
      refine z_aload_n C dX8_lacksItem_34 rfl (q := 0) rfl ?_
      refine zg_X8_sizes C (k := 300) (hL _ (by unfold live; omega)) (by rfl) i8 (by decide +kernel) (k' := 325) (RM_sizes hM) dX8_lacksItem_35 ?_
      refine z_iload_n C dX8_lacksItem_38 rfl (q := 1) rfl ?_
      refine z_iaload C (k := 325) (hL _ (by unfold live; omega)) (by rfl) (j := sh) rfl (by rw [show ln 325 = 4 from rfl]; omega) (by rw [show ln 325 = 4 from rfl]; decide) (v := nI (nn d (40 + sh) 3)) (LK_si hK hI hsh) dX8_lacksItem_39 ?_
      refine z_iconst C dX8_lacksItem_40 (v := 1) (by decide) ?_
      refine z_isub C dX8_lacksItem_41 (v := (nI (nn d (40 + sh) 3)) - 1) rfl ?_
      refine z_i2l C dX8_lacksItem_42 (v := ((nI (nn d (40 + sh) 3)) - 1).toInt64) rfl ?_
      refine z_pI C (z_runS C (As := [Value.long (i.toInt64), Value.long 0, Value.long (((nI (nn d (40 + sh) 3)) - 1).toInt64)]) (rest := []) (c_X8_in l D cy a L c g r i.toInt64 0 (((nI (nn d (40 + sh) 3)) - 1).toInt64) (V := i.toInt) (LO := 0) (HI := ((nn d (40 + sh) 3 : Nat) : Int) - 1) (tL rfl) (show (0 : Int64).toInt = 0 from by decide) (tL (tI_pred (by omega)))) (va_cwS 3 C.2.2.2.2.2.1 gX8_lacksItem_X8_in rfl rfl rfl (by decide +kernel) ⟨Nat.le_of_ble_eq_true rfl, Nat.le_of_ble_eq_true rfl⟩) rfl rfl (Nat.le_of_ble_eq_true rfl) dX8_lacksItem_43 ⟨Nat.zero_le _, Nat.zero_le _⟩) (fun v43 e43 => ?_)
      rcases e43 with ⟨rfl, e43⟩ | ⟨rfl, e43⟩
      · refine z_if_eq C dX8_lacksItem_46 (tgt := 53) (by decide) (fun h46 => absurd h46 (by decide)) (fun h46 => ?_)
        refine z_iconst C dX8_lacksItem_49 (v := 0) (by decide) ?_
        refine z_goto C dX8_lacksItem_50 (tgt := 58) (by decide) ?_
        exact z_iret C rfl (Nat.le_refl _) (Nat.le_refl _) dX8_lacksItem_58 ⟨_, rfl, Or.inr (Or.inr (Or.inr ⟨h0, by omega, by omega, rfl, rfl⟩))⟩
      · refine z_if_eq C dX8_lacksItem_46 (tgt := 53) (by decide) (fun h46 => ?_) (fun h46 => absurd h46 (by decide))
        refine z_aload_n C dX8_lacksItem_53 rfl (q := 0) rfl ?_
        refine z_iconst C dX8_lacksItem_54 (v := 2) (by decide) ?_
        refine z_cI C (z_runV C (As := [Value.int 2]) (rest := []) (c_X8_met l D cy a L c g r nl nk hL 2) (cwV 1 C.2.2.2.2.2.1 gX8_lacksItem_X8_met rfl rfl rfl (by decide +kernel) ⟨Nat.le_of_ble_eq_true rfl, Nat.le_of_ble_eq_true rfl⟩) (hL _ (by unfold live; omega)) (zF_k8 (by rfl)) rfl rfl rfl rfl (Nat.le_of_ble_eq_true rfl) dX8_lacksItem_55 ⟨Nat.zero_le _, Nat.zero_le _⟩) (fun v55 c55 e55 => ?_)
        obtain ⟨rfl, rfl⟩ := e55
        exact z_iret C rfl (Nat.le_refl _) (Nat.le_refl _) dX8_lacksItem_58 ⟨_, rfl, Or.inr (Or.inr (Or.inl ⟨h0, by omega, by omega, by decide, rfl⟩))⟩
    · have q22 := iv_ne (nI_toInt (by omega)) (nI_toInt (by omega)) h22
      refine z_aload_n C dX8_lacksItem_25 rfl (q := 0) rfl ?_
      refine z_iconst C dX8_lacksItem_26 (v := 3) (by decide) ?_
      refine z_cI C (z_runV C (As := [Value.int 3]) (rest := []) (c_X8_met l D cy a L c g r nl nk hL 3) (cwV 1 C.2.2.2.2.2.1 gX8_lacksItem_X8_met rfl rfl rfl (by decide +kernel) ⟨Nat.le_of_ble_eq_true rfl, Nat.le_of_ble_eq_true rfl⟩) (hL _ (by unfold live; omega)) (zF_k8 (by rfl)) rfl rfl rfl rfl (Nat.le_of_ble_eq_true rfl) dX8_lacksItem_27 ⟨Nat.zero_le _, Nat.zero_le _⟩) (fun v27 c27 e27 => ?_)
      obtain ⟨rfl, rfl⟩ := e27
      exact z_iret C rfl (Nat.le_refl _) (Nat.le_refl _) dX8_lacksItem_30 ⟨_, rfl, Or.inr (Or.inl ⟨h0, by omega, by decide, rfl⟩)⟩

set_option maxHeartbeats 4000000 in
set_option maxRecDepth 100000 in
theorem c_X8_put (l : Launch) (D : va_G) (cy : Nat → ClassId) (a : Nat → Nat) (L : List Nat) (c : Nat → Nat → Int32) (g : Nat → Nat → Int64) (r : Nat → Nat → Option Nat) (nl nk : Nat) (hL : zLv L nl nk) (hM : RM r) (d : Nat → Nat → Int32) (hI : CI d nl nk) (x : Nat → Nat → Nat) (hX : XL d nl x) (hK : LK d c nl nk x) (sheet form i val : Int32) : zCI l yX8_put wsX8_put { frames := 2, cells := 0, slots := 0, locals := 48 } D cy a L c g r [Value.ref (a 300), Value.int sheet, Value.int form, Value.int i, Value.int val] (fun v c' => ((¬ ((0 ≤ sheet.toInt ∧ sheet.toInt ≤ 3) ∧ (0 ≤ form.toInt ∧ form.toInt ≤ 2)) ∧ v = -2 ∧ c' = c) ∨ ((0 ≤ sheet.toInt ∧ sheet.toInt ≤ 3) ∧ (0 ≤ form.toInt ∧ form.toInt ≤ 2) ∧ nn d (40 + tn sheet) 1 = 1 ∧ v = -11 ∧ c' = up2 c 300 27 1) ∨ ((0 ≤ sheet.toInt ∧ sheet.toInt ≤ 3) ∧ (0 ≤ form.toInt ∧ form.toInt ≤ 2) ∧ nn d (40 + tn sheet) 1 = 0 ∧ nn d (40 + tn sheet) 2 ≠ tn form ∧ v = -13 ∧ c' = up2 c 300 27 3) ∨ ((0 ≤ sheet.toInt ∧ sheet.toInt ≤ 3) ∧ (0 ≤ form.toInt ∧ form.toInt ≤ 2) ∧ nn d (40 + tn sheet) 1 = 0 ∧ nn d (40 + tn sheet) 2 = tn form ∧ ¬ (0 ≤ i.toInt ∧ i.toInt < (nn d (40 + tn sheet) 3 : Int)) ∧ v = -12 ∧ c' = up2 c 300 27 2)) ∨ (((0 ≤ sheet.toInt ∧ sheet.toInt ≤ 3) ∧ (0 ≤ form.toInt ∧ form.toInt ≤ 2) ∧ nn d (40 + tn sheet) 1 = 0 ∧ nn d (40 + tn sheet) 2 = tn form ∧ (0 ≤ i.toInt ∧ i.toInt < (nn d (40 + tn sheet) 3 : Int))) ∧ v = 1 ∧ c' = up2 c 326 (60 * tn sheet + tn i) (wrV (nn d (40 + tn sheet) 2) val))) := by
  refine z_enter cX8_put 6 (some .int) (by decide) (Nat.le_of_ble_eq_true rfl) ?_
  intro p e s m below meth co C hin
  have C : zC p s m _ meth co D cy _ cX8_put 6 (some .int) wsX8_put RX8 := C
  have i8 : ∀ w ∈ wsX80, w ∈ wsX8_put := by decide +kernel
  refine z_iload_n C dX8_put_0 rfl (q := 1) rfl ?_
  refine z_pI C (z_runS C (As := [Value.int sheet]) (rest := []) (c_X8_isSheet l D cy a L c g r sheet) (va_cwS 1 C.2.2.2.2.2.1 gX8_put_X8_isSheet rfl rfl rfl (by decide +kernel) ⟨Nat.le_of_ble_eq_true rfl, Nat.le_of_ble_eq_true rfl⟩) rfl rfl (Nat.le_of_ble_eq_true rfl) dX8_put_1 ⟨Nat.zero_le _, Nat.zero_le _⟩) (fun v1 e1 => ?_)
  rcases e1 with ⟨rfl, e1⟩ | ⟨rfl, e1⟩
  · obtain ⟨sh, hsh, rfl⟩ := arg_nI (b := 3) e1
    have tsh := nI_toInt (n := sh) (by omega)
    have ush := tn_nI (j := sh) (by omega)
    refine z_if_eq C dX8_put_4 (tgt := 19) (by decide) (fun h4 => absurd h4 (by decide)) (fun h4 => ?_)
    refine z_iload_n C dX8_put_7 rfl (q := 2) rfl ?_
    refine z_i2l C dX8_put_8 (v := form.toInt64) rfl ?_
    refine z_lconst C dX8_put_9 (v := 0) (by decide) ?_
    refine z_ldc2 C dX8_put_10 (v := 2) (by decide +kernel) ?_
    refine z_pI C (z_runS C (As := [Value.long (form.toInt64), Value.long 0, Value.long 2]) (rest := []) (c_X8_in l D cy a L c g r form.toInt64 0 2 (V := form.toInt) (LO := 0) (HI := 2) (tL rfl) (show (0 : Int64).toInt = 0 from by decide) (show (2 : Int64).toInt = 2 from by decide)) (va_cwS 3 C.2.2.2.2.2.1 gX8_put_X8_in rfl rfl rfl (by decide +kernel) ⟨Nat.le_of_ble_eq_true rfl, Nat.le_of_ble_eq_true rfl⟩) rfl rfl (Nat.le_of_ble_eq_true rfl) dX8_put_13 ⟨Nat.zero_le _, Nat.zero_le _⟩) (fun v13 e13 => ?_)
    rcases e13 with ⟨rfl, e13⟩ | ⟨rfl, e13⟩
    · obtain ⟨fo, hfo, rfl⟩ := arg_nI (b := 2) e13
      have tfo := nI_toInt (n := fo) (by omega)
      have ufo := tn_nI (j := fo) (by omega)
      refine z_if_ne C dX8_put_16 (tgt := 22) (by decide) (fun h16 => ?_) (fun h16 => absurd h16 (by decide))
      refine z_aload_n C dX8_put_22 rfl (q := 0) rfl ?_
      refine z_iload_n C dX8_put_23 rfl (q := 1) rfl ?_
      refine z_iload_n C dX8_put_24 rfl (q := 2) rfl ?_
      refine z_iload_n C dX8_put_25 rfl (q := 3) rfl ?_
      refine z_cI C (z_runV C (As := [Value.int (nI sh), Value.int (nI fo), Value.int i]) (rest := []) (c_X8_lacksItem l D cy a L c g r nl nk hL hM d hI x hX hK sh fo (by omega) (by omega) i) (cwV 3 C.2.2.2.2.2.1 gX8_put_X8_lacksItem rfl rfl rfl (by decide +kernel) ⟨Nat.le_of_ble_eq_true rfl, Nat.le_of_ble_eq_true rfl⟩) (hL _ (by unfold live; omega)) (zF_k8 (by rfl)) rfl rfl rfl rfl (Nat.le_of_ble_eq_true rfl) dX8_put_26 ⟨Nat.zero_le _, Nat.zero_le _⟩) (fun v26 c26 e26 => ?_)
      rcases e26 with ⟨h1, rfl, rfl⟩ | ⟨h1, h2, rfl, rfl⟩ | ⟨h1, h2, h3, rfl, rfl⟩ | ⟨h1, h2, h3, rfl, hc⟩
      · refine z_istore C dX8_put_29 (by decide) (lv' := [(5, Value.int (-11)), (0, Value.ref (a 300)), (1, Value.int (nI sh)), (2, Value.int (nI fo)), (3, Value.int i), (4, Value.int val)]) rfl ?_
        refine z_iload C dX8_put_31 (q := 0) rfl ?_
        refine z_if_eq C dX8_put_33 (tgt := 39) (by decide) (fun h33 => absurd h33 (by decide)) (fun h33 => ?_)
        refine z_iload C dX8_put_36 (q := 0) rfl ?_
        exact z_iret C rfl (Nat.le_refl _) (Nat.le_refl _) dX8_put_38 ⟨_, rfl, Or.inl (Or.inr (Or.inl ⟨by omega, by omega, by rw [ush]; exact h1, rfl, rfl⟩))⟩
      · refine z_istore C dX8_put_29 (by decide) (lv' := [(5, Value.int (-13)), (0, Value.ref (a 300)), (1, Value.int (nI sh)), (2, Value.int (nI fo)), (3, Value.int i), (4, Value.int val)]) rfl ?_
        refine z_iload C dX8_put_31 (q := 0) rfl ?_
        refine z_if_eq C dX8_put_33 (tgt := 39) (by decide) (fun h33 => absurd h33 (by decide)) (fun h33 => ?_)
        refine z_iload C dX8_put_36 (q := 0) rfl ?_
        exact z_iret C rfl (Nat.le_refl _) (Nat.le_refl _) dX8_put_38 ⟨_, rfl, Or.inl (Or.inr (Or.inr (Or.inl ⟨by omega, by omega, by rw [ush]; exact h1, by rw [ush, ufo]; exact h2, rfl, rfl⟩)))⟩
      · refine z_istore C dX8_put_29 (by decide) (lv' := [(5, Value.int (-12)), (0, Value.ref (a 300)), (1, Value.int (nI sh)), (2, Value.int (nI fo)), (3, Value.int i), (4, Value.int val)]) rfl ?_
        refine z_iload C dX8_put_31 (q := 0) rfl ?_
        refine z_if_eq C dX8_put_33 (tgt := 39) (by decide) (fun h33 => absurd h33 (by decide)) (fun h33 => ?_)
        refine z_iload C dX8_put_36 (q := 0) rfl ?_
        exact z_iret C rfl (Nat.le_refl _) (Nat.le_refl _) dX8_put_38 ⟨_, rfl, Or.inl (Or.inr (Or.inr (Or.inr ⟨by omega, by omega, by rw [ush]; exact h1, by rw [ush, ufo]; exact h2, by rw [ush]; exact h3, rfl, rfl⟩)))⟩
      · have hc := hc.symm
        subst hc
        have hn := (CI_sh hI hsh).2.2.2
        obtain ⟨it, hit, rfl⟩ := arg_lt h3
        have uit := tn_nI (j := it) (by omega)
        refine z_istore C dX8_put_29 (by decide) (lv' := [(5, Value.int 0), (0, Value.ref (a 300)), (1, Value.int (nI sh)), (2, Value.int (nI fo)), (3, Value.int (nI it)), (4, Value.int val)]) rfl ?_
        refine z_iload C dX8_put_31 (q := 0) rfl ?_
        refine z_if_eq C dX8_put_33 (tgt := 39) (by decide) (fun h33 => ?_) (fun h33 => absurd h33 (by decide))
        refine z_aload_n C dX8_put_39 rfl (q := 1) rfl ?_
        refine zg_X8_items C (k := 300) (hL _ (by unfold live; omega)) (by rfl) i8 (by decide +kernel) (k' := 326) (RM_items hM) dX8_put_40 ?_
        refine z_bipush C dX8_put_43 (v := 60) (by decide) ?_
        refine z_iload_n C dX8_put_45 rfl (q := 2) rfl ?_
        refine z_imul C dX8_put_46 (v := nI (60 * sh)) (pk_mul 60 sh) ?_
        refine z_iload_n C dX8_put_47 rfl (q := 4) rfl ?_
        refine z_iadd C dX8_put_48 (v := nI ((60 * sh) + it)) (nI_add (60 * sh) it) ?_
        refine z_iload_n C dX8_put_49 rfl (q := 3) rfl ?_
        refine z_if_ne C dX8_put_50 (tgt := 59) (by decide) (fun h50 => ?_) (fun h50 => ?_)
        · have q50 := iv_ne (y := 0) (nI_toInt (by omega)) (show (0 : Int32).toInt = 0 from by decide) h50
          refine z_iload_n C dX8_put_59 rfl (q := 3) rfl ?_
          refine z_iconst C dX8_put_60 (v := 1) (by decide) ?_
          refine z_icmp_ne C dX8_put_61 (tgt := 70) (by decide) (fun h61 => ?_) (fun h61 => ?_)
          · have q61 := iv_ne (nI_toInt (by omega)) (show (1 : Int32).toInt = 1 from by decide) h61
            refine z_iload C dX8_put_70 (q := 5) rfl ?_
            refine z_iastore C (k := 326) (hL _ (by unfold live; omega)) (by rfl) (j := ((60 * sh) + it)) rfl (by rw [show ln 326 = 240 from rfl]; omega) (by rw [show ln 326 = 240 from rfl]; decide) dX8_put_72 ?_
            refine z_iconst C dX8_put_73 (v := 1) (by decide) ?_
            exact z_iret C rfl (Nat.le_refl _) (Nat.le_refl _) dX8_put_74 ⟨_, rfl, Or.inr ⟨⟨by omega, by omega, by rw [ush]; exact h1, by rw [ush, ufo]; exact h2, by rw [ush]; exact h3⟩, rfl, by rw [ush, uit, h2, wrV, if_neg (by omega), if_neg (by omega)]⟩⟩
          · have q61 := iv_eq (nI_toInt (by omega)) (show (1 : Int32).toInt = 1 from by decide) h61
            refine z_iload C dX8_put_64 (q := 5) rfl ?_
            refine z_i2s C dX8_put_66 (v := val.toInt16.toInt32) rfl ?_
            refine z_goto C dX8_put_67 (tgt := 72) (by decide) ?_
            refine z_iastore C (k := 326) (hL _ (by unfold live; omega)) (by rfl) (j := ((60 * sh) + it)) rfl (by rw [show ln 326 = 240 from rfl]; omega) (by rw [show ln 326 = 240 from rfl]; decide) dX8_put_72 ?_
            refine z_iconst C dX8_put_73 (v := 1) (by decide) ?_
            exact z_iret C rfl (Nat.le_refl _) (Nat.le_refl _) dX8_put_74 ⟨_, rfl, Or.inr ⟨⟨by omega, by omega, by rw [ush]; exact h1, by rw [ush, ufo]; exact h2, by rw [ush]; exact h3⟩, rfl, by rw [ush, uit, h2, wrV, if_neg (by omega), if_pos (by omega)]⟩⟩
        · have q50 := iv_eq (y := 0) (nI_toInt (by omega)) (show (0 : Int32).toInt = 0 from by decide) h50
          refine z_iload C dX8_put_53 (q := 5) rfl ?_
          refine z_i2b C dX8_put_55 (v := val.toInt8.toInt32) rfl ?_
          refine z_goto C dX8_put_56 (tgt := 72) (by decide) ?_
          refine z_iastore C (k := 326) (hL _ (by unfold live; omega)) (by rfl) (j := ((60 * sh) + it)) rfl (by rw [show ln 326 = 240 from rfl]; omega) (by rw [show ln 326 = 240 from rfl]; decide) dX8_put_72 ?_
          refine z_iconst C dX8_put_73 (v := 1) (by decide) ?_
          exact z_iret C rfl (Nat.le_refl _) (Nat.le_refl _) dX8_put_74 ⟨_, rfl, Or.inr ⟨⟨by omega, by omega, by rw [ush]; exact h1, by rw [ush, ufo]; exact h2, by rw [ush]; exact h3⟩, rfl, by rw [ush, uit, h2, wrV, if_pos (by omega)]⟩⟩
    · refine z_if_ne C dX8_put_16 (tgt := 22) (by decide) (fun h16 => absurd h16 (by decide)) (fun h16 => ?_)
      refine z_bipush C dX8_put_19 (v := -2) (by decide) ?_
      exact z_iret C rfl (Nat.le_refl _) (Nat.le_refl _) dX8_put_21 ⟨_, rfl, Or.inl (Or.inl ⟨by omega, rfl, rfl⟩)⟩
  · refine z_if_eq C dX8_put_4 (tgt := 19) (by decide) (fun h4 => ?_) (fun h4 => absurd h4 (by decide))
    refine z_bipush C dX8_put_19 (v := -2) (by decide) ?_
    exact z_iret C rfl (Nat.le_refl _) (Nat.le_refl _) dX8_put_21 ⟨_, rfl, Or.inl (Or.inl ⟨by omega, rfl, rfl⟩)⟩

set_option maxHeartbeats 4000000 in
set_option maxRecDepth 100000 in
theorem c_X8_get (l : Launch) (D : va_G) (cy : Nat → ClassId) (a : Nat → Nat) (L : List Nat) (c : Nat → Nat → Int32) (g : Nat → Nat → Int64) (r : Nat → Nat → Option Nat) (nl nk : Nat) (hL : zLv L nl nk) (hM : RM r) (d : Nat → Nat → Int32) (hI : CI d nl nk) (x : Nat → Nat → Nat) (hX : XL d nl x) (hK : LK d c nl nk x) (sheet form i : Int32) : zCI l yX8_get wsX8_get { frames := 2, cells := 0, slots := 0, locals := 48 } D cy a L c g r [Value.ref (a 300), Value.int sheet, Value.int form, Value.int i] (fun v c' => (v = -2147483648 ∧ ∃ t : Int32, (¬ ((0 ≤ sheet.toInt ∧ sheet.toInt ≤ 3) ∧ (0 ≤ form.toInt ∧ form.toInt ≤ 2)) ∧ t = -2 ∧ c' = c) ∨ ((0 ≤ sheet.toInt ∧ sheet.toInt ≤ 3) ∧ (0 ≤ form.toInt ∧ form.toInt ≤ 2) ∧ nn d (40 + tn sheet) 1 = 1 ∧ t = -11 ∧ c' = up2 c 300 27 1) ∨ ((0 ≤ sheet.toInt ∧ sheet.toInt ≤ 3) ∧ (0 ≤ form.toInt ∧ form.toInt ≤ 2) ∧ nn d (40 + tn sheet) 1 = 0 ∧ nn d (40 + tn sheet) 2 ≠ tn form ∧ t = -13 ∧ c' = up2 c 300 27 3) ∨ ((0 ≤ sheet.toInt ∧ sheet.toInt ≤ 3) ∧ (0 ≤ form.toInt ∧ form.toInt ≤ 2) ∧ nn d (40 + tn sheet) 1 = 0 ∧ nn d (40 + tn sheet) 2 = tn form ∧ ¬ (0 ≤ i.toInt ∧ i.toInt < (nn d (40 + tn sheet) 3 : Int)) ∧ t = -12 ∧ c' = up2 c 300 27 2)) ∨ (((0 ≤ sheet.toInt ∧ sheet.toInt ≤ 3) ∧ (0 ≤ form.toInt ∧ form.toInt ≤ 2) ∧ nn d (40 + tn sheet) 1 = 0 ∧ nn d (40 + tn sheet) 2 = tn form ∧ (0 ≤ i.toInt ∧ i.toInt < (nn d (40 + tn sheet) 3 : Int))) ∧ v = d (50 + tn sheet) (tn i) ∧ c' = c)) := by
  refine z_enter cX8_get 4 (some .int) (by decide) (Nat.le_of_ble_eq_true rfl) ?_
  intro p e s m below meth co C hin
  have C : zC p s m _ meth co D cy _ cX8_get 4 (some .int) wsX8_get RX8 := C
  have i8 : ∀ w ∈ wsX80, w ∈ wsX8_get := by decide +kernel
  refine z_iload_n C dX8_get_0 rfl (q := 1) rfl ?_
  refine z_pI C (z_runS C (As := [Value.int sheet]) (rest := []) (c_X8_isSheet l D cy a L c g r sheet) (va_cwS 1 C.2.2.2.2.2.1 gX8_get_X8_isSheet rfl rfl rfl (by decide +kernel) ⟨Nat.le_of_ble_eq_true rfl, Nat.le_of_ble_eq_true rfl⟩) rfl rfl (Nat.le_of_ble_eq_true rfl) dX8_get_1 ⟨Nat.zero_le _, Nat.zero_le _⟩) (fun v1 e1 => ?_)
  rcases e1 with ⟨rfl, e1⟩ | ⟨rfl, e1⟩
  · obtain ⟨sh, hsh, rfl⟩ := arg_nI (b := 3) e1
    have tsh := nI_toInt (n := sh) (by omega)
    have ush := tn_nI (j := sh) (by omega)
    refine z_if_eq C dX8_get_4 (tgt := 29) (by decide) (fun h4 => absurd h4 (by decide)) (fun h4 => ?_)
    refine z_iload_n C dX8_get_7 rfl (q := 2) rfl ?_
    refine z_i2l C dX8_get_8 (v := form.toInt64) rfl ?_
    refine z_lconst C dX8_get_9 (v := 0) (by decide) ?_
    refine z_ldc2 C dX8_get_10 (v := 2) (by decide +kernel) ?_
    refine z_pI C (z_runS C (As := [Value.long (form.toInt64), Value.long 0, Value.long 2]) (rest := []) (c_X8_in l D cy a L c g r form.toInt64 0 2 (V := form.toInt) (LO := 0) (HI := 2) (tL rfl) (show (0 : Int64).toInt = 0 from by decide) (show (2 : Int64).toInt = 2 from by decide)) (va_cwS 3 C.2.2.2.2.2.1 gX8_get_X8_in rfl rfl rfl (by decide +kernel) ⟨Nat.le_of_ble_eq_true rfl, Nat.le_of_ble_eq_true rfl⟩) rfl rfl (Nat.le_of_ble_eq_true rfl) dX8_get_13 ⟨Nat.zero_le _, Nat.zero_le _⟩) (fun v13 e13 => ?_)
    rcases e13 with ⟨rfl, e13⟩ | ⟨rfl, e13⟩
    · obtain ⟨fo, hfo, rfl⟩ := arg_nI (b := 2) e13
      have tfo := nI_toInt (n := fo) (by omega)
      have ufo := tn_nI (j := fo) (by omega)
      refine z_if_eq C dX8_get_16 (tgt := 29) (by decide) (fun h16 => absurd h16 (by decide)) (fun h16 => ?_)
      refine z_aload_n C dX8_get_19 rfl (q := 0) rfl ?_
      refine z_iload_n C dX8_get_20 rfl (q := 1) rfl ?_
      refine z_iload_n C dX8_get_21 rfl (q := 2) rfl ?_
      refine z_iload_n C dX8_get_22 rfl (q := 3) rfl ?_
      refine z_cI C (z_runV C (As := [Value.int (nI sh), Value.int (nI fo), Value.int i]) (rest := []) (c_X8_lacksItem l D cy a L c g r nl nk hL hM d hI x hX hK sh fo (by omega) (by omega) i) (cwV 3 C.2.2.2.2.2.1 gX8_get_X8_lacksItem rfl rfl rfl (by decide +kernel) ⟨Nat.le_of_ble_eq_true rfl, Nat.le_of_ble_eq_true rfl⟩) (hL _ (by unfold live; omega)) (zF_k8 (by rfl)) rfl rfl rfl rfl (Nat.le_of_ble_eq_true rfl) dX8_get_23 ⟨Nat.zero_le _, Nat.zero_le _⟩) (fun v23 c23 e23 => ?_)
      rcases e23 with ⟨h1, rfl, rfl⟩ | ⟨h1, h2, rfl, rfl⟩ | ⟨h1, h2, h3, rfl, rfl⟩ | ⟨h1, h2, h3, rfl, hc⟩
      · refine z_if_eq C dX8_get_26 (tgt := 32) (by decide) (fun h26 => absurd h26 (by decide)) (fun h26 => ?_)
        refine z_ldc C dX8_get_29 (v := -2147483648) (by decide +kernel) ?_
        exact z_iret C rfl (Nat.le_refl _) (Nat.le_refl _) dX8_get_31 ⟨_, rfl, Or.inl ⟨rfl, -11, Or.inr (Or.inl ⟨by omega, by omega, by rw [ush]; exact h1, rfl, rfl⟩)⟩⟩
      · refine z_if_eq C dX8_get_26 (tgt := 32) (by decide) (fun h26 => absurd h26 (by decide)) (fun h26 => ?_)
        refine z_ldc C dX8_get_29 (v := -2147483648) (by decide +kernel) ?_
        exact z_iret C rfl (Nat.le_refl _) (Nat.le_refl _) dX8_get_31 ⟨_, rfl, Or.inl ⟨rfl, -13, Or.inr (Or.inr (Or.inl ⟨by omega, by omega, by rw [ush]; exact h1, by rw [ush, ufo]; exact h2, rfl, rfl⟩))⟩⟩
      · refine z_if_eq C dX8_get_26 (tgt := 32) (by decide) (fun h26 => absurd h26 (by decide)) (fun h26 => ?_)
        refine z_ldc C dX8_get_29 (v := -2147483648) (by decide +kernel) ?_
        exact z_iret C rfl (Nat.le_refl _) (Nat.le_refl _) dX8_get_31 ⟨_, rfl, Or.inl ⟨rfl, -12, Or.inr (Or.inr (Or.inr ⟨by omega, by omega, by rw [ush]; exact h1, by rw [ush, ufo]; exact h2, by rw [ush]; exact h3, rfl, rfl⟩))⟩⟩
      · have hc := hc.symm
        subst hc
        have hn := (CI_sh hI hsh).2.2.2
        obtain ⟨it, hit, rfl⟩ := arg_lt h3
        have uit := tn_nI (j := it) (by omega)
        refine z_if_eq C dX8_get_26 (tgt := 32) (by decide) (fun h26 => ?_) (fun h26 => absurd h26 (by decide))
        refine z_aload_n C dX8_get_32 rfl (q := 0) rfl ?_
        refine zg_X8_items C (k := 300) (hL _ (by unfold live; omega)) (by rfl) i8 (by decide +kernel) (k' := 326) (RM_items hM) dX8_get_33 ?_
        refine z_bipush C dX8_get_36 (v := 60) (by decide) ?_
        refine z_iload_n C dX8_get_38 rfl (q := 1) rfl ?_
        refine z_imul C dX8_get_39 (v := nI (60 * sh)) (pk_mul 60 sh) ?_
        refine z_iload_n C dX8_get_40 rfl (q := 3) rfl ?_
        refine z_iadd C dX8_get_41 (v := nI ((60 * sh) + it)) (nI_add (60 * sh) it) ?_
        refine z_iaload C (k := 326) (hL _ (by unfold live; omega)) (by rfl) (j := ((60 * sh) + it)) rfl (by rw [show ln 326 = 240 from rfl]; omega) (by rw [show ln 326 = 240 from rfl]; decide) (v := d (50 + sh) it) (LK_it hK hsh (by omega)) dX8_get_42 ?_
        exact z_iret C rfl (Nat.le_refl _) (Nat.le_refl _) dX8_get_43 ⟨_, rfl, Or.inr ⟨⟨by omega, by omega, by rw [ush]; exact h1, by rw [ush, ufo]; exact h2, by rw [ush]; exact h3⟩, by rw [ush, uit], rfl⟩⟩
    · refine z_if_eq C dX8_get_16 (tgt := 29) (by decide) (fun h16 => ?_) (fun h16 => absurd h16 (by decide))
      refine z_ldc C dX8_get_29 (v := -2147483648) (by decide +kernel) ?_
      exact z_iret C rfl (Nat.le_refl _) (Nat.le_refl _) dX8_get_31 ⟨_, rfl, Or.inl ⟨rfl, -2, Or.inl ⟨by omega, rfl, rfl⟩⟩⟩
  · refine z_if_eq C dX8_get_4 (tgt := 29) (by decide) (fun h4 => ?_) (fun h4 => absurd h4 (by decide))
    refine z_ldc C dX8_get_29 (v := -2147483648) (by decide +kernel) ?_
    exact z_iret C rfl (Nat.le_refl _) (Nat.le_refl _) dX8_get_31 ⟨_, rfl, Or.inl ⟨rfl, -2, Or.inl ⟨by omega, rfl, rfl⟩⟩⟩
