theorem FrO_tr {c c1 c2 : Nat → Nat → Int32} (h : FrO c c1) (h2 : FrO c1 c2) : FrO c c2 := ⟨fun k a b => (h2.1 k a b).trans (h.1 k a b), fun j a b => (h2.2 j a b).trans (h.2 j a b)⟩
theorem dg3_flat {F : Nat → Int32} {f : Nat → Nat → Int32} {h : Int64} : ∀ {n : Nat}, (∀ i, i < n → ∀ j, j < 6 → F (6 * i + j) = f i j) → dgF F h (6 * n) = dg3 f h n
  | 0, _ => rfl
  | n + 1, hf => by
    have ih := dg3_flat (F := F) (f := f) (h := h) (n := n) (fun i hi => hf i (by omega))
    have e : ∀ j, j < 6 → F (6 * n + j) = f n j := hf n (by omega)
    rw [show 6 * (n + 1) = 6 * n + 5 + 1 by omega, dg3]
    show 31 * (31 * (31 * (31 * (31 * (31 * dgF F h (6 * n) + (F (6 * n + 0)).toInt64) + (F (6 * n + 1)).toInt64) + (F (6 * n + 2)).toInt64) + (F (6 * n + 3)).toInt64) + (F (6 * n + 4)).toInt64) + (F (6 * n + 5)).toInt64 = _
    rw [e 0 (by decide), e 1 (by decide), e 2 (by decide), e 3 (by decide), e 4 (by decide), e 5 (by decide), ih]
    rfl

set_option maxHeartbeats 4000000 in
set_option maxRecDepth 100000 in
theorem c_X8_digest (l : Launch) (D : va_G) (cy : Nat → ClassId) (a : Nat → Nat) (L : List Nat) (c : Nat → Nat → Int32) (g : Nat → Nat → Int64) (r : Nat → Nat → Option Nat) (nl nk : Nat) (hL : zLv L nl nk) (hM : RM r) (d : Nat → Nat → Int32) (hI : CI d nl nk) (x : Nat → Nat → Nat) (hX : XL d nl x) (hK : LK d c nl nk x) : zCL l yX8_digest wsX8_digest { frames := 3, cells := 0, slots := 0, locals := 67 } D cy a L c g r [Value.ref (a 300)] (fun v c' => FrO c c' ∧ v = digC d x nk) := by
  refine z_enter cX8_digest 4 (some .long) (by decide) (Nat.le_of_ble_eq_true rfl) ?_
  intro p e s m below meth co C hin
  have C : zC p s m _ meth co D cy _ cX8_digest 4 (some .long) wsX8_digest RX8 := C
  have i8 : ∀ w ∈ wsX80, w ∈ wsX8_digest := by decide +kernel
  have h40 := CI_nk40 hI
  refine z_ldc2 C dX8_digest_0 (v := 17) (by decide +kernel) ?_
  refine z_lstore_n C dX8_digest_3 rfl (by decide) (lv' := [(1, Value.long 17), (0, Value.ref (a 300))]) rfl ?_
  refine z_iconst C dX8_digest_4 (v := nI 0) (by decide) ?_
  refine z_istore_n C dX8_digest_5 rfl (by decide) (lv' := [(3, Value.int (nI 0)), (1, Value.long 17), (0, Value.ref (a 300))]) rfl ?_
  refine z_lveq (lv' := [(3, Value.int (nI 0)), (1, Value.long (dg1 (fun k => countC d x (nI k)) 0)), (0, Value.ref (a 300))]) rfl ?_
  refine z_for 0 9 (Nat.zero_le _) (fun k => [(3, Value.int (nI k)), (1, Value.long (dg1 (fun k => countC d x (nI k)) k)), (0, Value.ref (a 300))]) (fun k => c) (fun k => g) ?_ ?_
  · refine z_iload_n C dX8_digest_6 rfl (q := 0) rfl ?_
    refine z_bipush C dX8_digest_7 (v := nI 9) (by decide) ?_
    refine z_icmp_ge C dX8_digest_9 (tgt := 41) (by decide) (fun h9 => ?_) (fun h9 => absurd (Int32.le_refl _) h9)
    refine z_iconst C dX8_digest_41 (v := nI 0) (by decide) ?_
    refine z_istore_n C dX8_digest_42 rfl (by decide) (lv' := [(3, Value.int (nI 0)), (1, Value.long (dg1 (fun k => countC d x (nI k)) 9)), (0, Value.ref (a 300))]) rfl ?_
    obtain ⟨kA, ekA⟩ : ∃ h, h = dg1 (fun k => countC d x (nI k)) 9 := ⟨_, rfl⟩
    refine z_lveq (lv' := [(3, Value.int (nI 0)), (1, Value.long (dg2 (fun w => nI (wideC d x w)) (fun w => nI (maxF (lateN d x w) (nn d (20 + w) 1))) kA 0)), (0, Value.ref (a 300))]) (by rw [ekA]; rfl) ?_
    refine z_forI (fun w c1 => FrO c c1) 0 8 (Nat.zero_le _) (fun w => [(3, Value.int (nI w)), (1, Value.long (dg2 (fun w => nI (wideC d x w)) (fun w => nI (maxF (lateN d x w) (nn d (20 + w) 1))) kA w)), (0, Value.ref (a 300))]) ?_ ?_ (FrO_rf c)
    · intro c1 hvw
      have hK1 := LK_s (FrO_lks hvw) hK
      have hvw : FrO c c1 ∧ True := ⟨hvw, trivial⟩
      refine z_iload_n C dX8_digest_43 rfl (q := 0) rfl ?_
      refine z_bipush C dX8_digest_44 (v := nI 8) (by decide) ?_
      refine z_icmp_ge C dX8_digest_46 (tgt := 85) (by decide) (fun h46 => ?_) (fun h46 => absurd (Int32.le_refl _) h46)
      refine z_iconst C dX8_digest_85 (v := nI 0) (by decide) ?_
      refine z_istore_n C dX8_digest_86 rfl (by decide) (lv' := [(3, Value.int (nI 0)), (1, Value.long (dg2 (fun w => nI (wideC d x w)) (fun w => nI (maxF (lateN d x w) (nn d (20 + w) 1))) kA 8)), (0, Value.ref (a 300))]) rfl ?_
      obtain ⟨kB, ekB⟩ : ∃ h, h = dg2 (fun w => nI (wideC d x w)) (fun w => nI (maxF (lateN d x w) (nn d (20 + w) 1))) kA 8 := ⟨_, rfl⟩
      refine z_lveq (lv' := [(3, Value.int (nI 0)), (1, Value.long (dgF (fun q => d (200 + q / 6) (q % 6)) kB 0)), (0, Value.ref (a 300))]) (by rw [ekB]; rfl) ?_
      refine z_for 0 ((6 * nk)) (Nat.zero_le _) (fun k => [(3, Value.int (nI k)), (1, Value.long (dgF (fun q => d (200 + q / 6) (q % 6)) kB k)), (0, Value.ref (a 300))]) (fun k => c1) (fun k => g) ?_ ?_
      · refine z_iload_n C dX8_digest_87 rfl (q := 0) rfl ?_
        refine z_bipush C dX8_digest_88 (v := 6) (by decide) ?_
        refine z_aload_n C dX8_digest_90 rfl (q := 2) rfl ?_
        refine zg_X8_lumps C (k := 300) (hL _ (by unfold live; omega)) (by rfl) i8 (by decide +kernel) (v := nI nk) (LK_nk hK1) dX8_digest_91 ?_
        refine z_imul C dX8_digest_94 (v := nI (6 * nk)) (pk_mul 6 nk) ?_
        refine z_icmp_ge C dX8_digest_95 (tgt := 118) (by decide) (fun h95 => ?_) (fun h95 => absurd (Int32.le_refl _) h95)
        refine z_iconst C dX8_digest_118 (v := nI 0) (by decide) ?_
        refine z_istore_n C dX8_digest_119 rfl (by decide) (lv' := [(3, Value.int (nI 0)), (1, Value.long (dgF (fun q => d (200 + q / 6) (q % 6)) kB ((6 * nk)))), (0, Value.ref (a 300))]) rfl ?_
        obtain ⟨kD, ekD⟩ : ∃ h, h = dgF (fun q => d (200 + q / 6) (q % 6)) kB (6 * nk) := ⟨_, rfl⟩
        refine z_lveq (lv' := [(3, Value.int (nI 0)), (1, Value.long (dgF (foreC d) kD 0)), (0, Value.ref (a 300))]) (by rw [ekD]; rfl) ?_
        refine z_for 0 52 (Nat.zero_le _) (fun w1 => [(3, Value.int (nI w1)), (1, Value.long (dgF (foreC d) kD w1)), (0, Value.ref (a 300))]) (fun w1 => c1) (fun w1 => g) ?_ ?_
        · refine z_iload_n C dX8_digest_120 rfl (q := 0) rfl ?_
          refine z_bipush C dX8_digest_121 (v := nI 52) (by decide) ?_
          refine z_icmp_ge C dX8_digest_123 (tgt := 145) (by decide) (fun h123 => ?_) (fun h123 => absurd (Int32.le_refl _) h123)
          refine z_iconst C dX8_digest_145 (v := nI 0) (by decide) ?_
          refine z_istore_n C dX8_digest_146 rfl (by decide) (lv' := [(3, Value.int (nI 0)), (1, Value.long (dgF (foreC d) kD 52)), (0, Value.ref (a 300))]) rfl ?_
          obtain ⟨kE, ekE⟩ : ∃ h, h = dgF (foreC d) kD 52 := ⟨_, rfl⟩
          refine z_lveq (lv' := [(3, Value.int (nI 0)), (1, Value.long (dgF (d 5) kE 0)), (0, Value.ref (a 300))]) (by rw [ekE]; rfl) ?_
          refine z_for 0 4 (Nat.zero_le _) (fun i => [(3, Value.int (nI i)), (1, Value.long (dgF (d 5) kE i)), (0, Value.ref (a 300))]) (fun i => c1) (fun i => g) ?_ ?_
          · refine z_iload_n C dX8_digest_147 rfl (q := 0) rfl ?_
            refine z_iconst C dX8_digest_148 (v := nI 4) (by decide) ?_
            refine z_icmp_ge C dX8_digest_149 (tgt := 172) (by decide) (fun h149 => ?_) (fun h149 => absurd (Int32.le_refl _) h149)
            refine z_lload_n C dX8_digest_172 rfl (q := 1) rfl ?_
            exact z_lret C rfl (Nat.le_refl _) (Nat.le_refl _) dX8_digest_173 ⟨_, rfl, hvw.1, by rw [digC, ← ekA, ← ekB, ← dg3_flat (F := fun q => d (200 + q / 6) (q % 6)) (fun i hi j hj => by show d (200 + (6 * i + j) / 6) ((6 * i + j) % 6) = d (200 + i) j; rw [show (6 * i + j) / 6 = i by omega, show (6 * i + j) % 6 = j by omega]), ← ekD, ← ekE]⟩
          · intro i hli hi ihi
            refine z_iload_n C dX8_digest_147 rfl (q := 0) rfl ?_
            refine z_iconst C dX8_digest_148 (v := nI 4) (by decide) ?_
            refine z_icmp_ge C dX8_digest_149 (tgt := 172) (by decide) (fun h149 => absurd h149 (nI_ge hi (by omega))) (fun h149 => ?_)
            refine z_ldc2 C dX8_digest_152 (v := 31) (by decide +kernel) ?_
            refine z_lload_n C dX8_digest_155 rfl (q := 1) rfl ?_
            refine z_lmul C dX8_digest_156 (v := 31 * (dgF (d 5) kE i)) rfl ?_
            refine z_aload_n C dX8_digest_157 rfl (q := 2) rfl ?_
            refine zg_X8_told C (k := 300) (hL _ (by unfold live; omega)) (by rfl) i8 (by decide +kernel) (k' := 301) (RM_told hM) dX8_digest_158 ?_
            refine z_iload_n C dX8_digest_161 rfl (q := 0) rfl ?_
            refine z_iaload C (k := 301) (hL _ (by unfold live; omega)) (by rfl) (j := i) rfl (by rw [show ln 301 = 4 from rfl]; omega) (by rw [show ln 301 = 4 from rfl]; decide) (v := d 5 i) (LK_told hK1 hi) dX8_digest_162 ?_
            refine z_i2l C dX8_digest_163 (v := (d 5 i).toInt64) rfl ?_
            refine z_ladd C dX8_digest_164 (v := (31 * (dgF (d 5) kE i)) + ((d 5 i).toInt64)) rfl ?_
            refine z_lstore_n C dX8_digest_165 rfl (by decide) (lv' := [(1, Value.long ((31 * (dgF (d 5) kE i)) + ((d 5 i).toInt64))), (3, Value.int (nI i)), (0, Value.ref (a 300))]) rfl ?_
            refine z_iinc C dX8_digest_166 (q := 1) rfl (v := nI (i + 1)) (nI_1 _) (by decide) (lv' := [(3, Value.int (nI (i + 1))), (1, Value.long ((31 * (dgF (d 5) kE i)) + ((d 5 i).toInt64))), (0, Value.ref (a 300))]) rfl ?_
            refine z_goto C dX8_digest_169 (tgt := 147) (by decide) ?_
            exact ihi
        · intro w1 hlw1 hw1 ihw1
          refine z_iload_n C dX8_digest_120 rfl (q := 0) rfl ?_
          refine z_bipush C dX8_digest_121 (v := nI 52) (by decide) ?_
          refine z_icmp_ge C dX8_digest_123 (tgt := 145) (by decide) (fun h123 => absurd h123 (nI_ge hw1 (by omega))) (fun h123 => ?_)
          refine z_ldc2 C dX8_digest_126 (v := 31) (by decide +kernel) ?_
          refine z_lload_n C dX8_digest_129 rfl (q := 1) rfl ?_
          refine z_lmul C dX8_digest_130 (v := 31 * (dgF (foreC d) kD w1)) rfl ?_
          refine z_aload_n C dX8_digest_131 rfl (q := 2) rfl ?_
          refine z_iload_n C dX8_digest_132 rfl (q := 0) rfl ?_
          refine z_pI C (z_runV C (As := [Value.int (nI w1)]) (rest := [Value.long (31 * (dgF (foreC d) kD w1))]) (c_X8_foretoldOf l D cy a L c1 g r nl nk hL hM d hI x hX hK1 w1 (by omega)) (cwV 1 C.2.2.2.2.2.1 gX8_digest_X8_foretoldOf rfl rfl rfl (by decide +kernel) ⟨Nat.le_of_ble_eq_true rfl, Nat.le_of_ble_eq_true rfl⟩) (hL _ (by unfold live; omega)) (zF_k8 (by rfl)) rfl rfl rfl rfl (Nat.le_of_ble_eq_true rfl) dX8_digest_133 ⟨Nat.zero_le _, Nat.zero_le _⟩) (fun v133 e133 => ?_)
          rw [fore_eq] at e133
          subst e133
          refine z_i2l C dX8_digest_136 (v := (foreC d w1).toInt64) rfl ?_
          refine z_ladd C dX8_digest_137 (v := (31 * (dgF (foreC d) kD w1)) + ((foreC d w1).toInt64)) rfl ?_
          refine z_lstore_n C dX8_digest_138 rfl (by decide) (lv' := [(1, Value.long ((31 * (dgF (foreC d) kD w1)) + ((foreC d w1).toInt64))), (3, Value.int (nI w1)), (0, Value.ref (a 300))]) rfl ?_
          refine z_iinc C dX8_digest_139 (q := 1) rfl (v := nI (w1 + 1)) (nI_1 _) (by decide) (lv' := [(3, Value.int (nI (w1 + 1))), (1, Value.long ((31 * (dgF (foreC d) kD w1)) + ((foreC d w1).toInt64))), (0, Value.ref (a 300))]) rfl ?_
          refine z_goto C dX8_digest_142 (tgt := 120) (by decide) ?_
          exact ihw1
      · intro k hlk hk ihk
        refine z_iload_n C dX8_digest_87 rfl (q := 0) rfl ?_
        refine z_bipush C dX8_digest_88 (v := 6) (by decide) ?_
        refine z_aload_n C dX8_digest_90 rfl (q := 2) rfl ?_
        refine zg_X8_lumps C (k := 300) (hL _ (by unfold live; omega)) (by rfl) i8 (by decide +kernel) (v := nI nk) (LK_nk hK1) dX8_digest_91 ?_
        refine z_imul C dX8_digest_94 (v := nI (6 * nk)) (pk_mul 6 nk) ?_
        refine z_icmp_ge C dX8_digest_95 (tgt := 118) (by decide) (fun h95 => absurd h95 (nI_ge hk (by omega))) (fun h95 => ?_)
        refine z_ldc2 C dX8_digest_98 (v := 31) (by decide +kernel) ?_
        refine z_lload_n C dX8_digest_101 rfl (q := 1) rfl ?_
        refine z_lmul C dX8_digest_102 (v := 31 * (dgF (fun q => d (200 + q / 6) (q % 6)) kB k)) rfl ?_
        refine z_aload_n C dX8_digest_103 rfl (q := 2) rfl ?_
        refine zg_X8_made C (k := 300) (hL _ (by unfold live; omega)) (by rfl) i8 (by decide +kernel) (k' := 319) (RM_made hM) dX8_digest_104 ?_
        refine z_iload_n C dX8_digest_107 rfl (q := 0) rfl ?_
        refine z_iaload C (k := 319) (hL _ (by unfold live; omega)) (by rfl) (j := k) rfl (by rw [show ln 319 = 240 from rfl]; omega) (by rw [show ln 319 = 240 from rfl]; decide) (v := d (200 + k / 6) (k % 6)) (by have h9 := LK_lump hK1 (show k / 6 < nk by omega) (show k % 6 < 6 by omega); rw [show 6 * (k / 6) + k % 6 = k by omega] at h9; exact h9) dX8_digest_108 ?_
        refine z_i2l C dX8_digest_109 (v := (d (200 + k / 6) (k % 6)).toInt64) rfl ?_
        refine z_ladd C dX8_digest_110 (v := (31 * (dgF (fun q => d (200 + q / 6) (q % 6)) kB k)) + ((d (200 + k / 6) (k % 6)).toInt64)) rfl ?_
        refine z_lstore_n C dX8_digest_111 rfl (by decide) (lv' := [(1, Value.long ((31 * (dgF (fun q => d (200 + q / 6) (q % 6)) kB k)) + ((d (200 + k / 6) (k % 6)).toInt64))), (3, Value.int (nI k)), (0, Value.ref (a 300))]) rfl ?_
        refine z_iinc C dX8_digest_112 (q := 1) rfl (v := nI (k + 1)) (nI_1 _) (by decide) (lv' := [(3, Value.int (nI (k + 1))), (1, Value.long ((31 * (dgF (fun q => d (200 + q / 6) (q % 6)) kB k)) + ((d (200 + k / 6) (k % 6)).toInt64))), (0, Value.ref (a 300))]) rfl ?_
        refine z_goto C dX8_digest_115 (tgt := 87) (by decide) ?_
        exact ihk
    · intro w c1 hlw hw hvw ihw
      have hK1 := LK_s (FrO_lks hvw) hK
      refine z_iload_n C dX8_digest_43 rfl (q := 0) rfl ?_
      refine z_bipush C dX8_digest_44 (v := nI 8) (by decide) ?_
      refine z_icmp_ge C dX8_digest_46 (tgt := 85) (by decide) (fun h46 => absurd h46 (nI_ge hw (by omega))) (fun h46 => ?_)
      refine z_ldc2 C dX8_digest_49 (v := 31) (by decide +kernel) ?_
      refine z_lload_n C dX8_digest_52 rfl (q := 1) rfl ?_
      refine z_lmul C dX8_digest_53 (v := 31 * (dg2 (fun w => nI (wideC d x w)) (fun w => nI (maxF (lateN d x w) (nn d (20 + w) 1))) kA w)) rfl ?_
      refine z_aload_n C dX8_digest_54 rfl (q := 2) rfl ?_
      refine z_iload_n C dX8_digest_55 rfl (q := 0) rfl ?_
      refine z_pI C (z_runV C (As := [Value.int (nI w)]) (rest := [Value.long (31 * (dg2 (fun w => nI (wideC d x w)) (fun w => nI (maxF (lateN d x w) (nn d (20 + w) 1))) kA w))]) (c_X8_wideOf l D cy a L c1 g r nl nk hL hM d hI x hX hK1 w (by omega)) (cwV 1 C.2.2.2.2.2.1 gX8_digest_X8_wideOf rfl rfl rfl (by decide +kernel) ⟨Nat.le_of_ble_eq_true rfl, Nat.le_of_ble_eq_true rfl⟩) (hL _ (by unfold live; omega)) (zF_k8 (by rfl)) rfl rfl rfl rfl (Nat.le_of_ble_eq_true rfl) dX8_digest_56 ⟨Nat.zero_le _, Nat.zero_le _⟩) (fun v56 e56 => ?_)
      subst e56
      refine z_i2l C dX8_digest_59 (v := (nI (wideC d x w)).toInt64) rfl ?_
      refine z_ladd C dX8_digest_60 (v := (31 * (dg2 (fun w => nI (wideC d x w)) (fun w => nI (maxF (lateN d x w) (nn d (20 + w) 1))) kA w)) + ((nI (wideC d x w)).toInt64)) rfl ?_
      refine z_lstore_n C dX8_digest_61 rfl (by decide) (lv' := [(1, Value.long ((31 * (dg2 (fun w => nI (wideC d x w)) (fun w => nI (maxF (lateN d x w) (nn d (20 + w) 1))) kA w)) + ((nI (wideC d x w)).toInt64))), (3, Value.int (nI w)), (0, Value.ref (a 300))]) rfl ?_
      refine z_aload_n C dX8_digest_62 rfl (q := 2) rfl ?_
      refine z_iload_n C dX8_digest_63 rfl (q := 1) rfl ?_
      refine z_cV C (z_runV C (As := [Value.int (nI w)]) (rest := []) (c_X8_findOrder l D cy a L c1 g r nl nk hL hM d hI x hX hK1 w (by omega)) (cwV 1 C.2.2.2.2.2.1 gX8_digest_X8_findOrder rfl rfl rfl (by decide +kernel) ⟨Nat.le_of_ble_eq_true rfl, Nat.le_of_ble_eq_true rfl⟩) (hL _ (by unfold live; omega)) (zF_k8 (by rfl)) rfl rfl rfl rfl (Nat.le_of_ble_eq_true rfl) dX8_digest_64 ⟨Nat.zero_le _, Nat.zero_le _⟩) (fun c64 e64 => ?_)
      refine z_ldc2 C dX8_digest_67 (v := 31) (by decide +kernel) ?_
      refine z_lload_n C dX8_digest_70 rfl (q := 0) rfl ?_
      refine z_lmul C dX8_digest_71 (v := 31 * ((31 * (dg2 (fun w => nI (wideC d x w)) (fun w => nI (maxF (lateN d x w) (nn d (20 + w) 1))) kA w)) + ((nI (wideC d x w)).toInt64))) rfl ?_
      refine z_aload_n C dX8_digest_72 rfl (q := 2) rfl ?_
      refine zg_X8_worst C (k := 300) (hL _ (by unfold live; omega)) (by rfl) i8 (by decide +kernel) (v := nI (maxF (lateN d x w) (nn d (20 + w) 1))) e64.2.2.1 dX8_digest_73 ?_
      refine z_i2l C dX8_digest_76 (v := (nI (maxF (lateN d x w) (nn d (20 + w) 1))).toInt64) rfl ?_
      refine z_ladd C dX8_digest_77 (v := (31 * ((31 * (dg2 (fun w => nI (wideC d x w)) (fun w => nI (maxF (lateN d x w) (nn d (20 + w) 1))) kA w)) + ((nI (wideC d x w)).toInt64))) + ((nI (maxF (lateN d x w) (nn d (20 + w) 1))).toInt64)) rfl ?_
      refine z_lstore_n C dX8_digest_78 rfl (by decide) (lv' := [(1, Value.long ((31 * ((31 * (dg2 (fun w => nI (wideC d x w)) (fun w => nI (maxF (lateN d x w) (nn d (20 + w) 1))) kA w)) + ((nI (wideC d x w)).toInt64))) + ((nI (maxF (lateN d x w) (nn d (20 + w) 1))).toInt64))), (3, Value.int (nI w)), (0, Value.ref (a 300))]) rfl ?_
      refine z_iinc C dX8_digest_79 (q := 1) rfl (v := nI (w + 1)) (nI_1 _) (by decide) (lv' := [(3, Value.int (nI (w + 1))), (1, Value.long ((31 * ((31 * (dg2 (fun w => nI (wideC d x w)) (fun w => nI (maxF (lateN d x w) (nn d (20 + w) 1))) kA w)) + ((nI (wideC d x w)).toInt64))) + ((nI (maxF (lateN d x w) (nn d (20 + w) 1))).toInt64))), (0, Value.ref (a 300))]) rfl ?_
      refine z_goto C dX8_digest_82 (tgt := 43) (by decide) ?_
      exact ihw _ (FrO_tr hvw e64.1)
  · intro k hlk hk ihk
    refine z_iload_n C dX8_digest_6 rfl (q := 0) rfl ?_
    refine z_bipush C dX8_digest_7 (v := nI 9) (by decide) ?_
    refine z_icmp_ge C dX8_digest_9 (tgt := 41) (by decide) (fun h9 => absurd h9 (nI_ge hk (by omega))) (fun h9 => ?_)
    refine z_iload_n C dX8_digest_12 rfl (q := 0) rfl ?_
    refine z_bipush C dX8_digest_13 (v := 6) (by decide) ?_
    refine z_icmp_ne C dX8_digest_15 (tgt := 22) (by decide) (fun h15 => ?_) (fun h15 => ?_)
    · have q15 := iv_ne (nI_toInt (by omega)) (show (6 : Int32).toInt = 6 from by decide) h15
      refine z_ldc2 C dX8_digest_22 (v := 31) (by decide +kernel) ?_
      refine z_lload_n C dX8_digest_25 rfl (q := 1) rfl ?_
      refine z_lmul C dX8_digest_26 (v := 31 * (dg1 (fun k => countC d x (nI k)) k)) rfl ?_
      refine z_aload_n C dX8_digest_27 rfl (q := 2) rfl ?_
      refine z_iload_n C dX8_digest_28 rfl (q := 0) rfl ?_
      refine z_pI C (z_runV C (As := [Value.int (nI k)]) (rest := [Value.long (31 * (dg1 (fun k => countC d x (nI k)) k))]) (c_X8_count l D cy a L c g r nl nk hL hM d hI x hX hK (nI k)) (cwV 1 C.2.2.2.2.2.1 gX8_digest_X8_count rfl rfl rfl (by decide +kernel) ⟨Nat.le_of_ble_eq_true rfl, Nat.le_of_ble_eq_true rfl⟩) (hL _ (by unfold live; omega)) (zF_k8 (by rfl)) rfl rfl rfl rfl (Nat.le_of_ble_eq_true rfl) dX8_digest_29 ⟨Nat.zero_le _, Nat.zero_le _⟩) (fun v29 e29 => ?_)
      subst e29
      refine z_i2l C dX8_digest_32 (v := (countC d x (nI k)).toInt64) rfl ?_
      refine z_ladd C dX8_digest_33 (v := (31 * (dg1 (fun k => countC d x (nI k)) k)) + ((countC d x (nI k)).toInt64)) rfl ?_
      refine z_lstore_n C dX8_digest_34 rfl (by decide) (lv' := [(1, Value.long ((31 * (dg1 (fun k => countC d x (nI k)) k)) + ((countC d x (nI k)).toInt64))), (3, Value.int (nI k)), (0, Value.ref (a 300))]) rfl ?_
      refine z_iinc C dX8_digest_35 (q := 1) rfl (v := nI (k + 1)) (nI_1 _) (by decide) (lv' := [(3, Value.int (nI (k + 1))), (1, Value.long ((31 * (dg1 (fun k => countC d x (nI k)) k)) + ((countC d x (nI k)).toInt64))), (0, Value.ref (a 300))]) rfl ?_
      refine z_goto C dX8_digest_38 (tgt := 6) (by decide) ?_
      rw [show dg1 (fun k => countC d x (nI k)) (k + 1) = 31 * dg1 (fun k => countC d x (nI k)) k + (countC d x (nI k)).toInt64 from by rw [dg1]; exact if_neg (by omega)] at ihk
      exact ihk
    · have q15 := iv_eq (nI_toInt (by omega)) (show (6 : Int32).toInt = 6 from by decide) h15
      refine z_lload_n C dX8_digest_18 rfl (q := 1) rfl ?_
      refine z_goto C dX8_digest_19 (tgt := 34) (by decide) ?_
      refine z_lstore_n C dX8_digest_34 rfl (by decide) (lv' := [(1, Value.long (dg1 (fun k => countC d x (nI k)) k)), (3, Value.int (nI k)), (0, Value.ref (a 300))]) rfl ?_
      refine z_iinc C dX8_digest_35 (q := 1) rfl (v := nI (k + 1)) (nI_1 _) (by decide) (lv' := [(3, Value.int (nI (k + 1))), (1, Value.long (dg1 (fun k => countC d x (nI k)) k)), (0, Value.ref (a 300))]) rfl ?_
      refine z_goto C dX8_digest_38 (tgt := 6) (by decide) ?_
      rw [show dg1 (fun k => countC d x (nI k)) (k + 1) = dg1 (fun k => countC d x (nI k)) k from by rw [dg1]; exact if_pos (by omega)] at ihk
      exact ihk
