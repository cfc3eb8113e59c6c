def dgF (f : Nat → Int32) (h : Int64) : Nat → Int64
  | 0 => h
  | n + 1 => 31 * dgF f h n + (f n).toInt64
def dg1 (f : Nat → Int32) : Nat → Int64
  | 0 => 17
  | k + 1 => if k = 6 then dg1 f k else 31 * dg1 f k + (f k).toInt64
def dg2 (f h2 : Nat → Int32) (h : Int64) : Nat → Int64
  | 0 => h
  | w + 1 => 31 * (31 * dg2 f h2 h w + (f w).toInt64) + (h2 w).toInt64
def dg3 (f : Nat → Nat → Int32) (h : Int64) : Nat → Int64
  | 0 => h
  | k + 1 => dgF (f k) (dg3 f h k) 6
noncomputable def digC (c : Nat → Nat → Int32) (x : Nat → Nat → Nat) (nk : Nat) : Int64 := dgF (c 5) (dgF (foreC c) (dg3 (fun k => c (200 + k)) (dg2 (fun w => nI (wideC c x w)) (fun w => nI (maxF (lateN c x w) (nn c (20 + w) 1))) (dg1 (fun k => countC c x (nI k)) 9) 8) nk) 52) 4

set_option maxHeartbeats 4000000 in
set_option maxRecDepth 100000 in
theorem c_X7_digest (l : Launch) (D : va_G) (cy : Nat → ClassId) (a : Nat → Nat) (L : List Nat) (c : Nat → Nat → Int32) (g : Nat → Nat → Int64) (r : Nat → Nat → Option Nat) (nl nk : Nat) (hL : zLv L nl nk) (hR : RC r nl nk) (hI : CI c nl nk) (x : Nat → Nat → Nat) (hX : XC c r nl x) : zPL l yX7_digest wsX7_digest { frames := 4, cells := 0, slots := 0, locals := 91 } D cy a L c g r [Value.ref (a 0)] (fun v => v = digC c x nk) := by
  refine z_enter cX7_digest 5 (some .long) (by decide) (Nat.le_of_ble_eq_true rfl) ?_
  intro p e s m below meth co C hin
  have C : zC p s m _ meth co D cy _ cX7_digest 5 (some .long) wsX7_digest RX7 := C
  have i2 : ∀ w ∈ wsX20, w ∈ wsX7_digest := by decide +kernel
  have i7 : ∀ w ∈ wsX70, w ∈ wsX7_digest := by decide +kernel
  have h40 := CI_nk40 hI
  refine z_ldc2 C dX7_digest_0 (v := 17) (by decide +kernel) ?_
  refine z_lstore_n C dX7_digest_3 rfl (by decide) (lv' := [(1, Value.long 17), (0, Value.ref (a 0))]) rfl ?_
  refine z_iconst C dX7_digest_4 (v := nI 0) (by decide) ?_
  refine z_istore_n C dX7_digest_5 rfl (by decide) (lv' := [(3, Value.int (nI 0)), (1, Value.long 17), (0, Value.ref (a 0))]) rfl ?_
  refine z_lveq (lv' := [(3, Value.int (nI 0)), (1, Value.long (dg1 (fun k => countC c x (nI k)) 0)), (0, Value.ref (a 0))]) rfl ?_
  refine z_for 0 9 (Nat.zero_le _) (fun k => [(3, Value.int (nI k)), (1, Value.long (dg1 (fun k => countC c x (nI k)) k)), (0, Value.ref (a 0))]) (fun k => c) (fun k => g) ?_ ?_
  · refine z_iload_n C dX7_digest_6 rfl (q := 0) rfl ?_
    refine z_bipush C dX7_digest_7 (v := nI 8) (by decide) ?_
    refine z_icmp_gt C dX7_digest_9 (tgt := 37) (by decide) (fun h9 => ?_) (fun h9 => absurd (nI_lt (by omega) (by decide)) h9)
    refine z_iconst C dX7_digest_37 (v := nI 0) (by decide) ?_
    refine z_istore_n C dX7_digest_38 rfl (by decide) (lv' := [(3, Value.int (nI 0)), (1, Value.long (dg1 (fun k => countC c x (nI k)) 9)), (0, Value.ref (a 0))]) rfl ?_
    obtain ⟨kA, ekA⟩ : ∃ h, h = dg1 (fun k => countC c x (nI k)) 9 := ⟨_, rfl⟩
    refine z_lveq (lv' := [(3, Value.int (nI 0)), (1, Value.long (dg2 (fun w => nI (wideC c x w)) (fun w => nI (maxF (lateN c x w) (nn c (20 + w) 1))) kA 0)), (0, Value.ref (a 0))]) (by rw [ekA]; rfl) ?_
    refine z_for 0 8 (Nat.zero_le _) (fun w => [(3, Value.int (nI w)), (1, Value.long (dg2 (fun w => nI (wideC c x w)) (fun w => nI (maxF (lateN c x w) (nn c (20 + w) 1))) kA w)), (0, Value.ref (a 0))]) (fun w => c) (fun w => g) ?_ ?_
    · refine z_iload_n C dX7_digest_39 rfl (q := 0) rfl ?_
      refine z_bipush C dX7_digest_40 (v := nI 8) (by decide) ?_
      refine z_icmp_ge C dX7_digest_42 (tgt := 77) (by decide) (fun h42 => ?_) (fun h42 => absurd (Int32.le_refl _) h42)
      refine z_iconst C dX7_digest_77 (v := nI 0) (by decide) ?_
      refine z_istore_n C dX7_digest_78 rfl (by decide) (lv' := [(3, Value.int (nI 0)), (1, Value.long (dg2 (fun w => nI (wideC c x w)) (fun w => nI (maxF (lateN c x w) (nn c (20 + w) 1))) kA 8)), (0, Value.ref (a 0))]) rfl ?_
      obtain ⟨kB, ekB⟩ : ∃ h, h = dg2 (fun w => nI (wideC c x w)) (fun w => nI (maxF (lateN c x w) (nn c (20 + w) 1))) kA 8 := ⟨_, rfl⟩
      refine z_lveq (lv' := [(3, Value.int (nI 0)), (1, Value.long (dg3 (fun k => c (200 + k)) kB 0)), (0, Value.ref (a 0))]) (by rw [ekB]; rfl) ?_
      refine z_for 0 nk (Nat.zero_le _) (fun k => [(3, Value.int (nI k)), (1, Value.long (dg3 (fun k => c (200 + k)) kB k)), (0, Value.ref (a 0))]) (fun k => c) (fun k => g) ?_ ?_
      · refine z_iload_n C dX7_digest_79 rfl (q := 0) rfl ?_
        refine z_aload_n C dX7_digest_80 rfl (q := 2) rfl ?_
        refine zg_X7_lumpBook C (k := 0) (hL _ (by unfold live; omega)) (by rfl) i7 (by decide +kernel) (k' := 6) (RC_lumpBook hR) dX7_digest_81 ?_
        refine zg_X2_size C (k := 6) (hL _ (by unfold live; omega)) (by rfl) i2 (by decide +kernel) (v := nI nk) (CI_nk hI) dX7_digest_84 ?_
        refine z_icmp_ge C dX7_digest_87 (tgt := 126) (by decide) (fun h87 => ?_) (fun h87 => absurd (Int32.le_refl _) h87)
        refine z_iconst C dX7_digest_126 (v := nI 0) (by decide) ?_
        refine z_istore_n C dX7_digest_127 rfl (by decide) (lv' := [(3, Value.int (nI 0)), (1, Value.long (dg3 (fun k => c (200 + k)) kB nk)), (0, Value.ref (a 0))]) rfl ?_
        obtain ⟨kD, ekD⟩ : ∃ h, h = dg3 (fun k => c (200 + k)) kB nk := ⟨_, rfl⟩
        refine z_lveq (lv' := [(3, Value.int (nI 0)), (1, Value.long (dgF (foreC c) kD 0)), (0, Value.ref (a 0))]) (by rw [ekD]; rfl) ?_
        refine z_for 0 52 (Nat.zero_le _) (fun w => [(3, Value.int (nI w)), (1, Value.long (dgF (foreC c) kD w)), (0, Value.ref (a 0))]) (fun w => c) (fun w => g) ?_ ?_
        · refine z_iload_n C dX7_digest_128 rfl (q := 0) rfl ?_
          refine z_bipush C dX7_digest_129 (v := nI 52) (by decide) ?_
          refine z_icmp_ge C dX7_digest_131 (tgt := 153) (by decide) (fun h131 => ?_) (fun h131 => absurd (Int32.le_refl _) h131)
          refine z_iconst C dX7_digest_153 (v := nI 0) (by decide) ?_
          refine z_istore_n C dX7_digest_154 rfl (by decide) (lv' := [(3, Value.int (nI 0)), (1, Value.long (dgF (foreC c) kD 52)), (0, Value.ref (a 0))]) rfl ?_
          obtain ⟨kE, ekE⟩ : ∃ h, h = dgF (foreC c) kD 52 := ⟨_, rfl⟩
          refine z_lveq (lv' := [(3, Value.int (nI 0)), (1, Value.long (dgF (c 5) kE 0)), (0, Value.ref (a 0))]) (by rw [ekE]; rfl) ?_
          refine z_for 0 4 (Nat.zero_le _) (fun i => [(3, Value.int (nI i)), (1, Value.long (dgF (c 5) kE i)), (0, Value.ref (a 0))]) (fun i => c) (fun i => g) ?_ ?_
          · refine z_iload_n C dX7_digest_155 rfl (q := 0) rfl ?_
            refine z_iconst C dX7_digest_156 (v := nI 4) (by decide) ?_
            refine z_icmp_ge C dX7_digest_157 (tgt := 180) (by decide) (fun h157 => ?_) (fun h157 => absurd (Int32.le_refl _) h157)
            refine z_lload_n C dX7_digest_180 rfl (q := 1) rfl ?_
            exact z_lret C rfl (Nat.le_refl _) (Nat.le_refl _) dX7_digest_181 ⟨rfl, by rw [digC, ← ekA, ← ekB, ← ekD, ← ekE]⟩
          · intro i hli hi ihi
            refine z_iload_n C dX7_digest_155 rfl (q := 0) rfl ?_
            refine z_iconst C dX7_digest_156 (v := nI 4) (by decide) ?_
            refine z_icmp_ge C dX7_digest_157 (tgt := 180) (by decide) (fun h157 => absurd h157 (nI_ge hi (by omega))) (fun h157 => ?_)
            refine z_ldc2 C dX7_digest_160 (v := 31) (by decide +kernel) ?_
            refine z_lload_n C dX7_digest_163 rfl (q := 1) rfl ?_
            refine z_lmul C dX7_digest_164 (v := 31 * (dgF (c 5) kE i)) rfl ?_
            refine z_aload_n C dX7_digest_165 rfl (q := 2) rfl ?_
            refine zg_X7_settings C (k := 0) (hL _ (by unfold live; omega)) (by rfl) i7 (by decide +kernel) (k' := 5) (RC_settings hR) dX7_digest_166 ?_
            refine z_iload_n C dX7_digest_169 rfl (q := 0) rfl ?_
            refine z_iaload C (k := 5) (hL _ (by unfold live; omega)) (by rfl) (j := i) rfl (by rw [show ln 5 = 4 from rfl]; omega) (by rw [show ln 5 = 4 from rfl]; decide) (v := c 5 i) rfl dX7_digest_170 ?_
            refine z_i2l C dX7_digest_171 (v := (c 5 i).toInt64) rfl ?_
            refine z_ladd C dX7_digest_172 (v := (31 * (dgF (c 5) kE i)) + ((c 5 i).toInt64)) rfl ?_
            refine z_lstore_n C dX7_digest_173 rfl (by decide) (lv' := [(1, Value.long ((31 * (dgF (c 5) kE i)) + ((c 5 i).toInt64))), (3, Value.int (nI i)), (0, Value.ref (a 0))]) rfl ?_
            refine z_iinc C dX7_digest_174 (q := 1) rfl (v := nI (i + 1)) (nI_1 _) (by decide) (lv' := [(3, Value.int (nI (i + 1))), (1, Value.long ((31 * (dgF (c 5) kE i)) + ((c 5 i).toInt64))), (0, Value.ref (a 0))]) rfl ?_
            refine z_goto C dX7_digest_177 (tgt := 155) (by decide) ?_
            exact ihi
        · intro w hlw hw ihw
          refine z_iload_n C dX7_digest_128 rfl (q := 0) rfl ?_
          refine z_bipush C dX7_digest_129 (v := nI 52) (by decide) ?_
          refine z_icmp_ge C dX7_digest_131 (tgt := 153) (by decide) (fun h131 => absurd h131 (nI_ge hw (by omega))) (fun h131 => ?_)
          refine z_ldc2 C dX7_digest_134 (v := 31) (by decide +kernel) ?_
          refine z_lload_n C dX7_digest_137 rfl (q := 1) rfl ?_
          refine z_lmul C dX7_digest_138 (v := 31 * (dgF (foreC c) kD w)) rfl ?_
          refine z_aload_n C dX7_digest_139 rfl (q := 2) rfl ?_
          refine z_iload_n C dX7_digest_140 rfl (q := 0) rfl ?_
          refine z_pI C (z_runV C (As := [Value.int (nI w)]) (rest := [Value.long (31 * (dgF (foreC c) kD w))]) (c_X7_foretold l D cy a L c g r nl nk hL hR hI (nI w)) (cwV 1 C.2.2.2.2.2.1 gX7_digest_X7_foretold rfl rfl rfl (by decide +kernel) ⟨Nat.le_of_ble_eq_true rfl, Nat.le_of_ble_eq_true rfl⟩) (hL _ (by unfold live; omega)) (zF_k7 (by rfl)) rfl rfl rfl rfl (Nat.le_of_ble_eq_true rfl) dX7_digest_141 ⟨Nat.zero_le _, Nat.zero_le _⟩) (fun v141 e141 => ?_)
          have e141b : v141 = foreC c w := by rw [e141, if_pos (by have := nI_toInt (n := w) (by omega); omega), tn_nI (by omega)]
          subst e141b
          refine z_i2l C dX7_digest_144 (v := (foreC c w).toInt64) rfl ?_
          refine z_ladd C dX7_digest_145 (v := (31 * (dgF (foreC c) kD w)) + ((foreC c w).toInt64)) rfl ?_
          refine z_lstore_n C dX7_digest_146 rfl (by decide) (lv' := [(1, Value.long ((31 * (dgF (foreC c) kD w)) + ((foreC c w).toInt64))), (3, Value.int (nI w)), (0, Value.ref (a 0))]) rfl ?_
          refine z_iinc C dX7_digest_147 (q := 1) rfl (v := nI (w + 1)) (nI_1 _) (by decide) (lv' := [(3, Value.int (nI (w + 1))), (1, Value.long ((31 * (dgF (foreC c) kD w)) + ((foreC c w).toInt64))), (0, Value.ref (a 0))]) rfl ?_
          refine z_goto C dX7_digest_150 (tgt := 128) (by decide) ?_
          exact ihw
      · intro k hlk hk ihk
        refine z_iload_n C dX7_digest_79 rfl (q := 0) rfl ?_
        refine z_aload_n C dX7_digest_80 rfl (q := 2) rfl ?_
        refine zg_X7_lumpBook C (k := 0) (hL _ (by unfold live; omega)) (by rfl) i7 (by decide +kernel) (k' := 6) (RC_lumpBook hR) dX7_digest_81 ?_
        refine zg_X2_size C (k := 6) (hL _ (by unfold live; omega)) (by rfl) i2 (by decide +kernel) (v := nI nk) (CI_nk hI) dX7_digest_84 ?_
        refine z_icmp_ge C dX7_digest_87 (tgt := 126) (by decide) (fun h87 => absurd h87 (nI_ge hk (by omega))) (fun h87 => ?_)
        refine z_iconst C dX7_digest_90 (v := nI 0) (by decide) ?_
        refine z_istore C dX7_digest_91 (by decide) (lv' := [(4, Value.int (nI 0)), (3, Value.int (nI k)), (1, Value.long (dg3 (fun k => c (200 + k)) kB k)), (0, Value.ref (a 0))]) rfl ?_
        refine z_sub [0, 2, 1, 3] (lv' := [(4, Value.int (nI 0)), (1, Value.long (dg3 (fun k => c (200 + k)) kB k)), (3, Value.int (nI k)), (0, Value.ref (a 0))]) rfl ?_
        obtain ⟨kI, ekI⟩ : ∃ h, h = dg3 (fun k => c (200 + k)) kB k := ⟨_, rfl⟩
        refine z_lveq (lv' := [(4, Value.int (nI 0)), (1, Value.long (dgF (c (200 + k)) kI 0)), (3, Value.int (nI k)), (0, Value.ref (a 0))]) (by rw [ekI]; rfl) ?_
        refine z_for 0 6 (Nat.zero_le _) (fun j => [(4, Value.int (nI j)), (1, Value.long (dgF (c (200 + k)) kI j)), (3, Value.int (nI k)), (0, Value.ref (a 0))]) (fun j => c) (fun j => g) ?_ ?_
        · refine z_iload C dX7_digest_93 (q := 0) rfl ?_
          refine z_iconst C dX7_digest_95 (v := nI 5) (by decide) ?_
          refine z_icmp_gt C dX7_digest_96 (tgt := 120) (by decide) (fun h96 => ?_) (fun h96 => absurd (nI_lt (by omega) (by decide)) h96)
          refine z_iinc C dX7_digest_120 (q := 2) rfl (v := nI (k + 1)) (nI_1 _) (by decide) (lv' := [(3, Value.int (nI (k + 1))), (4, Value.int (nI 6)), (1, Value.long (dgF (c (200 + k)) kI 6)), (0, Value.ref (a 0))]) rfl ?_
          refine z_goto C dX7_digest_123 (tgt := 79) (by decide) ?_
          refine z_sub [0, 2, 3] (lv' := [(3, Value.int (nI (k + 1))), (1, Value.long (dgF (c (200 + k)) kI 6)), (0, Value.ref (a 0))]) rfl ?_
          rw [show dg3 (fun k => c (200 + k)) kB (k + 1) = dgF (c (200 + k)) kI 6 from by rw [dg3, ekI]] at ihk
          exact ihk
        · intro j hlj hj ihj
          refine z_iload C dX7_digest_93 (q := 0) rfl ?_
          refine z_iconst C dX7_digest_95 (v := nI 5) (by decide) ?_
          refine z_icmp_gt C dX7_digest_96 (tgt := 120) (by decide) (fun h96 => absurd h96 (nI_nlt (by omega) (by omega))) (fun h96 => ?_)
          refine z_ldc2 C dX7_digest_99 (v := 31) (by decide +kernel) ?_
          refine z_lload_n C dX7_digest_102 rfl (q := 1) rfl ?_
          refine z_lmul C dX7_digest_103 (v := 31 * (dgF (c (200 + k)) kI j)) rfl ?_
          refine z_aload_n C dX7_digest_104 rfl (q := 3) rfl ?_
          refine z_iload_n C dX7_digest_105 rfl (q := 2) rfl ?_
          refine z_iload C dX7_digest_106 (q := 0) rfl ?_
          refine z_pI C (z_runV C (As := [Value.int (nI k), Value.int (nI j)]) (rest := [Value.long (31 * (dgF (c (200 + k)) kI j))]) (c_X7_made l D cy a L c g r nl nk hL hR hI (nI k) (nI j)) (cwV 2 C.2.2.2.2.2.1 gX7_digest_X7_made rfl rfl rfl (by decide +kernel) ⟨Nat.le_of_ble_eq_true rfl, Nat.le_of_ble_eq_true rfl⟩) (hL _ (by unfold live; omega)) (zF_k7 (by rfl)) rfl rfl rfl rfl (Nat.le_of_ble_eq_true rfl) dX7_digest_108 ⟨Nat.zero_le _, Nat.zero_le _⟩) (fun v108 e108 => ?_)
          have e108b : v108 = c (200 + k) j := by rw [e108, madeC, if_pos (by have := nI_toInt (n := k) (by omega); have := nI_toInt (n := j) (by omega); omega), tn_nI (by omega), tn_nI (by omega)]
          subst e108b
          refine z_i2l C dX7_digest_111 (v := (c (200 + k) j).toInt64) rfl ?_
          refine z_ladd C dX7_digest_112 (v := (31 * (dgF (c (200 + k)) kI j)) + ((c (200 + k) j).toInt64)) rfl ?_
          refine z_lstore_n C dX7_digest_113 rfl (by decide) (lv' := [(1, Value.long ((31 * (dgF (c (200 + k)) kI j)) + ((c (200 + k) j).toInt64))), (4, Value.int (nI j)), (3, Value.int (nI k)), (0, Value.ref (a 0))]) rfl ?_
          refine z_iinc C dX7_digest_114 (q := 1) rfl (v := nI (j + 1)) (nI_1 _) (by decide) (lv' := [(4, Value.int (nI (j + 1))), (1, Value.long ((31 * (dgF (c (200 + k)) kI j)) + ((c (200 + k) j).toInt64))), (3, Value.int (nI k)), (0, Value.ref (a 0))]) rfl ?_
          refine z_goto C dX7_digest_117 (tgt := 93) (by decide) ?_
          exact ihj
    · intro w hlw hw ihw
      refine z_iload_n C dX7_digest_39 rfl (q := 0) rfl ?_
      refine z_bipush C dX7_digest_40 (v := nI 8) (by decide) ?_
      refine z_icmp_ge C dX7_digest_42 (tgt := 77) (by decide) (fun h42 => absurd h42 (nI_ge hw (by omega))) (fun h42 => ?_)
      refine z_ldc2 C dX7_digest_45 (v := 31) (by decide +kernel) ?_
      refine z_lload_n C dX7_digest_48 rfl (q := 1) rfl ?_
      refine z_lmul C dX7_digest_49 (v := 31 * (dg2 (fun w => nI (wideC c x w)) (fun w => nI (maxF (lateN c x w) (nn c (20 + w) 1))) kA w)) rfl ?_
      refine z_aload_n C dX7_digest_50 rfl (q := 2) rfl ?_
      refine z_iload_n C dX7_digest_51 rfl (q := 0) rfl ?_
      refine z_pI C (z_runV C (As := [Value.int (nI w)]) (rest := [Value.long (31 * (dg2 (fun w => nI (wideC c x w)) (fun w => nI (maxF (lateN c x w) (nn c (20 + w) 1))) kA w))]) (c_X7_wide l D cy a L c g r nl nk hL hR hI x hX (nI w)) (cwV 1 C.2.2.2.2.2.1 gX7_digest_X7_wide rfl rfl rfl (by decide +kernel) ⟨Nat.le_of_ble_eq_true rfl, Nat.le_of_ble_eq_true rfl⟩) (hL _ (by unfold live; omega)) (zF_k7 (by rfl)) rfl rfl rfl rfl (Nat.le_of_ble_eq_true rfl) dX7_digest_52 ⟨Nat.zero_le _, Nat.zero_le _⟩) (fun v52 e52 => ?_)
      have e52b : v52 = nI (wideC c x w) := by rw [e52, if_pos (by have := nI_toInt (n := w) (by omega); omega), tn_nI (by omega)]
      subst e52b
      refine z_i2l C dX7_digest_55 (v := (nI (wideC c x w)).toInt64) rfl ?_
      refine z_ladd C dX7_digest_56 (v := (31 * (dg2 (fun w => nI (wideC c x w)) (fun w => nI (maxF (lateN c x w) (nn c (20 + w) 1))) kA w)) + ((nI (wideC c x w)).toInt64)) rfl ?_
      refine z_lstore_n C dX7_digest_57 rfl (by decide) (lv' := [(1, Value.long ((31 * (dg2 (fun w => nI (wideC c x w)) (fun w => nI (maxF (lateN c x w) (nn c (20 + w) 1))) kA w)) + ((nI (wideC c x w)).toInt64))), (3, Value.int (nI w)), (0, Value.ref (a 0))]) rfl ?_
      refine z_ldc2 C dX7_digest_58 (v := 31) (by decide +kernel) ?_
      refine z_lload_n C dX7_digest_61 rfl (q := 0) rfl ?_
      refine z_lmul C dX7_digest_62 (v := 31 * ((31 * (dg2 (fun w => nI (wideC c x w)) (fun w => nI (maxF (lateN c x w) (nn c (20 + w) 1))) kA w)) + ((nI (wideC c x w)).toInt64))) rfl ?_
      refine z_aload_n C dX7_digest_63 rfl (q := 2) rfl ?_
      refine z_iload_n C dX7_digest_64 rfl (q := 1) rfl ?_
      refine z_pI C (z_runV C (As := [Value.int (nI w)]) (rest := [Value.long (31 * ((31 * (dg2 (fun w => nI (wideC c x w)) (fun w => nI (maxF (lateN c x w) (nn c (20 + w) 1))) kA w)) + ((nI (wideC c x w)).toInt64)))]) (c_X7_late l D cy a L c g r nl nk hL hR hI x hX (nI w)) (cwV 1 C.2.2.2.2.2.1 gX7_digest_X7_late rfl rfl rfl (by decide +kernel) ⟨Nat.le_of_ble_eq_true rfl, Nat.le_of_ble_eq_true rfl⟩) (hL _ (by unfold live; omega)) (zF_k7 (by rfl)) rfl rfl rfl rfl (Nat.le_of_ble_eq_true rfl) dX7_digest_65 ⟨Nat.zero_le _, Nat.zero_le _⟩) (fun v65 e65 => ?_)
      have e65b : v65 = nI (maxF (lateN c x w) (nn c (20 + w) 1)) := by rw [e65, if_pos (by have := nI_toInt (n := w) (by omega); omega), tn_nI (by omega)]
      subst e65b
      refine z_i2l C dX7_digest_68 (v := (nI (maxF (lateN c x w) (nn c (20 + w) 1))).toInt64) rfl ?_
      refine z_ladd C dX7_digest_69 (v := (31 * ((31 * (dg2 (fun w => nI (wideC c x w)) (fun w => nI (maxF (lateN c x w) (nn c (20 + w) 1))) kA w)) + ((nI (wideC c x w)).toInt64))) + ((nI (maxF (lateN c x w) (nn c (20 + w) 1))).toInt64)) rfl ?_
      refine z_lstore_n C dX7_digest_70 rfl (by decide) (lv' := [(1, Value.long ((31 * ((31 * (dg2 (fun w => nI (wideC c x w)) (fun w => nI (maxF (lateN c x w) (nn c (20 + w) 1))) kA w)) + ((nI (wideC c x w)).toInt64))) + ((nI (maxF (lateN c x w) (nn c (20 + w) 1))).toInt64))), (3, Value.int (nI w)), (0, Value.ref (a 0))]) rfl ?_
      refine z_iinc C dX7_digest_71 (q := 1) rfl (v := nI (w + 1)) (nI_1 _) (by decide) (lv' := [(3, Value.int (nI (w + 1))), (1, Value.long ((31 * ((31 * (dg2 (fun w => nI (wideC c x w)) (fun w => nI (maxF (lateN c x w) (nn c (20 + w) 1))) kA w)) + ((nI (wideC c x w)).toInt64))) + ((nI (maxF (lateN c x w) (nn c (20 + w) 1))).toInt64))), (0, Value.ref (a 0))]) rfl ?_
      refine z_goto C dX7_digest_74 (tgt := 39) (by decide) ?_
      exact ihw
  · intro k hlk hk ihk
    refine z_iload_n C dX7_digest_6 rfl (q := 0) rfl ?_
    refine z_bipush C dX7_digest_7 (v := nI 8) (by decide) ?_
    refine z_icmp_gt C dX7_digest_9 (tgt := 37) (by decide) (fun h9 => absurd h9 (nI_nlt (by omega) (by omega))) (fun h9 => ?_)
    refine z_iload_n C dX7_digest_12 rfl (q := 0) rfl ?_
    refine z_bipush C dX7_digest_13 (v := 6) (by decide) ?_
    refine z_icmp_eq C dX7_digest_15 (tgt := 31) (by decide) (fun h15 => ?_) (fun h15 => ?_)
    · have q15 := iv_eq (nI_toInt (by omega)) (show (6 : Int32).toInt = 6 from by decide) h15
      refine z_iinc C dX7_digest_31 (q := 0) rfl (v := nI (k + 1)) (nI_1 _) (by decide) (lv' := [(3, Value.int (nI (k + 1))), (1, Value.long (dg1 (fun k => countC c x (nI k)) k)), (0, Value.ref (a 0))]) rfl ?_
      refine z_goto C dX7_digest_34 (tgt := 6) (by decide) ?_
      rw [show dg1 (fun k => countC c x (nI k)) (k + 1) = dg1 (fun k => countC c x (nI k)) k from by rw [dg1]; exact if_pos (by omega)] at ihk
      exact ihk
    · have q15 := iv_ne (nI_toInt (by omega)) (show (6 : Int32).toInt = 6 from by decide) h15
      refine z_ldc2 C dX7_digest_18 (v := 31) (by decide +kernel) ?_
      refine z_lload_n C dX7_digest_21 rfl (q := 1) rfl ?_
      refine z_lmul C dX7_digest_22 (v := 31 * (dg1 (fun k => countC c x (nI k)) k)) rfl ?_
      refine z_aload_n C dX7_digest_23 rfl (q := 2) rfl ?_
      refine z_iload_n C dX7_digest_24 rfl (q := 0) rfl ?_
      refine z_pI C (z_runV C (As := [Value.int (nI k)]) (rest := [Value.long (31 * (dg1 (fun k => countC c x (nI k)) k))]) (c_X7_count l D cy a L c g r nl nk hL hR hI x hX (nI k)) (cwV 1 C.2.2.2.2.2.1 gX7_digest_X7_count rfl rfl rfl (by decide +kernel) ⟨Nat.le_of_ble_eq_true rfl, Nat.le_of_ble_eq_true rfl⟩) (hL _ (by unfold live; omega)) (zF_k7 (by rfl)) rfl rfl rfl rfl (Nat.le_of_ble_eq_true rfl) dX7_digest_25 ⟨Nat.zero_le _, Nat.zero_le _⟩) (fun v25 e25 => ?_)
      subst e25
      refine z_i2l C dX7_digest_28 (v := (countC c x (nI k)).toInt64) rfl ?_
      refine z_ladd C dX7_digest_29 (v := (31 * (dg1 (fun k => countC c x (nI k)) k)) + ((countC c x (nI k)).toInt64)) rfl ?_
      refine z_lstore_n C dX7_digest_30 rfl (by decide) (lv' := [(1, Value.long ((31 * (dg1 (fun k => countC c x (nI k)) k)) + ((countC c x (nI k)).toInt64))), (3, Value.int (nI k)), (0, Value.ref (a 0))]) rfl ?_
      refine z_iinc C dX7_digest_31 (q := 1) rfl (v := nI (k + 1)) (nI_1 _) (by decide) (lv' := [(3, Value.int (nI (k + 1))), (1, Value.long ((31 * (dg1 (fun k => countC c x (nI k)) k)) + ((countC c x (nI k)).toInt64))), (0, Value.ref (a 0))]) rfl ?_
      refine z_goto C dX7_digest_34 (tgt := 6) (by decide) ?_
      rw [show dg1 (fun k => countC c x (nI k)) (k + 1) = 31 * dg1 (fun k => countC c x (nI k)) k + (countC c x (nI k)).toInt64 from by rw [dg1]; exact if_neg (by omega)] at ihk
      exact ihk
