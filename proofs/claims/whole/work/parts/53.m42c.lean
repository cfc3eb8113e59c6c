set_option maxHeartbeats 4000000 in
set_option maxRecDepth 100000 in
theorem law_made {p : Program} {l : Launch} {e : Env} {s : State} {m : MethodId} {args : Array Value} {below : List Frame} {meth : Method} {co : Code} {D : va_G} {cy : Nat → ClassId} {A : Nat → Prop} {rt : Option FieldType} {Q : State → Prop} {b n i ce sl : Nat} {xs : Nat → Int32} {a : Nat → Nat} {L : List Nat} {c : Nat → Nat → Int32} {g : Nat → Nat → Int64} {r : Nat → Nat → Option Nat} {nl nk : Nat} {x : Nat → Nat → Nat} (C : zC p s m args meth co D cy A cL_law 4 rt wsL_law RL) (hSc : zScr b n xs s A) (hi : i + 6 ≤ n) (hc : ce + 2 ≤ room_1.cells) (hs : sl + 9 ≤ room_1.slots) (hV : INV L c r nl nk x) (kk : ∀ (a' : Nat → Nat) (L' : List Nat) (c' : Nat → Nat → Int32) (g' : Nat → Nat → Int64) (r' : Nat → Nat → Option Nat) (nl' nk' : Nat) (x' : Nat → Nat → Nat), INV L' c' r' nl' nk' x' → zG p l e room_1 s m args below meth co D cy A 4 Q (ce + 2) (sl + 9) a' L' c' g' r' [(3, Value.int (nI i)), (2, Value.ref (a' 300)), (1, Value.ref (a' 0)), (0, Value.ref b)] 1296 []) : zG p l e room_1 s m args below meth co D cy A 4 Q ce sl a L c g r [(3, Value.int (nI i)), (2, Value.ref (a 300)), (1, Value.ref (a 0)), (0, Value.ref b)] 734 [] := by
  have hn := hSc.2.2.2
  obtain ⟨hL, hR, hM, hI, hX, hK, hZ, hF, hG⟩ := id hV
  have hXl := XC_L hX
  have h16 := CI_nl16 hI
  have h40 := CI_nk40 hI
  refine z_aload_n C dL_law_734 rfl (q := 2) rfl ?_
  refine z_aload_n C dL_law_735 rfl (q := 3) rfl ?_
  refine z_iload_n C dL_law_736 rfl (q := 0) rfl ?_
  refine z_iconst C dL_law_737 (v := nI 1) (by decide) ?_
  refine z_iadd C dL_law_738 (v := nI (i + 1)) (nI_add i 1) ?_
  refine z_sld C hSc (j := i + 1) (by omega) dL_law_739 ?_
  refine z_aload_n C dL_law_740 rfl (q := 3) rfl ?_
  refine z_iload_n C dL_law_741 rfl (q := 0) rfl ?_
  refine z_iconst C dL_law_742 (v := nI 2) (by decide) ?_
  refine z_iadd C dL_law_743 (v := nI (i + 2)) (nI_add i 2) ?_
  refine z_sld C hSc (j := i + 2) (by omega) dL_law_744 ?_
  refine z_pI C (z_runV C (As := [Value.int (xs (i + 1)), Value.int (xs (i + 2))]) (rest := []) (c_X7_made l D cy a L c g r nl nk hL hR hI (xs (i + 1)) (xs (i + 2))) (cwV 2 C.2.2.2.2.2.1 gL_law_X7_made rfl rfl rfl (by decide +kernel) ⟨Nat.le_of_ble_eq_true rfl, Nat.le_of_ble_eq_true rfl⟩) (hL _ (by unfold live; omega)) (zF_k7 (by rfl)) rfl rfl rfl rfl (Nat.le_of_ble_eq_true rfl) dL_law_745 ⟨by omega, by omega⟩) (fun v745 e745 => ?_)
  have f1 : p7_made c nl nk x (xs (i + 1)) (xs (i + 2)) v745 := e745
  refine z_aload_n C dL_law_748 rfl (q := 1) rfl ?_
  refine z_aload_n C dL_law_749 rfl (q := 3) rfl ?_
  refine z_iload_n C dL_law_750 rfl (q := 0) rfl ?_
  refine z_iconst C dL_law_751 (v := nI 1) (by decide) ?_
  refine z_iadd C dL_law_752 (v := nI (i + 1)) (nI_add i 1) ?_
  refine z_sld C hSc (j := i + 1) (by omega) dL_law_753 ?_
  refine z_aload_n C dL_law_754 rfl (q := 3) rfl ?_
  refine z_iload_n C dL_law_755 rfl (q := 0) rfl ?_
  refine z_iconst C dL_law_756 (v := nI 2) (by decide) ?_
  refine z_iadd C dL_law_757 (v := nI (i + 2)) (nI_add i 2) ?_
  refine z_sld C hSc (j := i + 2) (by omega) dL_law_758 ?_
  refine z_pI C (z_runV C (As := [Value.int (xs (i + 1)), Value.int (xs (i + 2))]) (rest := [Value.int v745]) (c_X8_made l D cy a L c g r nl nk hL hM c hI x hXl hK (xs (i + 1)) (xs (i + 2))) (cwV 2 C.2.2.2.2.2.1 gL_law_X8_made rfl rfl rfl (by decide +kernel) ⟨Nat.le_of_ble_eq_true rfl, Nat.le_of_ble_eq_true rfl⟩) (hL _ (by unfold live; omega)) (zF_k8 (by rfl)) rfl rfl rfl rfl (Nat.le_of_ble_eq_true rfl) dL_law_759 ⟨by omega, by omega⟩) (fun v759 e759 => ?_)
  have f2 : p8_made c c nl nk x (xs (i + 1)) (xs (i + 2)) v759 := e759
  have heq : v745 = v759 := Eq.trans (show v745 = _ from f1) (Eq.symm (show v759 = _ from f2))
  have hV2 := hV
  refine z_icmp_eq C dL_law_762 (tgt := 1296) (by decide) (fun h762 => ?_) (fun h762 => absurd (heq) h762)
  refine z_widen (k := ce + 2) (n := sl + 9) (by omega) (by omega) ?_
  exact kk a L c g r _ _ _ hV2

set_option maxHeartbeats 4000000 in
set_option maxRecDepth 100000 in
theorem law_trace {p : Program} {l : Launch} {e : Env} {s : State} {m : MethodId} {args : Array Value} {below : List Frame} {meth : Method} {co : Code} {D : va_G} {cy : Nat → ClassId} {A : Nat → Prop} {rt : Option FieldType} {Q : State → Prop} {b n i ce sl : Nat} {xs : Nat → Int32} {a : Nat → Nat} {L : List Nat} {c : Nat → Nat → Int32} {g : Nat → Nat → Int64} {r : Nat → Nat → Option Nat} {nl nk : Nat} {x : Nat → Nat → Nat} (C : zC p s m args meth co D cy A cL_law 4 rt wsL_law RL) (hSc : zScr b n xs s A) (hi : i + 6 ≤ n) (hc : ce + 2 ≤ room_1.cells) (hs : sl + 9 ≤ room_1.slots) (hV : INV L c r nl nk x) (kk : ∀ (a' : Nat → Nat) (L' : List Nat) (c' : Nat → Nat → Int32) (g' : Nat → Nat → Int64) (r' : Nat → Nat → Option Nat) (nl' nk' : Nat) (x' : Nat → Nat → Nat), INV L' c' r' nl' nk' x' → zG p l e room_1 s m args below meth co D cy A 4 Q (ce + 2) (sl + 9) a' L' c' g' r' [(3, Value.int (nI i)), (2, Value.ref (a' 300)), (1, Value.ref (a' 0)), (0, Value.ref b)] 1296 []) : zG p l e room_1 s m args below meth co D cy A 4 Q ce sl a L c g r [(3, Value.int (nI i)), (2, Value.ref (a 300)), (1, Value.ref (a 0)), (0, Value.ref b)] 767 [] := by
  have hn := hSc.2.2.2
  obtain ⟨hL, hR, hM, hI, hX, hK, hZ, hF, hG⟩ := id hV
  have hXl := XC_L hX
  have h16 := CI_nl16 hI
  have h40 := CI_nk40 hI
  refine z_aload_n C dL_law_767 rfl (q := 2) rfl ?_
  refine z_aload_n C dL_law_768 rfl (q := 3) rfl ?_
  refine z_iload_n C dL_law_769 rfl (q := 0) rfl ?_
  refine z_iconst C dL_law_770 (v := nI 1) (by decide) ?_
  refine z_iadd C dL_law_771 (v := nI (i + 1)) (nI_add i 1) ?_
  refine z_sld C hSc (j := i + 1) (by omega) dL_law_772 ?_
  refine z_pI C (z_runV C (As := [Value.int (xs (i + 1))]) (rest := []) (c_X7_trace l D cy a L c g r nl nk hL hR hI (xs (i + 1))) (cwV 1 C.2.2.2.2.2.1 gL_law_X7_trace rfl rfl rfl (by decide +kernel) ⟨Nat.le_of_ble_eq_true rfl, Nat.le_of_ble_eq_true rfl⟩) (hL _ (by unfold live; omega)) (zF_k7 (by rfl)) rfl rfl rfl rfl (Nat.le_of_ble_eq_true rfl) dL_law_773 ⟨by omega, by omega⟩) (fun v773 e773 => ?_)
  have f1 : p7_trace c nl nk x (xs (i + 1)) v773 := e773
  refine z_aload_n C dL_law_776 rfl (q := 1) rfl ?_
  refine z_aload_n C dL_law_777 rfl (q := 3) rfl ?_
  refine z_iload_n C dL_law_778 rfl (q := 0) rfl ?_
  refine z_iconst C dL_law_779 (v := nI 1) (by decide) ?_
  refine z_iadd C dL_law_780 (v := nI (i + 1)) (nI_add i 1) ?_
  refine z_sld C hSc (j := i + 1) (by omega) dL_law_781 ?_
  refine z_pI C (z_runV C (As := [Value.int (xs (i + 1))]) (rest := [Value.int v773]) (c_X8_trace l D cy a L c g r nl nk hL hM c hI x hXl hK (xs (i + 1))) (cwV 1 C.2.2.2.2.2.1 gL_law_X8_trace rfl rfl rfl (by decide +kernel) ⟨Nat.le_of_ble_eq_true rfl, Nat.le_of_ble_eq_true rfl⟩) (hL _ (by unfold live; omega)) (zF_k8 (by rfl)) rfl rfl rfl rfl (Nat.le_of_ble_eq_true rfl) dL_law_782 ⟨by omega, by omega⟩) (fun v782 e782 => ?_)
  have f2 : p8_trace c c nl nk x (xs (i + 1)) v782 := e782
  have heq := op_trace f1 f2
  have hV2 := hV
  refine z_icmp_eq C dL_law_785 (tgt := 1296) (by decide) (fun h785 => ?_) (fun h785 => absurd (heq) h785)
  refine z_widen (k := ce + 2) (n := sl + 9) (by omega) (by omega) ?_
  exact kk a L c g r _ _ _ hV2

set_option maxHeartbeats 4000000 in
set_option maxRecDepth 100000 in
theorem law_recall {p : Program} {l : Launch} {e : Env} {s : State} {m : MethodId} {args : Array Value} {below : List Frame} {meth : Method} {co : Code} {D : va_G} {cy : Nat → ClassId} {A : Nat → Prop} {rt : Option FieldType} {Q : State → Prop} {b n i ce sl : Nat} {xs : Nat → Int32} {a : Nat → Nat} {L : List Nat} {c : Nat → Nat → Int32} {g : Nat → Nat → Int64} {r : Nat → Nat → Option Nat} {nl nk : Nat} {x : Nat → Nat → Nat} (C : zC p s m args meth co D cy A cL_law 4 rt wsL_law RL) (hSc : zScr b n xs s A) (hi : i + 6 ≤ n) (hc : ce + 2 ≤ room_1.cells) (hs : sl + 9 ≤ room_1.slots) (hV : INV L c r nl nk x) (kk : ∀ (a' : Nat → Nat) (L' : List Nat) (c' : Nat → Nat → Int32) (g' : Nat → Nat → Int64) (r' : Nat → Nat → Option Nat) (nl' nk' : Nat) (x' : Nat → Nat → Nat), INV L' c' r' nl' nk' x' → zG p l e room_1 s m args below meth co D cy A 4 Q (ce + 2) (sl + 9) a' L' c' g' r' [(3, Value.int (nI i)), (2, Value.ref (a' 300)), (1, Value.ref (a' 0)), (0, Value.ref b)] 1296 []) : zG p l e room_1 s m args below meth co D cy A 4 Q ce sl a L c g r [(3, Value.int (nI i)), (2, Value.ref (a 300)), (1, Value.ref (a 0)), (0, Value.ref b)] 790 [] := by
  have hn := hSc.2.2.2
  obtain ⟨hL, hR, hM, hI, hX, hK, hZ, hF, hG⟩ := id hV
  have hXl := XC_L hX
  have h16 := CI_nl16 hI
  have h40 := CI_nk40 hI
  refine z_aload_n C dL_law_790 rfl (q := 2) rfl ?_
  refine z_aload_n C dL_law_791 rfl (q := 3) rfl ?_
  refine z_iload_n C dL_law_792 rfl (q := 0) rfl ?_
  refine z_iconst C dL_law_793 (v := nI 1) (by decide) ?_
  refine z_iadd C dL_law_794 (v := nI (i + 1)) (nI_add i 1) ?_
  refine z_sld C hSc (j := i + 1) (by omega) dL_law_795 ?_
  refine z_aload_n C dL_law_796 rfl (q := 3) rfl ?_
  refine z_iload_n C dL_law_797 rfl (q := 0) rfl ?_
  refine z_iconst C dL_law_798 (v := nI 2) (by decide) ?_
  refine z_iadd C dL_law_799 (v := nI (i + 2)) (nI_add i 2) ?_
  refine z_sld C hSc (j := i + 2) (by omega) dL_law_800 ?_
  refine z_aload_n C dL_law_801 rfl (q := 3) rfl ?_
  refine z_iload_n C dL_law_802 rfl (q := 0) rfl ?_
  refine z_iconst C dL_law_803 (v := nI 3) (by decide) ?_
  refine z_iadd C dL_law_804 (v := nI (i + 3)) (nI_add i 3) ?_
  refine z_sld C hSc (j := i + 3) (by omega) dL_law_805 ?_
  refine z_pI C (z_runV C (As := [Value.int (xs (i + 1)), Value.int (xs (i + 2)), Value.int (xs (i + 3))]) (rest := []) (c_X7_recall l D cy a L c g r nl nk hL hR hI (xs (i + 1)) (xs (i + 2)) (xs (i + 3))) (cwV 3 C.2.2.2.2.2.1 gL_law_X7_recall rfl rfl rfl (by decide +kernel) ⟨Nat.le_of_ble_eq_true rfl, Nat.le_of_ble_eq_true rfl⟩) (hL _ (by unfold live; omega)) (zF_k7 (by rfl)) rfl rfl rfl rfl (Nat.le_of_ble_eq_true rfl) dL_law_806 ⟨by omega, by omega⟩) (fun v806 e806 => ?_)
  have f1 : p7_recall c nl nk x (xs (i + 1)) (xs (i + 2)) (xs (i + 3)) v806 := e806
  refine z_aload_n C dL_law_809 rfl (q := 1) rfl ?_
  refine z_aload_n C dL_law_810 rfl (q := 3) rfl ?_
  refine z_iload_n C dL_law_811 rfl (q := 0) rfl ?_
  refine z_iconst C dL_law_812 (v := nI 1) (by decide) ?_
  refine z_iadd C dL_law_813 (v := nI (i + 1)) (nI_add i 1) ?_
  refine z_sld C hSc (j := i + 1) (by omega) dL_law_814 ?_
  refine z_aload_n C dL_law_815 rfl (q := 3) rfl ?_
  refine z_iload_n C dL_law_816 rfl (q := 0) rfl ?_
  refine z_iconst C dL_law_817 (v := nI 2) (by decide) ?_
  refine z_iadd C dL_law_818 (v := nI (i + 2)) (nI_add i 2) ?_
  refine z_sld C hSc (j := i + 2) (by omega) dL_law_819 ?_
  refine z_aload_n C dL_law_820 rfl (q := 3) rfl ?_
  refine z_iload_n C dL_law_821 rfl (q := 0) rfl ?_
  refine z_iconst C dL_law_822 (v := nI 3) (by decide) ?_
  refine z_iadd C dL_law_823 (v := nI (i + 3)) (nI_add i 3) ?_
  refine z_sld C hSc (j := i + 3) (by omega) dL_law_824 ?_
  refine z_pI C (z_runV C (As := [Value.int (xs (i + 1)), Value.int (xs (i + 2)), Value.int (xs (i + 3))]) (rest := [Value.int v806]) (c_X8_recall l D cy a L c g r nl nk hL hM c hI x hXl hK (xs (i + 1)) (xs (i + 2)) (xs (i + 3))) (cwV 3 C.2.2.2.2.2.1 gL_law_X8_recall rfl rfl rfl (by decide +kernel) ⟨Nat.le_of_ble_eq_true rfl, Nat.le_of_ble_eq_true rfl⟩) (hL _ (by unfold live; omega)) (zF_k8 (by rfl)) rfl rfl rfl rfl (Nat.le_of_ble_eq_true rfl) dL_law_825 ⟨by omega, by omega⟩) (fun v825 e825 => ?_)
  have f2 : p8_recall c c nl nk x (xs (i + 1)) (xs (i + 2)) (xs (i + 3)) v825 := e825
  have heq : v806 = v825 := Eq.trans (show v806 = _ from f1) (Eq.symm (show v825 = _ from f2))
  have hV2 := hV
  refine z_icmp_eq C dL_law_828 (tgt := 1296) (by decide) (fun h828 => ?_) (fun h828 => absurd (heq) h828)
  refine z_widen (k := ce + 2) (n := sl + 9) (by omega) (by omega) ?_
  exact kk a L c g r _ _ _ hV2

set_option maxHeartbeats 4000000 in
set_option maxRecDepth 100000 in
theorem law_foretold {p : Program} {l : Launch} {e : Env} {s : State} {m : MethodId} {args : Array Value} {below : List Frame} {meth : Method} {co : Code} {D : va_G} {cy : Nat → ClassId} {A : Nat → Prop} {rt : Option FieldType} {Q : State → Prop} {b n i ce sl : Nat} {xs : Nat → Int32} {a : Nat → Nat} {L : List Nat} {c : Nat → Nat → Int32} {g : Nat → Nat → Int64} {r : Nat → Nat → Option Nat} {nl nk : Nat} {x : Nat → Nat → Nat} (C : zC p s m args meth co D cy A cL_law 4 rt wsL_law RL) (hSc : zScr b n xs s A) (hi : i + 6 ≤ n) (hc : ce + 2 ≤ room_1.cells) (hs : sl + 9 ≤ room_1.slots) (hV : INV L c r nl nk x) (kk : ∀ (a' : Nat → Nat) (L' : List Nat) (c' : Nat → Nat → Int32) (g' : Nat → Nat → Int64) (r' : Nat → Nat → Option Nat) (nl' nk' : Nat) (x' : Nat → Nat → Nat), INV L' c' r' nl' nk' x' → zG p l e room_1 s m args below meth co D cy A 4 Q (ce + 2) (sl + 9) a' L' c' g' r' [(3, Value.int (nI i)), (2, Value.ref (a' 300)), (1, Value.ref (a' 0)), (0, Value.ref b)] 1296 []) : zG p l e room_1 s m args below meth co D cy A 4 Q ce sl a L c g r [(3, Value.int (nI i)), (2, Value.ref (a 300)), (1, Value.ref (a 0)), (0, Value.ref b)] 833 [] := by
  have hn := hSc.2.2.2
  obtain ⟨hL, hR, hM, hI, hX, hK, hZ, hF, hG⟩ := id hV
  have hXl := XC_L hX
  have h16 := CI_nl16 hI
  have h40 := CI_nk40 hI
  refine z_aload_n C dL_law_833 rfl (q := 2) rfl ?_
  refine z_aload_n C dL_law_834 rfl (q := 3) rfl ?_
  refine z_iload_n C dL_law_835 rfl (q := 0) rfl ?_
  refine z_iconst C dL_law_836 (v := nI 1) (by decide) ?_
  refine z_iadd C dL_law_837 (v := nI (i + 1)) (nI_add i 1) ?_
  refine z_sld C hSc (j := i + 1) (by omega) dL_law_838 ?_
  refine z_pI C (z_runV C (As := [Value.int (xs (i + 1))]) (rest := []) (c_X7_foretold l D cy a L c g r nl nk hL hR hI (xs (i + 1))) (cwV 1 C.2.2.2.2.2.1 gL_law_X7_foretold rfl rfl rfl (by decide +kernel) ⟨Nat.le_of_ble_eq_true rfl, Nat.le_of_ble_eq_true rfl⟩) (hL _ (by unfold live; omega)) (zF_k7 (by rfl)) rfl rfl rfl rfl (Nat.le_of_ble_eq_true rfl) dL_law_839 ⟨by omega, by omega⟩) (fun v839 e839 => ?_)
  have f1 : p7_foretold c nl nk x (xs (i + 1)) v839 := e839
  refine z_aload_n C dL_law_842 rfl (q := 1) rfl ?_
  refine z_aload_n C dL_law_843 rfl (q := 3) rfl ?_
  refine z_iload_n C dL_law_844 rfl (q := 0) rfl ?_
  refine z_iconst C dL_law_845 (v := nI 1) (by decide) ?_
  refine z_iadd C dL_law_846 (v := nI (i + 1)) (nI_add i 1) ?_
  refine z_sld C hSc (j := i + 1) (by omega) dL_law_847 ?_
  refine z_pI C (z_runV C (As := [Value.int (xs (i + 1))]) (rest := [Value.int v839]) (c_X8_foretold l D cy a L c g r nl nk hL hM c hI x hXl hK (xs (i + 1))) (cwV 1 C.2.2.2.2.2.1 gL_law_X8_foretold rfl rfl rfl (by decide +kernel) ⟨Nat.le_of_ble_eq_true rfl, Nat.le_of_ble_eq_true rfl⟩) (hL _ (by unfold live; omega)) (zF_k8 (by rfl)) rfl rfl rfl rfl (Nat.le_of_ble_eq_true rfl) dL_law_848 ⟨by omega, by omega⟩) (fun v848 e848 => ?_)
  have f2 : p8_foretold c c nl nk x (xs (i + 1)) v848 := e848
  have heq : v839 = v848 := Eq.trans (show v839 = _ from f1) (Eq.symm (show v848 = _ from f2))
  have hV2 := hV
  refine z_icmp_eq C dL_law_851 (tgt := 1296) (by decide) (fun h851 => ?_) (fun h851 => absurd (heq) h851)
  refine z_widen (k := ce + 2) (n := sl + 9) (by omega) (by omega) ?_
  exact kk a L c g r _ _ _ hV2

set_option maxHeartbeats 4000000 in
set_option maxRecDepth 100000 in
theorem law_damp {p : Program} {l : Launch} {e : Env} {s : State} {m : MethodId} {args : Array Value} {below : List Frame} {meth : Method} {co : Code} {D : va_G} {cy : Nat → ClassId} {A : Nat → Prop} {rt : Option FieldType} {Q : State → Prop} {b n i ce sl : Nat} {xs : Nat → Int32} {a : Nat → Nat} {L : List Nat} {c : Nat → Nat → Int32} {g : Nat → Nat → Int64} {r : Nat → Nat → Option Nat} {nl nk : Nat} {x : Nat → Nat → Nat} (C : zC p s m args meth co D cy A cL_law 4 rt wsL_law RL) (hSc : zScr b n xs s A) (hi : i + 6 ≤ n) (hc : ce + 2 ≤ room_1.cells) (hs : sl + 9 ≤ room_1.slots) (hV : INV L c r nl nk x) (kk : ∀ (a' : Nat → Nat) (L' : List Nat) (c' : Nat → Nat → Int32) (g' : Nat → Nat → Int64) (r' : Nat → Nat → Option Nat) (nl' nk' : Nat) (x' : Nat → Nat → Nat), INV L' c' r' nl' nk' x' → zG p l e room_1 s m args below meth co D cy A 4 Q (ce + 2) (sl + 9) a' L' c' g' r' [(3, Value.int (nI i)), (2, Value.ref (a' 300)), (1, Value.ref (a' 0)), (0, Value.ref b)] 1296 []) : zG p l e room_1 s m args below meth co D cy A 4 Q ce sl a L c g r [(3, Value.int (nI i)), (2, Value.ref (a 300)), (1, Value.ref (a 0)), (0, Value.ref b)] 856 [] := by
  have hn := hSc.2.2.2
  obtain ⟨hL, hR, hM, hI, hX, hK, hZ, hF, hG⟩ := id hV
  have hXl := XC_L hX
  have h16 := CI_nl16 hI
  have h40 := CI_nk40 hI
  refine z_aload_n C dL_law_856 rfl (q := 2) rfl ?_
  refine z_aload_n C dL_law_857 rfl (q := 3) rfl ?_
  refine z_iload_n C dL_law_858 rfl (q := 0) rfl ?_
  refine z_iconst C dL_law_859 (v := nI 1) (by decide) ?_
  refine z_iadd C dL_law_860 (v := nI (i + 1)) (nI_add i 1) ?_
  refine z_sld C hSc (j := i + 1) (by omega) dL_law_861 ?_
  refine z_aload_n C dL_law_862 rfl (q := 3) rfl ?_
  refine z_iload_n C dL_law_863 rfl (q := 0) rfl ?_
  refine z_iconst C dL_law_864 (v := nI 2) (by decide) ?_
  refine z_iadd C dL_law_865 (v := nI (i + 2)) (nI_add i 2) ?_
  refine z_sld C hSc (j := i + 2) (by omega) dL_law_866 ?_
  refine z_if_eq C dL_law_867 (tgt := 874) (by decide) (fun h867 => ?_) (fun h867 => ?_)
  · have q867 := iv_eq (y := 0) rfl (show (0 : Int32).toInt = 0 from by decide) h867
    refine z_iconst C dL_law_874 (v := nI 0) (by decide) ?_
    refine z_cI C (z_runV C (As := [Value.int (xs (i + 1)), Value.int (nI 0)]) (rest := []) (c_X7_damp l D cy a L c g r nl nk hL hR hI (xs (i + 1)) (nI 0) (Or.inl rfl)) (cwV 2 C.2.2.2.2.2.1 gL_law_X7_damp rfl rfl rfl (by decide +kernel) ⟨Nat.le_of_ble_eq_true rfl, Nat.le_of_ble_eq_true rfl⟩) (hL _ (by unfold live; omega)) (zF_k7 (by rfl)) rfl rfl rfl rfl (Nat.le_of_ble_eq_true rfl) dL_law_875 ⟨by omega, by omega⟩) (fun v875 c875 e875 => ?_)
    have f1 : p7_damp c nl nk x (xs (i + 1)) (nI 0) v875 c875 := e875
    have hK1 := LK_s (lks_hi (opA_damp hV f1)) hK
    refine z_aload_n C dL_law_878 rfl (q := 1) rfl ?_
    refine z_aload_n C dL_law_879 rfl (q := 3) rfl ?_
    refine z_iload_n C dL_law_880 rfl (q := 0) rfl ?_
    refine z_iconst C dL_law_881 (v := nI 1) (by decide) ?_
    refine z_iadd C dL_law_882 (v := nI (i + 1)) (nI_add i 1) ?_
    refine z_sld C hSc (j := i + 1) (by omega) dL_law_883 ?_
    refine z_aload_n C dL_law_884 rfl (q := 3) rfl ?_
    refine z_iload_n C dL_law_885 rfl (q := 0) rfl ?_
    refine z_iconst C dL_law_886 (v := nI 2) (by decide) ?_
    refine z_iadd C dL_law_887 (v := nI (i + 2)) (nI_add i 2) ?_
    refine z_sld C hSc (j := i + 2) (by omega) dL_law_888 ?_
    refine z_if_eq C dL_law_889 (tgt := 896) (by decide) (fun h889 => ?_) (fun h889 => absurd (h867) h889)
    refine z_iconst C dL_law_896 (v := nI 0) (by decide) ?_
    refine z_cI C (z_runV C (As := [Value.int (xs (i + 1)), Value.int (nI 0)]) (rest := [Value.int v875]) (c_X8_damp l D cy a L c875 g r nl nk hL hM c hI x hXl hK1 (xs (i + 1)) (nI 0) (Or.inl rfl)) (cwV 2 C.2.2.2.2.2.1 gL_law_X8_damp rfl rfl rfl (by decide +kernel) ⟨Nat.le_of_ble_eq_true rfl, Nat.le_of_ble_eq_true rfl⟩) (hL _ (by unfold live; omega)) (zF_k8 (by rfl)) rfl rfl rfl rfl (Nat.le_of_ble_eq_true rfl) dL_law_897 ⟨by omega, by omega⟩) (fun v897 c897 e897 => ?_)
    have f2 : p8_damp c875 c nl nk x (xs (i + 1)) (nI 0) v897 c897 := e897
    obtain ⟨heq, hV2⟩ := opB_damp hV (Or.inl rfl) f1 f2
    refine z_icmp_eq C dL_law_900 (tgt := 1296) (by decide) (fun h900 => ?_) (fun h900 => absurd (heq) h900)
    refine z_widen (k := ce + 2) (n := sl + 9) (by omega) (by omega) ?_
    exact kk a L c897 g r _ _ _ hV2
  · have q867 := iv_ne (y := 0) rfl (show (0 : Int32).toInt = 0 from by decide) h867
    refine z_iconst C dL_law_870 (v := nI 1) (by decide) ?_
    refine z_goto C dL_law_871 (tgt := 875) (by decide) ?_
    refine z_cI C (z_runV C (As := [Value.int (xs (i + 1)), Value.int (nI 1)]) (rest := []) (c_X7_damp l D cy a L c g r nl nk hL hR hI (xs (i + 1)) (nI 1) (Or.inr rfl)) (cwV 2 C.2.2.2.2.2.1 gL_law_X7_damp rfl rfl rfl (by decide +kernel) ⟨Nat.le_of_ble_eq_true rfl, Nat.le_of_ble_eq_true rfl⟩) (hL _ (by unfold live; omega)) (zF_k7 (by rfl)) rfl rfl rfl rfl (Nat.le_of_ble_eq_true rfl) dL_law_875 ⟨by omega, by omega⟩) (fun v875 c875 e875 => ?_)
    have f1 : p7_damp c nl nk x (xs (i + 1)) (nI 1) v875 c875 := e875
    have hK1 := LK_s (lks_hi (opA_damp hV f1)) hK
    refine z_aload_n C dL_law_878 rfl (q := 1) rfl ?_
    refine z_aload_n C dL_law_879 rfl (q := 3) rfl ?_
    refine z_iload_n C dL_law_880 rfl (q := 0) rfl ?_
    refine z_iconst C dL_law_881 (v := nI 1) (by decide) ?_
    refine z_iadd C dL_law_882 (v := nI (i + 1)) (nI_add i 1) ?_
    refine z_sld C hSc (j := i + 1) (by omega) dL_law_883 ?_
    refine z_aload_n C dL_law_884 rfl (q := 3) rfl ?_
    refine z_iload_n C dL_law_885 rfl (q := 0) rfl ?_
    refine z_iconst C dL_law_886 (v := nI 2) (by decide) ?_
    refine z_iadd C dL_law_887 (v := nI (i + 2)) (nI_add i 2) ?_
    refine z_sld C hSc (j := i + 2) (by omega) dL_law_888 ?_
    refine z_if_eq C dL_law_889 (tgt := 896) (by decide) (fun h889 => absurd h889 (h867)) (fun h889 => ?_)
    refine z_iconst C dL_law_892 (v := nI 1) (by decide) ?_
    refine z_goto C dL_law_893 (tgt := 897) (by decide) ?_
    refine z_cI C (z_runV C (As := [Value.int (xs (i + 1)), Value.int (nI 1)]) (rest := [Value.int v875]) (c_X8_damp l D cy a L c875 g r nl nk hL hM c hI x hXl hK1 (xs (i + 1)) (nI 1) (Or.inr rfl)) (cwV 2 C.2.2.2.2.2.1 gL_law_X8_damp rfl rfl rfl (by decide +kernel) ⟨Nat.le_of_ble_eq_true rfl, Nat.le_of_ble_eq_true rfl⟩) (hL _ (by unfold live; omega)) (zF_k8 (by rfl)) rfl rfl rfl rfl (Nat.le_of_ble_eq_true rfl) dL_law_897 ⟨by omega, by omega⟩) (fun v897 c897 e897 => ?_)
    have f2 : p8_damp c875 c nl nk x (xs (i + 1)) (nI 1) v897 c897 := e897
    obtain ⟨heq, hV2⟩ := opB_damp hV (Or.inr rfl) f1 f2
    refine z_icmp_eq C dL_law_900 (tgt := 1296) (by decide) (fun h900 => ?_) (fun h900 => absurd (heq) h900)
    refine z_widen (k := ce + 2) (n := sl + 9) (by omega) (by omega) ?_
    exact kk a L c897 g r _ _ _ hV2

set_option maxHeartbeats 4000000 in
set_option maxRecDepth 100000 in
theorem law_make {p : Program} {l : Launch} {e : Env} {s : State} {m : MethodId} {args : Array Value} {below : List Frame} {meth : Method} {co : Code} {D : va_G} {cy : Nat → ClassId} {A : Nat → Prop} {rt : Option FieldType} {Q : State → Prop} {b n i ce sl : Nat} {xs : Nat → Int32} {a : Nat → Nat} {L : List Nat} {c : Nat → Nat → Int32} {g : Nat → Nat → Int64} {r : Nat → Nat → Option Nat} {nl nk : Nat} {x : Nat → Nat → Nat} (C : zC p s m args meth co D cy A cL_law 4 rt wsL_law RL) (hSc : zScr b n xs s A) (hi : i + 6 ≤ n) (hc : ce + 2 ≤ room_1.cells) (hs : sl + 9 ≤ room_1.slots) (hV : INV L c r nl nk x) (kk : ∀ (a' : Nat → Nat) (L' : List Nat) (c' : Nat → Nat → Int32) (g' : Nat → Nat → Int64) (r' : Nat → Nat → Option Nat) (nl' nk' : Nat) (x' : Nat → Nat → Nat), INV L' c' r' nl' nk' x' → zG p l e room_1 s m args below meth co D cy A 4 Q (ce + 2) (sl + 9) a' L' c' g' r' [(3, Value.int (nI i)), (2, Value.ref (a' 300)), (1, Value.ref (a' 0)), (0, Value.ref b)] 1296 []) : zG p l e room_1 s m args below meth co D cy A 4 Q ce sl a L c g r [(3, Value.int (nI i)), (2, Value.ref (a 300)), (1, Value.ref (a 0)), (0, Value.ref b)] 905 [] := by
  have hn := hSc.2.2.2
  obtain ⟨hL, hR, hM, hI, hX, hK, hZ, hF, hG⟩ := id hV
  have hXl := XC_L hX
  have h16 := CI_nl16 hI
  have h40 := CI_nk40 hI
  refine z_aload_n C dL_law_905 rfl (q := 2) rfl ?_
  refine z_aload_n C dL_law_906 rfl (q := 3) rfl ?_
  refine z_iload_n C dL_law_907 rfl (q := 0) rfl ?_
  refine z_iconst C dL_law_908 (v := nI 1) (by decide) ?_
  refine z_iadd C dL_law_909 (v := nI (i + 1)) (nI_add i 1) ?_
  refine z_sld C hSc (j := i + 1) (by omega) dL_law_910 ?_
  refine z_aload_n C dL_law_911 rfl (q := 3) rfl ?_
  refine z_iload_n C dL_law_912 rfl (q := 0) rfl ?_
  refine z_iconst C dL_law_913 (v := nI 2) (by decide) ?_
  refine z_iadd C dL_law_914 (v := nI (i + 2)) (nI_add i 2) ?_
  refine z_sld C hSc (j := i + 2) (by omega) dL_law_915 ?_
  refine z_cI C (z_runV C (As := [Value.int (xs (i + 1)), Value.int (xs (i + 2))]) (rest := []) (c_X7_make l D cy a L c g r nl nk hL hR hI (xs (i + 1)) (xs (i + 2))) (cwV 2 C.2.2.2.2.2.1 gL_law_X7_make rfl rfl rfl (by decide +kernel) ⟨Nat.le_of_ble_eq_true rfl, Nat.le_of_ble_eq_true rfl⟩) (hL _ (by unfold live; omega)) (zF_k7 (by rfl)) rfl rfl rfl rfl (Nat.le_of_ble_eq_true rfl) dL_law_916 ⟨by omega, by omega⟩) (fun v916 c916 e916 => ?_)
  have f1 : p7_make c nl nk x (xs (i + 1)) (xs (i + 2)) v916 c916 := e916
  have hK1 := LK_s (lks_hi (opA_make hV f1)) hK
  refine z_aload_n C dL_law_919 rfl (q := 1) rfl ?_
  refine z_aload_n C dL_law_920 rfl (q := 3) rfl ?_
  refine z_iload_n C dL_law_921 rfl (q := 0) rfl ?_
  refine z_iconst C dL_law_922 (v := nI 1) (by decide) ?_
  refine z_iadd C dL_law_923 (v := nI (i + 1)) (nI_add i 1) ?_
  refine z_sld C hSc (j := i + 1) (by omega) dL_law_924 ?_
  refine z_aload_n C dL_law_925 rfl (q := 3) rfl ?_
  refine z_iload_n C dL_law_926 rfl (q := 0) rfl ?_
  refine z_iconst C dL_law_927 (v := nI 2) (by decide) ?_
  refine z_iadd C dL_law_928 (v := nI (i + 2)) (nI_add i 2) ?_
  refine z_sld C hSc (j := i + 2) (by omega) dL_law_929 ?_
  refine z_cI C (z_runV C (As := [Value.int (xs (i + 1)), Value.int (xs (i + 2))]) (rest := [Value.int v916]) (c_X8_make l D cy a L c916 g r nl nk hL hM c hI x hXl hK1 (xs (i + 1)) (xs (i + 2))) (cwV 2 C.2.2.2.2.2.1 gL_law_X8_make rfl rfl rfl (by decide +kernel) ⟨Nat.le_of_ble_eq_true rfl, Nat.le_of_ble_eq_true rfl⟩) (hL _ (by unfold live; omega)) (zF_k8 (by rfl)) rfl rfl rfl rfl (Nat.le_of_ble_eq_true rfl) dL_law_930 ⟨by omega, by omega⟩) (fun v930 c930 e930 => ?_)
  have f2 : p8_make c916 c nl nk x (xs (i + 1)) (xs (i + 2)) v930 c930 := e930
  obtain ⟨heq, hV2⟩ := opB_make hV f1 f2
  refine z_icmp_eq C dL_law_933 (tgt := 1296) (by decide) (fun h933 => ?_) (fun h933 => absurd (heq) h933)
  refine z_widen (k := ce + 2) (n := sl + 9) (by omega) (by omega) ?_
  exact kk a L c930 g r _ _ _ hV2

set_option maxHeartbeats 4000000 in
set_option maxRecDepth 100000 in
theorem law_stock {p : Program} {l : Launch} {e : Env} {s : State} {m : MethodId} {args : Array Value} {below : List Frame} {meth : Method} {co : Code} {D : va_G} {cy : Nat → ClassId} {A : Nat → Prop} {rt : Option FieldType} {Q : State → Prop} {b n i ce sl : Nat} {xs : Nat → Int32} {a : Nat → Nat} {L : List Nat} {c : Nat → Nat → Int32} {g : Nat → Nat → Int64} {r : Nat → Nat → Option Nat} {nl nk : Nat} {x : Nat → Nat → Nat} (C : zC p s m args meth co D cy A cL_law 4 rt wsL_law RL) (hSc : zScr b n xs s A) (hi : i + 6 ≤ n) (hc : ce + 2 ≤ room_1.cells) (hs : sl + 9 ≤ room_1.slots) (hV : INV L c r nl nk x) (kk : ∀ (a' : Nat → Nat) (L' : List Nat) (c' : Nat → Nat → Int32) (g' : Nat → Nat → Int64) (r' : Nat → Nat → Option Nat) (nl' nk' : Nat) (x' : Nat → Nat → Nat), INV L' c' r' nl' nk' x' → zG p l e room_1 s m args below meth co D cy A 4 Q (ce + 2) (sl + 9) a' L' c' g' r' [(3, Value.int (nI i)), (2, Value.ref (a' 300)), (1, Value.ref (a' 0)), (0, Value.ref b)] 1296 []) : zG p l e room_1 s m args below meth co D cy A 4 Q ce sl a L c g r [(3, Value.int (nI i)), (2, Value.ref (a 300)), (1, Value.ref (a 0)), (0, Value.ref b)] 938 [] := by
  have hn := hSc.2.2.2
  obtain ⟨hL, hR, hM, hI, hX, hK, hZ, hF, hG⟩ := id hV
  have hXl := XC_L hX
  have h16 := CI_nl16 hI
  have h40 := CI_nk40 hI
  refine z_aload_n C dL_law_938 rfl (q := 2) rfl ?_
  refine z_aload_n C dL_law_939 rfl (q := 3) rfl ?_
  refine z_iload_n C dL_law_940 rfl (q := 0) rfl ?_
  refine z_iconst C dL_law_941 (v := nI 1) (by decide) ?_
  refine z_iadd C dL_law_942 (v := nI (i + 1)) (nI_add i 1) ?_
  refine z_sld C hSc (j := i + 1) (by omega) dL_law_943 ?_
  refine z_aload_n C dL_law_944 rfl (q := 3) rfl ?_
  refine z_iload_n C dL_law_945 rfl (q := 0) rfl ?_
  refine z_iconst C dL_law_946 (v := nI 2) (by decide) ?_
  refine z_iadd C dL_law_947 (v := nI (i + 2)) (nI_add i 2) ?_
  refine z_sld C hSc (j := i + 2) (by omega) dL_law_948 ?_
  refine z_aload_n C dL_law_949 rfl (q := 3) rfl ?_
  refine z_iload_n C dL_law_950 rfl (q := 0) rfl ?_
  refine z_iconst C dL_law_951 (v := nI 3) (by decide) ?_
  refine z_iadd C dL_law_952 (v := nI (i + 3)) (nI_add i 3) ?_
  refine z_sld C hSc (j := i + 3) (by omega) dL_law_953 ?_
  refine z_aload_n C dL_law_954 rfl (q := 3) rfl ?_
  refine z_iload_n C dL_law_955 rfl (q := 0) rfl ?_
  refine z_iconst C dL_law_956 (v := nI 4) (by decide) ?_
  refine z_iadd C dL_law_957 (v := nI (i + 4)) (nI_add i 4) ?_
  refine z_sld C hSc (j := i + 4) (by omega) dL_law_958 ?_
  refine z_xI C (z_runV C (As := [Value.int (xs (i + 1)), Value.int (xs (i + 2)), Value.int (xs (i + 3)), Value.int (xs (i + 4))]) (rest := []) (c_X7_stock l D cy a L c g r nl nk hL hR hI (xs (i + 1)) (xs (i + 2)) (xs (i + 3)) (xs (i + 4))) (cwV 4 C.2.2.2.2.2.1 gL_law_X7_stock rfl rfl rfl (by decide +kernel) ⟨Nat.le_of_ble_eq_true rfl, Nat.le_of_ble_eq_true rfl⟩) (hL _ (by unfold live; omega)) (zF_k7 (by rfl)) rfl rfl rfl rfl (Nat.le_of_ble_eq_true rfl) dL_law_959 ⟨by omega, by omega⟩) (fun v959 ω959 e959 => ?_)
  have f1 : p7_stock a L c g r nl nk x (xs (i + 1)) (xs (i + 2)) (xs (i + 3)) (xs (i + 4)) v959 ω959 := e959
  obtain ⟨c1, g1, hω, hc10, hv1⟩ := opA_stock f1
  subst hω
  dsimp only
  have hK1 := LK_s (lks_hi (fun k hk => hc10 k (by omega))) hK
  refine z_aload_n C dL_law_962 rfl (q := 1) rfl ?_
  refine z_aload_n C dL_law_963 rfl (q := 3) rfl ?_
  refine z_iload_n C dL_law_964 rfl (q := 0) rfl ?_
  refine z_iconst C dL_law_965 (v := nI 1) (by decide) ?_
  refine z_iadd C dL_law_966 (v := nI (i + 1)) (nI_add i 1) ?_
  refine z_sld C hSc (j := i + 1) (by omega) dL_law_967 ?_
  refine z_aload_n C dL_law_968 rfl (q := 3) rfl ?_
  refine z_iload_n C dL_law_969 rfl (q := 0) rfl ?_
  refine z_iconst C dL_law_970 (v := nI 2) (by decide) ?_
  refine z_iadd C dL_law_971 (v := nI (i + 2)) (nI_add i 2) ?_
  refine z_sld C hSc (j := i + 2) (by omega) dL_law_972 ?_
  refine z_aload_n C dL_law_973 rfl (q := 3) rfl ?_
  refine z_iload_n C dL_law_974 rfl (q := 0) rfl ?_
  refine z_iconst C dL_law_975 (v := nI 3) (by decide) ?_
  refine z_iadd C dL_law_976 (v := nI (i + 3)) (nI_add i 3) ?_
  refine z_sld C hSc (j := i + 3) (by omega) dL_law_977 ?_
  refine z_aload_n C dL_law_978 rfl (q := 3) rfl ?_
  refine z_iload_n C dL_law_979 rfl (q := 0) rfl ?_
  refine z_iconst C dL_law_980 (v := nI 4) (by decide) ?_
  refine z_iadd C dL_law_981 (v := nI (i + 4)) (nI_add i 4) ?_
  refine z_sld C hSc (j := i + 4) (by omega) dL_law_982 ?_
  refine z_pI C (z_runV C (As := [Value.int (xs (i + 1)), Value.int (xs (i + 2)), Value.int (xs (i + 3)), Value.int (xs (i + 4))]) (rest := [Value.int v959]) (c_X8_stock l D cy a L c1 g1 r nl nk hL hM c hI x hXl hK1 (xs (i + 1)) (xs (i + 2)) (xs (i + 3)) (xs (i + 4))) (cwV 4 C.2.2.2.2.2.1 gL_law_X8_stock rfl rfl rfl (by decide +kernel) ⟨Nat.le_of_ble_eq_true rfl, Nat.le_of_ble_eq_true rfl⟩) (hL _ (by unfold live; omega)) (zF_k8 (by rfl)) rfl rfl rfl rfl (Nat.le_of_ble_eq_true rfl) dL_law_983 ⟨by omega, by omega⟩) (fun v983 e983 => ?_)
  have f2 : p8_stock c1 c nl nk x (xs (i + 1)) (xs (i + 2)) (xs (i + 3)) (xs (i + 4)) v983 := e983
  have heq := hv1.trans (show _ = _ from f2).symm
  have hV2 := opB_stock hV hc10
  refine z_icmp_eq C dL_law_986 (tgt := 1296) (by decide) (fun h986 => ?_) (fun h986 => absurd (heq) h986)
  refine z_widen (k := ce + 2) (n := sl + 9) (by omega) (by omega) ?_
  exact kk a L c1 g1 r _ _ _ hV2

set_option maxHeartbeats 4000000 in
set_option maxRecDepth 100000 in
theorem law_ahead {p : Program} {l : Launch} {e : Env} {s : State} {m : MethodId} {args : Array Value} {below : List Frame} {meth : Method} {co : Code} {D : va_G} {cy : Nat → ClassId} {A : Nat → Prop} {rt : Option FieldType} {Q : State → Prop} {b n i ce sl : Nat} {xs : Nat → Int32} {a : Nat → Nat} {L : List Nat} {c : Nat → Nat → Int32} {g : Nat → Nat → Int64} {r : Nat → Nat → Option Nat} {nl nk : Nat} {x : Nat → Nat → Nat} (C : zC p s m args meth co D cy A cL_law 4 rt wsL_law RL) (hSc : zScr b n xs s A) (hi : i + 6 ≤ n) (hc : ce + 2 ≤ room_1.cells) (hs : sl + 9 ≤ room_1.slots) (hV : INV L c r nl nk x) (kk : ∀ (a' : Nat → Nat) (L' : List Nat) (c' : Nat → Nat → Int32) (g' : Nat → Nat → Int64) (r' : Nat → Nat → Option Nat) (nl' nk' : Nat) (x' : Nat → Nat → Nat), INV L' c' r' nl' nk' x' → zG p l e room_1 s m args below meth co D cy A 4 Q (ce + 2) (sl + 9) a' L' c' g' r' [(3, Value.int (nI i)), (2, Value.ref (a' 300)), (1, Value.ref (a' 0)), (0, Value.ref b)] 1296 []) : zG p l e room_1 s m args below meth co D cy A 4 Q ce sl a L c g r [(3, Value.int (nI i)), (2, Value.ref (a 300)), (1, Value.ref (a 0)), (0, Value.ref b)] 991 [] := by
  have hn := hSc.2.2.2
  obtain ⟨hL, hR, hM, hI, hX, hK, hZ, hF, hG⟩ := id hV
  have hXl := XC_L hX
  have h16 := CI_nl16 hI
  have h40 := CI_nk40 hI
  refine z_aload_n C dL_law_991 rfl (q := 2) rfl ?_
  refine z_aload_n C dL_law_992 rfl (q := 3) rfl ?_
  refine z_iload_n C dL_law_993 rfl (q := 0) rfl ?_
  refine z_iconst C dL_law_994 (v := nI 1) (by decide) ?_
  refine z_iadd C dL_law_995 (v := nI (i + 1)) (nI_add i 1) ?_
  refine z_sld C hSc (j := i + 1) (by omega) dL_law_996 ?_
  refine z_aload_n C dL_law_997 rfl (q := 3) rfl ?_
  refine z_iload_n C dL_law_998 rfl (q := 0) rfl ?_
  refine z_iconst C dL_law_999 (v := nI 2) (by decide) ?_
  refine z_iadd C dL_law_1000 (v := nI (i + 2)) (nI_add i 2) ?_
  refine z_sld C hSc (j := i + 2) (by omega) dL_law_1001 ?_
  refine z_aload_n C dL_law_1002 rfl (q := 3) rfl ?_
  refine z_iload_n C dL_law_1003 rfl (q := 0) rfl ?_
  refine z_iconst C dL_law_1004 (v := nI 3) (by decide) ?_
  refine z_iadd C dL_law_1005 (v := nI (i + 3)) (nI_add i 3) ?_
  refine z_sld C hSc (j := i + 3) (by omega) dL_law_1006 ?_
  refine z_pI C (z_runV C (As := [Value.int (xs (i + 1)), Value.int (xs (i + 2)), Value.int (xs (i + 3))]) (rest := []) (c_X7_ahead l D cy a L c g r nl nk hL hR hI (xs (i + 1)) (xs (i + 2)) (xs (i + 3))) (cwV 3 C.2.2.2.2.2.1 gL_law_X7_ahead rfl rfl rfl (by decide +kernel) ⟨Nat.le_of_ble_eq_true rfl, Nat.le_of_ble_eq_true rfl⟩) (hL _ (by unfold live; omega)) (zF_k7 (by rfl)) rfl rfl rfl rfl (Nat.le_of_ble_eq_true rfl) dL_law_1007 ⟨by omega, by omega⟩) (fun v1007 e1007 => ?_)
  have f1 : p7_ahead c nl nk x (xs (i + 1)) (xs (i + 2)) (xs (i + 3)) v1007 := e1007
  refine z_aload_n C dL_law_1010 rfl (q := 1) rfl ?_
  refine z_aload_n C dL_law_1011 rfl (q := 3) rfl ?_
  refine z_iload_n C dL_law_1012 rfl (q := 0) rfl ?_
  refine z_iconst C dL_law_1013 (v := nI 1) (by decide) ?_
  refine z_iadd C dL_law_1014 (v := nI (i + 1)) (nI_add i 1) ?_
  refine z_sld C hSc (j := i + 1) (by omega) dL_law_1015 ?_
  refine z_aload_n C dL_law_1016 rfl (q := 3) rfl ?_
  refine z_iload_n C dL_law_1017 rfl (q := 0) rfl ?_
  refine z_iconst C dL_law_1018 (v := nI 2) (by decide) ?_
  refine z_iadd C dL_law_1019 (v := nI (i + 2)) (nI_add i 2) ?_
  refine z_sld C hSc (j := i + 2) (by omega) dL_law_1020 ?_
  refine z_aload_n C dL_law_1021 rfl (q := 3) rfl ?_
  refine z_iload_n C dL_law_1022 rfl (q := 0) rfl ?_
  refine z_iconst C dL_law_1023 (v := nI 3) (by decide) ?_
  refine z_iadd C dL_law_1024 (v := nI (i + 3)) (nI_add i 3) ?_
  refine z_sld C hSc (j := i + 3) (by omega) dL_law_1025 ?_
  refine z_pI C (z_runV C (As := [Value.int (xs (i + 1)), Value.int (xs (i + 2)), Value.int (xs (i + 3))]) (rest := [Value.int v1007]) (c_X8_ahead l D cy a L c g r nl nk hL hM c hI x hXl hK (xs (i + 1)) (xs (i + 2)) (xs (i + 3))) (cwV 3 C.2.2.2.2.2.1 gL_law_X8_ahead rfl rfl rfl (by decide +kernel) ⟨Nat.le_of_ble_eq_true rfl, Nat.le_of_ble_eq_true rfl⟩) (hL _ (by unfold live; omega)) (zF_k8 (by rfl)) rfl rfl rfl rfl (Nat.le_of_ble_eq_true rfl) dL_law_1026 ⟨by omega, by omega⟩) (fun v1026 e1026 => ?_)
  have f2 : p8_ahead c c nl nk x (xs (i + 1)) (xs (i + 2)) (xs (i + 3)) v1026 := e1026
  have heq : v1007 = v1026 := Eq.trans (show v1007 = _ from f1) (Eq.symm (show v1026 = _ from f2))
  have hV2 := hV
  refine z_icmp_eq C dL_law_1029 (tgt := 1296) (by decide) (fun h1029 => ?_) (fun h1029 => absurd (heq) h1029)
  refine z_widen (k := ce + 2) (n := sl + 9) (by omega) (by omega) ?_
  exact kk a L c g r _ _ _ hV2
