set_option maxHeartbeats 4000000 in
set_option maxRecDepth 100000 in
theorem law_sheet {p : Program} {l : Launch} {e : Env} {s : State} {m : MethodId} {args : Array Value} {below : List Frame} {meth : Method} {co : Code} {D : va_G} {cy : Nat → ClassId} {A : Nat → Prop} {rt : Option FieldType} {Q : State → Prop} {b n i ce sl : Nat} {xs : Nat → Int32} {a : Nat → Nat} {L : List Nat} {c : Nat → Nat → Int32} {g : Nat → Nat → Int64} {r : Nat → Nat → Option Nat} {nl nk : Nat} {x : Nat → Nat → Nat} (C : zC p s m args meth co D cy A cL_law 4 rt wsL_law RL) (hSc : zScr b n xs s A) (hi : i + 6 ≤ n) (hc : ce + 2 ≤ room_1.cells) (hs : sl + 9 ≤ room_1.slots) (hV : INV L c r nl nk x) (kk : ∀ (a' : Nat → Nat) (L' : List Nat) (c' : Nat → Nat → Int32) (g' : Nat → Nat → Int64) (r' : Nat → Nat → Option Nat) (nl' nk' : Nat) (x' : Nat → Nat → Nat), INV L' c' r' nl' nk' x' → zG p l e room_1 s m args below meth co D cy A 4 Q (ce + 2) (sl + 9) a' L' c' g' r' [(3, Value.int (nI i)), (2, Value.ref (a' 300)), (1, Value.ref (a' 0)), (0, Value.ref b)] 1296 []) : zG p l e room_1 s m args below meth co D cy A 4 Q ce sl a L c g r [(3, Value.int (nI i)), (2, Value.ref (a 300)), (1, Value.ref (a 0)), (0, Value.ref b)] 1034 [] := by
  have hn := hSc.2.2.2
  obtain ⟨hL, hR, hM, hI, hX, hK, hZ, hF, hG⟩ := id hV
  have hXl := XC_L hX
  have h16 := CI_nl16 hI
  have h40 := CI_nk40 hI
  refine z_aload_n C dL_law_1034 rfl (q := 2) rfl ?_
  refine z_aload_n C dL_law_1035 rfl (q := 3) rfl ?_
  refine z_iload_n C dL_law_1036 rfl (q := 0) rfl ?_
  refine z_iconst C dL_law_1037 (v := nI 1) (by decide) ?_
  refine z_iadd C dL_law_1038 (v := nI (i + 1)) (nI_add i 1) ?_
  refine z_sld C hSc (j := i + 1) (by omega) dL_law_1039 ?_
  refine z_aload_n C dL_law_1040 rfl (q := 3) rfl ?_
  refine z_iload_n C dL_law_1041 rfl (q := 0) rfl ?_
  refine z_iconst C dL_law_1042 (v := nI 2) (by decide) ?_
  refine z_iadd C dL_law_1043 (v := nI (i + 2)) (nI_add i 2) ?_
  refine z_sld C hSc (j := i + 2) (by omega) dL_law_1044 ?_
  refine z_aload_n C dL_law_1045 rfl (q := 3) rfl ?_
  refine z_iload_n C dL_law_1046 rfl (q := 0) rfl ?_
  refine z_iconst C dL_law_1047 (v := nI 3) (by decide) ?_
  refine z_iadd C dL_law_1048 (v := nI (i + 3)) (nI_add i 3) ?_
  refine z_sld C hSc (j := i + 3) (by omega) dL_law_1049 ?_
  refine z_cI C (z_runV C (As := [Value.int (xs (i + 1)), Value.int (xs (i + 2)), Value.int (xs (i + 3))]) (rest := []) (c_X7_sheet l D cy a L c g r nl nk hL hR hI (xs (i + 1)) (xs (i + 2)) (xs (i + 3))) (cwV 3 C.2.2.2.2.2.1 gL_law_X7_sheet rfl rfl rfl (by decide +kernel) ⟨Nat.le_of_ble_eq_true rfl, Nat.le_of_ble_eq_true rfl⟩) (hL _ (by unfold live; omega)) (zF_k7 (by rfl)) rfl rfl rfl rfl (Nat.le_of_ble_eq_true rfl) dL_law_1050 ⟨by omega, by omega⟩) (fun v1050 c1050 e1050 => ?_)
  have f1 : p7_sheet c nl nk x (xs (i + 1)) (xs (i + 2)) (xs (i + 3)) v1050 c1050 := e1050
  have hK1 := LK_s (lks_hi (opA_sheet hV f1)) hK
  refine z_aload_n C dL_law_1053 rfl (q := 1) rfl ?_
  refine z_aload_n C dL_law_1054 rfl (q := 3) rfl ?_
  refine z_iload_n C dL_law_1055 rfl (q := 0) rfl ?_
  refine z_iconst C dL_law_1056 (v := nI 1) (by decide) ?_
  refine z_iadd C dL_law_1057 (v := nI (i + 1)) (nI_add i 1) ?_
  refine z_sld C hSc (j := i + 1) (by omega) dL_law_1058 ?_
  refine z_aload_n C dL_law_1059 rfl (q := 3) rfl ?_
  refine z_iload_n C dL_law_1060 rfl (q := 0) rfl ?_
  refine z_iconst C dL_law_1061 (v := nI 2) (by decide) ?_
  refine z_iadd C dL_law_1062 (v := nI (i + 2)) (nI_add i 2) ?_
  refine z_sld C hSc (j := i + 2) (by omega) dL_law_1063 ?_
  refine z_aload_n C dL_law_1064 rfl (q := 3) rfl ?_
  refine z_iload_n C dL_law_1065 rfl (q := 0) rfl ?_
  refine z_iconst C dL_law_1066 (v := nI 3) (by decide) ?_
  refine z_iadd C dL_law_1067 (v := nI (i + 3)) (nI_add i 3) ?_
  refine z_sld C hSc (j := i + 3) (by omega) dL_law_1068 ?_
  refine z_cI C (z_runV C (As := [Value.int (xs (i + 1)), Value.int (xs (i + 2)), Value.int (xs (i + 3))]) (rest := [Value.int v1050]) (c_X8_sheet l D cy a L c1050 g r nl nk hL hM c hI x hXl hK1 (xs (i + 1)) (xs (i + 2)) (xs (i + 3))) (cwV 3 C.2.2.2.2.2.1 gL_law_X8_sheet rfl rfl rfl (by decide +kernel) ⟨Nat.le_of_ble_eq_true rfl, Nat.le_of_ble_eq_true rfl⟩) (hL _ (by unfold live; omega)) (zF_k8 (by rfl)) rfl rfl rfl rfl (Nat.le_of_ble_eq_true rfl) dL_law_1069 ⟨by omega, by omega⟩) (fun v1069 c1069 e1069 => ?_)
  have f2 : p8_sheet c1050 c nl nk x (xs (i + 1)) (xs (i + 2)) (xs (i + 3)) v1069 c1069 := e1069
  obtain ⟨heq, hV2⟩ := opB_sheet hV f1 f2
  refine z_icmp_eq C dL_law_1072 (tgt := 1296) (by decide) (fun h1072 => ?_) (fun h1072 => absurd (heq) h1072)
  refine z_widen (k := ce + 2) (n := sl + 9) (by omega) (by omega) ?_
  exact kk a L c1069 g r _ _ _ hV2

set_option maxHeartbeats 4000000 in
set_option maxRecDepth 100000 in
theorem law_lose {p : Program} {l : Launch} {e : Env} {s : State} {m : MethodId} {args : Array Value} {below : List Frame} {meth : Method} {co : Code} {D : va_G} {cy : Nat → ClassId} {A : Nat → Prop} {rt : Option FieldType} {Q : State → Prop} {b n i ce sl : Nat} {xs : Nat → Int32} {a : Nat → Nat} {L : List Nat} {c : Nat → Nat → Int32} {g : Nat → Nat → Int64} {r : Nat → Nat → Option Nat} {nl nk : Nat} {x : Nat → Nat → Nat} (C : zC p s m args meth co D cy A cL_law 4 rt wsL_law RL) (hSc : zScr b n xs s A) (hi : i + 6 ≤ n) (hc : ce + 2 ≤ room_1.cells) (hs : sl + 9 ≤ room_1.slots) (hV : INV L c r nl nk x) (kk : ∀ (a' : Nat → Nat) (L' : List Nat) (c' : Nat → Nat → Int32) (g' : Nat → Nat → Int64) (r' : Nat → Nat → Option Nat) (nl' nk' : Nat) (x' : Nat → Nat → Nat), INV L' c' r' nl' nk' x' → zG p l e room_1 s m args below meth co D cy A 4 Q (ce + 2) (sl + 9) a' L' c' g' r' [(3, Value.int (nI i)), (2, Value.ref (a' 300)), (1, Value.ref (a' 0)), (0, Value.ref b)] 1296 []) : zG p l e room_1 s m args below meth co D cy A 4 Q ce sl a L c g r [(3, Value.int (nI i)), (2, Value.ref (a 300)), (1, Value.ref (a 0)), (0, Value.ref b)] 1077 [] := by
  have hn := hSc.2.2.2
  obtain ⟨hL, hR, hM, hI, hX, hK, hZ, hF, hG⟩ := id hV
  have hXl := XC_L hX
  have h16 := CI_nl16 hI
  have h40 := CI_nk40 hI
  refine z_aload_n C dL_law_1077 rfl (q := 2) rfl ?_
  refine z_aload_n C dL_law_1078 rfl (q := 3) rfl ?_
  refine z_iload_n C dL_law_1079 rfl (q := 0) rfl ?_
  refine z_iconst C dL_law_1080 (v := nI 1) (by decide) ?_
  refine z_iadd C dL_law_1081 (v := nI (i + 1)) (nI_add i 1) ?_
  refine z_sld C hSc (j := i + 1) (by omega) dL_law_1082 ?_
  refine z_cI C (z_runV C (As := [Value.int (xs (i + 1))]) (rest := []) (c_X7_lose l D cy a L c g r nl nk hL hR hI (xs (i + 1))) (cwV 1 C.2.2.2.2.2.1 gL_law_X7_lose rfl rfl rfl (by decide +kernel) ⟨Nat.le_of_ble_eq_true rfl, Nat.le_of_ble_eq_true rfl⟩) (hL _ (by unfold live; omega)) (zF_k7 (by rfl)) rfl rfl rfl rfl (Nat.le_of_ble_eq_true rfl) dL_law_1083 ⟨by omega, by omega⟩) (fun v1083 c1083 e1083 => ?_)
  have f1 : p7_lose c nl nk x (xs (i + 1)) v1083 c1083 := e1083
  have hK1 := LK_s (lks_hi (opA_lose hV f1)) hK
  refine z_aload_n C dL_law_1086 rfl (q := 1) rfl ?_
  refine z_aload_n C dL_law_1087 rfl (q := 3) rfl ?_
  refine z_iload_n C dL_law_1088 rfl (q := 0) rfl ?_
  refine z_iconst C dL_law_1089 (v := nI 1) (by decide) ?_
  refine z_iadd C dL_law_1090 (v := nI (i + 1)) (nI_add i 1) ?_
  refine z_sld C hSc (j := i + 1) (by omega) dL_law_1091 ?_
  refine z_cI C (z_runV C (As := [Value.int (xs (i + 1))]) (rest := [Value.int v1083]) (c_X8_lose l D cy a L c1083 g r nl nk hL hM c hI x hXl hK1 (xs (i + 1))) (cwV 1 C.2.2.2.2.2.1 gL_law_X8_lose rfl rfl rfl (by decide +kernel) ⟨Nat.le_of_ble_eq_true rfl, Nat.le_of_ble_eq_true rfl⟩) (hL _ (by unfold live; omega)) (zF_k8 (by rfl)) rfl rfl rfl rfl (Nat.le_of_ble_eq_true rfl) dL_law_1092 ⟨by omega, by omega⟩) (fun v1092 c1092 e1092 => ?_)
  have f2 : p8_lose c1083 c nl nk x (xs (i + 1)) v1092 c1092 := e1092
  obtain ⟨heq, hV2⟩ := opB_lose hV f1 f2
  refine z_icmp_eq C dL_law_1095 (tgt := 1296) (by decide) (fun h1095 => ?_) (fun h1095 => absurd (heq) h1095)
  refine z_widen (k := ce + 2) (n := sl + 9) (by omega) (by omega) ?_
  exact kk a L c1092 g r _ _ _ hV2

set_option maxHeartbeats 4000000 in
set_option maxRecDepth 100000 in
theorem law_put {p : Program} {l : Launch} {e : Env} {s : State} {m : MethodId} {args : Array Value} {below : List Frame} {meth : Method} {co : Code} {D : va_G} {cy : Nat → ClassId} {A : Nat → Prop} {rt : Option FieldType} {Q : State → Prop} {b n i ce sl : Nat} {xs : Nat → Int32} {a : Nat → Nat} {L : List Nat} {c : Nat → Nat → Int32} {g : Nat → Nat → Int64} {r : Nat → Nat → Option Nat} {nl nk : Nat} {x : Nat → Nat → Nat} (C : zC p s m args meth co D cy A cL_law 4 rt wsL_law RL) (hSc : zScr b n xs s A) (hi : i + 6 ≤ n) (hc : ce + 2 ≤ room_1.cells) (hs : sl + 9 ≤ room_1.slots) (hV : INV L c r nl nk x) (kk : ∀ (a' : Nat → Nat) (L' : List Nat) (c' : Nat → Nat → Int32) (g' : Nat → Nat → Int64) (r' : Nat → Nat → Option Nat) (nl' nk' : Nat) (x' : Nat → Nat → Nat), INV L' c' r' nl' nk' x' → zG p l e room_1 s m args below meth co D cy A 4 Q (ce + 2) (sl + 9) a' L' c' g' r' [(3, Value.int (nI i)), (2, Value.ref (a' 300)), (1, Value.ref (a' 0)), (0, Value.ref b)] 1296 []) : zG p l e room_1 s m args below meth co D cy A 4 Q ce sl a L c g r [(3, Value.int (nI i)), (2, Value.ref (a 300)), (1, Value.ref (a 0)), (0, Value.ref b)] 1100 [] := by
  have hn := hSc.2.2.2
  obtain ⟨hL, hR, hM, hI, hX, hK, hZ, hF, hG⟩ := id hV
  have hXl := XC_L hX
  have h16 := CI_nl16 hI
  have h40 := CI_nk40 hI
  refine z_aload_n C dL_law_1100 rfl (q := 2) rfl ?_
  refine z_aload_n C dL_law_1101 rfl (q := 3) rfl ?_
  refine z_iload_n C dL_law_1102 rfl (q := 0) rfl ?_
  refine z_iconst C dL_law_1103 (v := nI 1) (by decide) ?_
  refine z_iadd C dL_law_1104 (v := nI (i + 1)) (nI_add i 1) ?_
  refine z_sld C hSc (j := i + 1) (by omega) dL_law_1105 ?_
  refine z_aload_n C dL_law_1106 rfl (q := 3) rfl ?_
  refine z_iload_n C dL_law_1107 rfl (q := 0) rfl ?_
  refine z_iconst C dL_law_1108 (v := nI 2) (by decide) ?_
  refine z_iadd C dL_law_1109 (v := nI (i + 2)) (nI_add i 2) ?_
  refine z_sld C hSc (j := i + 2) (by omega) dL_law_1110 ?_
  refine z_aload_n C dL_law_1111 rfl (q := 3) rfl ?_
  refine z_iload_n C dL_law_1112 rfl (q := 0) rfl ?_
  refine z_iconst C dL_law_1113 (v := nI 3) (by decide) ?_
  refine z_iadd C dL_law_1114 (v := nI (i + 3)) (nI_add i 3) ?_
  refine z_sld C hSc (j := i + 3) (by omega) dL_law_1115 ?_
  refine z_aload_n C dL_law_1116 rfl (q := 3) rfl ?_
  refine z_iload_n C dL_law_1117 rfl (q := 0) rfl ?_
  refine z_iconst C dL_law_1118 (v := nI 4) (by decide) ?_
  refine z_iadd C dL_law_1119 (v := nI (i + 4)) (nI_add i 4) ?_
  refine z_sld C hSc (j := i + 4) (by omega) dL_law_1120 ?_
  refine z_cI C (z_runV C (As := [Value.int (xs (i + 1)), Value.int (xs (i + 2)), Value.int (xs (i + 3)), Value.int (xs (i + 4))]) (rest := []) (c_X7_put l D cy a L c g r nl nk hL hR hI (xs (i + 1)) (xs (i + 2)) (xs (i + 3)) (xs (i + 4))) (cwV 4 C.2.2.2.2.2.1 gL_law_X7_put rfl rfl rfl (by decide +kernel) ⟨Nat.le_of_ble_eq_true rfl, Nat.le_of_ble_eq_true rfl⟩) (hL _ (by unfold live; omega)) (zF_k7 (by rfl)) rfl rfl rfl rfl (Nat.le_of_ble_eq_true rfl) dL_law_1121 ⟨by omega, by omega⟩) (fun v1121 c1121 e1121 => ?_)
  have f1 : p7_put c nl nk x (xs (i + 1)) (xs (i + 2)) (xs (i + 3)) (xs (i + 4)) v1121 c1121 := e1121
  have hK1 := LK_s (lks_hi (opA_put hV f1)) hK
  refine z_aload_n C dL_law_1124 rfl (q := 1) rfl ?_
  refine z_aload_n C dL_law_1125 rfl (q := 3) rfl ?_
  refine z_iload_n C dL_law_1126 rfl (q := 0) rfl ?_
  refine z_iconst C dL_law_1127 (v := nI 1) (by decide) ?_
  refine z_iadd C dL_law_1128 (v := nI (i + 1)) (nI_add i 1) ?_
  refine z_sld C hSc (j := i + 1) (by omega) dL_law_1129 ?_
  refine z_aload_n C dL_law_1130 rfl (q := 3) rfl ?_
  refine z_iload_n C dL_law_1131 rfl (q := 0) rfl ?_
  refine z_iconst C dL_law_1132 (v := nI 2) (by decide) ?_
  refine z_iadd C dL_law_1133 (v := nI (i + 2)) (nI_add i 2) ?_
  refine z_sld C hSc (j := i + 2) (by omega) dL_law_1134 ?_
  refine z_aload_n C dL_law_1135 rfl (q := 3) rfl ?_
  refine z_iload_n C dL_law_1136 rfl (q := 0) rfl ?_
  refine z_iconst C dL_law_1137 (v := nI 3) (by decide) ?_
  refine z_iadd C dL_law_1138 (v := nI (i + 3)) (nI_add i 3) ?_
  refine z_sld C hSc (j := i + 3) (by omega) dL_law_1139 ?_
  refine z_aload_n C dL_law_1140 rfl (q := 3) rfl ?_
  refine z_iload_n C dL_law_1141 rfl (q := 0) rfl ?_
  refine z_iconst C dL_law_1142 (v := nI 4) (by decide) ?_
  refine z_iadd C dL_law_1143 (v := nI (i + 4)) (nI_add i 4) ?_
  refine z_sld C hSc (j := i + 4) (by omega) dL_law_1144 ?_
  refine z_cI C (z_runV C (As := [Value.int (xs (i + 1)), Value.int (xs (i + 2)), Value.int (xs (i + 3)), Value.int (xs (i + 4))]) (rest := [Value.int v1121]) (c_X8_put l D cy a L c1121 g r nl nk hL hM c hI x hXl hK1 (xs (i + 1)) (xs (i + 2)) (xs (i + 3)) (xs (i + 4))) (cwV 4 C.2.2.2.2.2.1 gL_law_X8_put rfl rfl rfl (by decide +kernel) ⟨Nat.le_of_ble_eq_true rfl, Nat.le_of_ble_eq_true rfl⟩) (hL _ (by unfold live; omega)) (zF_k8 (by rfl)) rfl rfl rfl rfl (Nat.le_of_ble_eq_true rfl) dL_law_1145 ⟨by omega, by omega⟩) (fun v1145 c1145 e1145 => ?_)
  have f2 : p8_put c1121 c nl nk x (xs (i + 1)) (xs (i + 2)) (xs (i + 3)) (xs (i + 4)) v1145 c1145 := e1145
  obtain ⟨heq, hV2⟩ := opB_put hV f1 f2
  refine z_icmp_eq C dL_law_1148 (tgt := 1296) (by decide) (fun h1148 => ?_) (fun h1148 => absurd (heq) h1148)
  refine z_widen (k := ce + 2) (n := sl + 9) (by omega) (by omega) ?_
  exact kk a L c1145 g r _ _ _ hV2

set_option maxHeartbeats 4000000 in
set_option maxRecDepth 100000 in
theorem law_get {p : Program} {l : Launch} {e : Env} {s : State} {m : MethodId} {args : Array Value} {below : List Frame} {meth : Method} {co : Code} {D : va_G} {cy : Nat → ClassId} {A : Nat → Prop} {rt : Option FieldType} {Q : State → Prop} {b n i ce sl : Nat} {xs : Nat → Int32} {a : Nat → Nat} {L : List Nat} {c : Nat → Nat → Int32} {g : Nat → Nat → Int64} {r : Nat → Nat → Option Nat} {nl nk : Nat} {x : Nat → Nat → Nat} (C : zC p s m args meth co D cy A cL_law 4 rt wsL_law RL) (hSc : zScr b n xs s A) (hi : i + 6 ≤ n) (hc : ce + 2 ≤ room_1.cells) (hs : sl + 9 ≤ room_1.slots) (hV : INV L c r nl nk x) (kk : ∀ (a' : Nat → Nat) (L' : List Nat) (c' : Nat → Nat → Int32) (g' : Nat → Nat → Int64) (r' : Nat → Nat → Option Nat) (nl' nk' : Nat) (x' : Nat → Nat → Nat), INV L' c' r' nl' nk' x' → zG p l e room_1 s m args below meth co D cy A 4 Q (ce + 2) (sl + 9) a' L' c' g' r' [(3, Value.int (nI i)), (2, Value.ref (a' 300)), (1, Value.ref (a' 0)), (0, Value.ref b)] 1296 []) : zG p l e room_1 s m args below meth co D cy A 4 Q ce sl a L c g r [(3, Value.int (nI i)), (2, Value.ref (a 300)), (1, Value.ref (a 0)), (0, Value.ref b)] 1153 [] := by
  have hn := hSc.2.2.2
  obtain ⟨hL, hR, hM, hI, hX, hK, hZ, hF, hG⟩ := id hV
  have hXl := XC_L hX
  have h16 := CI_nl16 hI
  have h40 := CI_nk40 hI
  refine z_aload_n C dL_law_1153 rfl (q := 2) rfl ?_
  refine z_aload_n C dL_law_1154 rfl (q := 3) rfl ?_
  refine z_iload_n C dL_law_1155 rfl (q := 0) rfl ?_
  refine z_iconst C dL_law_1156 (v := nI 1) (by decide) ?_
  refine z_iadd C dL_law_1157 (v := nI (i + 1)) (nI_add i 1) ?_
  refine z_sld C hSc (j := i + 1) (by omega) dL_law_1158 ?_
  refine z_aload_n C dL_law_1159 rfl (q := 3) rfl ?_
  refine z_iload_n C dL_law_1160 rfl (q := 0) rfl ?_
  refine z_iconst C dL_law_1161 (v := nI 2) (by decide) ?_
  refine z_iadd C dL_law_1162 (v := nI (i + 2)) (nI_add i 2) ?_
  refine z_sld C hSc (j := i + 2) (by omega) dL_law_1163 ?_
  refine z_aload_n C dL_law_1164 rfl (q := 3) rfl ?_
  refine z_iload_n C dL_law_1165 rfl (q := 0) rfl ?_
  refine z_iconst C dL_law_1166 (v := nI 3) (by decide) ?_
  refine z_iadd C dL_law_1167 (v := nI (i + 3)) (nI_add i 3) ?_
  refine z_sld C hSc (j := i + 3) (by omega) dL_law_1168 ?_
  refine z_cI C (z_runV C (As := [Value.int (xs (i + 1)), Value.int (xs (i + 2)), Value.int (xs (i + 3))]) (rest := []) (c_X7_get l D cy a L c g r nl nk hL hR hI (xs (i + 1)) (xs (i + 2)) (xs (i + 3))) (cwV 3 C.2.2.2.2.2.1 gL_law_X7_get rfl rfl rfl (by decide +kernel) ⟨Nat.le_of_ble_eq_true rfl, Nat.le_of_ble_eq_true rfl⟩) (hL _ (by unfold live; omega)) (zF_k7 (by rfl)) rfl rfl rfl rfl (Nat.le_of_ble_eq_true rfl) dL_law_1169 ⟨by omega, by omega⟩) (fun v1169 c1169 e1169 => ?_)
  have f1 : p7_get c nl nk x (xs (i + 1)) (xs (i + 2)) (xs (i + 3)) v1169 c1169 := e1169
  have hK1 := LK_s (lks_hi (opA_get hV f1)) hK
  refine z_aload_n C dL_law_1172 rfl (q := 1) rfl ?_
  refine z_aload_n C dL_law_1173 rfl (q := 3) rfl ?_
  refine z_iload_n C dL_law_1174 rfl (q := 0) rfl ?_
  refine z_iconst C dL_law_1175 (v := nI 1) (by decide) ?_
  refine z_iadd C dL_law_1176 (v := nI (i + 1)) (nI_add i 1) ?_
  refine z_sld C hSc (j := i + 1) (by omega) dL_law_1177 ?_
  refine z_aload_n C dL_law_1178 rfl (q := 3) rfl ?_
  refine z_iload_n C dL_law_1179 rfl (q := 0) rfl ?_
  refine z_iconst C dL_law_1180 (v := nI 2) (by decide) ?_
  refine z_iadd C dL_law_1181 (v := nI (i + 2)) (nI_add i 2) ?_
  refine z_sld C hSc (j := i + 2) (by omega) dL_law_1182 ?_
  refine z_aload_n C dL_law_1183 rfl (q := 3) rfl ?_
  refine z_iload_n C dL_law_1184 rfl (q := 0) rfl ?_
  refine z_iconst C dL_law_1185 (v := nI 3) (by decide) ?_
  refine z_iadd C dL_law_1186 (v := nI (i + 3)) (nI_add i 3) ?_
  refine z_sld C hSc (j := i + 3) (by omega) dL_law_1187 ?_
  refine z_cI C (z_runV C (As := [Value.int (xs (i + 1)), Value.int (xs (i + 2)), Value.int (xs (i + 3))]) (rest := [Value.int v1169]) (c_X8_get l D cy a L c1169 g r nl nk hL hM c hI x hXl hK1 (xs (i + 1)) (xs (i + 2)) (xs (i + 3))) (cwV 3 C.2.2.2.2.2.1 gL_law_X8_get rfl rfl rfl (by decide +kernel) ⟨Nat.le_of_ble_eq_true rfl, Nat.le_of_ble_eq_true rfl⟩) (hL _ (by unfold live; omega)) (zF_k8 (by rfl)) rfl rfl rfl rfl (Nat.le_of_ble_eq_true rfl) dL_law_1188 ⟨by omega, by omega⟩) (fun v1188 c1188 e1188 => ?_)
  have f2 : p8_get c1169 c nl nk x (xs (i + 1)) (xs (i + 2)) (xs (i + 3)) v1188 c1188 := e1188
  obtain ⟨heq, hV2⟩ := opB_get hV f1 f2
  refine z_icmp_eq C dL_law_1191 (tgt := 1296) (by decide) (fun h1191 => ?_) (fun h1191 => absurd (heq) h1191)
  refine z_widen (k := ce + 2) (n := sl + 9) (by omega) (by omega) ?_
  exact kk a L c1188 g r _ _ _ hV2

set_option maxHeartbeats 4000000 in
set_option maxRecDepth 100000 in
theorem law_copy {p : Program} {l : Launch} {e : Env} {s : State} {m : MethodId} {args : Array Value} {below : List Frame} {meth : Method} {co : Code} {D : va_G} {cy : Nat → ClassId} {A : Nat → Prop} {rt : Option FieldType} {Q : State → Prop} {b n i ce sl : Nat} {xs : Nat → Int32} {a : Nat → Nat} {L : List Nat} {c : Nat → Nat → Int32} {g : Nat → Nat → Int64} {r : Nat → Nat → Option Nat} {nl nk : Nat} {x : Nat → Nat → Nat} (C : zC p s m args meth co D cy A cL_law 4 rt wsL_law RL) (hSc : zScr b n xs s A) (hi : i + 6 ≤ n) (hc : ce + 2 ≤ room_1.cells) (hs : sl + 9 ≤ room_1.slots) (hV : INV L c r nl nk x) (kk : ∀ (a' : Nat → Nat) (L' : List Nat) (c' : Nat → Nat → Int32) (g' : Nat → Nat → Int64) (r' : Nat → Nat → Option Nat) (nl' nk' : Nat) (x' : Nat → Nat → Nat), INV L' c' r' nl' nk' x' → zG p l e room_1 s m args below meth co D cy A 4 Q (ce + 2) (sl + 9) a' L' c' g' r' [(3, Value.int (nI i)), (2, Value.ref (a' 300)), (1, Value.ref (a' 0)), (0, Value.ref b)] 1296 []) : zG p l e room_1 s m args below meth co D cy A 4 Q ce sl a L c g r [(3, Value.int (nI i)), (2, Value.ref (a 300)), (1, Value.ref (a 0)), (0, Value.ref b)] 1196 [] := by
  have hn := hSc.2.2.2
  obtain ⟨hL, hR, hM, hI, hX, hK, hZ, hF, hG⟩ := id hV
  have hXl := XC_L hX
  have h16 := CI_nl16 hI
  have h40 := CI_nk40 hI
  refine z_aload_n C dL_law_1196 rfl (q := 2) rfl ?_
  refine z_aload_n C dL_law_1197 rfl (q := 3) rfl ?_
  refine z_iload_n C dL_law_1198 rfl (q := 0) rfl ?_
  refine z_iconst C dL_law_1199 (v := nI 1) (by decide) ?_
  refine z_iadd C dL_law_1200 (v := nI (i + 1)) (nI_add i 1) ?_
  refine z_sld C hSc (j := i + 1) (by omega) dL_law_1201 ?_
  refine z_aload_n C dL_law_1202 rfl (q := 3) rfl ?_
  refine z_iload_n C dL_law_1203 rfl (q := 0) rfl ?_
  refine z_iconst C dL_law_1204 (v := nI 2) (by decide) ?_
  refine z_iadd C dL_law_1205 (v := nI (i + 2)) (nI_add i 2) ?_
  refine z_sld C hSc (j := i + 2) (by omega) dL_law_1206 ?_
  refine z_aload_n C dL_law_1207 rfl (q := 3) rfl ?_
  refine z_iload_n C dL_law_1208 rfl (q := 0) rfl ?_
  refine z_iconst C dL_law_1209 (v := nI 3) (by decide) ?_
  refine z_iadd C dL_law_1210 (v := nI (i + 3)) (nI_add i 3) ?_
  refine z_sld C hSc (j := i + 3) (by omega) dL_law_1211 ?_
  refine z_aload_n C dL_law_1212 rfl (q := 3) rfl ?_
  refine z_iload_n C dL_law_1213 rfl (q := 0) rfl ?_
  refine z_iconst C dL_law_1214 (v := nI 4) (by decide) ?_
  refine z_iadd C dL_law_1215 (v := nI (i + 4)) (nI_add i 4) ?_
  refine z_sld C hSc (j := i + 4) (by omega) dL_law_1216 ?_
  refine z_aload_n C dL_law_1217 rfl (q := 3) rfl ?_
  refine z_iload_n C dL_law_1218 rfl (q := 0) rfl ?_
  refine z_iconst C dL_law_1219 (v := nI 5) (by decide) ?_
  refine z_iadd C dL_law_1220 (v := nI (i + 5)) (nI_add i 5) ?_
  refine z_sld C hSc (j := i + 5) (by omega) dL_law_1221 ?_
  refine z_cI C (z_runV C (As := [Value.int (xs (i + 1)), Value.int (xs (i + 2)), Value.int (xs (i + 3)), Value.int (xs (i + 4)), Value.int (xs (i + 5))]) (rest := []) (c_X7_copy l D cy a L c g r nl nk hL hR hI (xs (i + 1)) (xs (i + 2)) (xs (i + 3)) (xs (i + 4)) (xs (i + 5))) (cwV 5 C.2.2.2.2.2.1 gL_law_X7_copy rfl rfl rfl (by decide +kernel) ⟨Nat.le_of_ble_eq_true rfl, Nat.le_of_ble_eq_true rfl⟩) (hL _ (by unfold live; omega)) (zF_k7 (by rfl)) rfl rfl rfl rfl (Nat.le_of_ble_eq_true rfl) dL_law_1222 ⟨by omega, by omega⟩) (fun v1222 c1222 e1222 => ?_)
  have f1 : p7_copy c nl nk x (xs (i + 1)) (xs (i + 2)) (xs (i + 3)) (xs (i + 4)) (xs (i + 5)) v1222 c1222 := e1222
  have hK1 := LK_s (lks_hi (opA_copy hV f1)) hK
  refine z_aload_n C dL_law_1225 rfl (q := 1) rfl ?_
  refine z_aload_n C dL_law_1226 rfl (q := 3) rfl ?_
  refine z_iload_n C dL_law_1227 rfl (q := 0) rfl ?_
  refine z_iconst C dL_law_1228 (v := nI 1) (by decide) ?_
  refine z_iadd C dL_law_1229 (v := nI (i + 1)) (nI_add i 1) ?_
  refine z_sld C hSc (j := i + 1) (by omega) dL_law_1230 ?_
  refine z_aload_n C dL_law_1231 rfl (q := 3) rfl ?_
  refine z_iload_n C dL_law_1232 rfl (q := 0) rfl ?_
  refine z_iconst C dL_law_1233 (v := nI 2) (by decide) ?_
  refine z_iadd C dL_law_1234 (v := nI (i + 2)) (nI_add i 2) ?_
  refine z_sld C hSc (j := i + 2) (by omega) dL_law_1235 ?_
  refine z_aload_n C dL_law_1236 rfl (q := 3) rfl ?_
  refine z_iload_n C dL_law_1237 rfl (q := 0) rfl ?_
  refine z_iconst C dL_law_1238 (v := nI 3) (by decide) ?_
  refine z_iadd C dL_law_1239 (v := nI (i + 3)) (nI_add i 3) ?_
  refine z_sld C hSc (j := i + 3) (by omega) dL_law_1240 ?_
  refine z_aload_n C dL_law_1241 rfl (q := 3) rfl ?_
  refine z_iload_n C dL_law_1242 rfl (q := 0) rfl ?_
  refine z_iconst C dL_law_1243 (v := nI 4) (by decide) ?_
  refine z_iadd C dL_law_1244 (v := nI (i + 4)) (nI_add i 4) ?_
  refine z_sld C hSc (j := i + 4) (by omega) dL_law_1245 ?_
  refine z_aload_n C dL_law_1246 rfl (q := 3) rfl ?_
  refine z_iload_n C dL_law_1247 rfl (q := 0) rfl ?_
  refine z_iconst C dL_law_1248 (v := nI 5) (by decide) ?_
  refine z_iadd C dL_law_1249 (v := nI (i + 5)) (nI_add i 5) ?_
  refine z_sld C hSc (j := i + 5) (by omega) dL_law_1250 ?_
  refine z_cI C (z_runV C (As := [Value.int (xs (i + 1)), Value.int (xs (i + 2)), Value.int (xs (i + 3)), Value.int (xs (i + 4)), Value.int (xs (i + 5))]) (rest := [Value.int v1222]) (c_X8_copy l D cy a L c1222 g r nl nk hL hM c hI x hXl hK1 (xs (i + 1)) (xs (i + 2)) (xs (i + 3)) (xs (i + 4)) (xs (i + 5))) (cwV 5 C.2.2.2.2.2.1 gL_law_X8_copy rfl rfl rfl (by decide +kernel) ⟨Nat.le_of_ble_eq_true rfl, Nat.le_of_ble_eq_true rfl⟩) (hL _ (by unfold live; omega)) (zF_k8 (by rfl)) rfl rfl rfl rfl (Nat.le_of_ble_eq_true rfl) dL_law_1251 ⟨by omega, by omega⟩) (fun v1251 c1251 e1251 => ?_)
  have f2 : p8_copy c1222 c nl nk x (xs (i + 1)) (xs (i + 2)) (xs (i + 3)) (xs (i + 4)) (xs (i + 5)) v1251 c1251 := e1251
  obtain ⟨heq, hV2⟩ := opB_copy hV f1 f2
  refine z_icmp_eq C dL_law_1254 (tgt := 1296) (by decide) (fun h1254 => ?_) (fun h1254 => absurd (heq) h1254)
  refine z_widen (k := ce + 2) (n := sl + 9) (by omega) (by omega) ?_
  exact kk a L c1251 g r _ _ _ hV2

set_option maxHeartbeats 4000000 in
set_option maxRecDepth 100000 in
theorem law_count {p : Program} {l : Launch} {e : Env} {s : State} {m : MethodId} {args : Array Value} {below : List Frame} {meth : Method} {co : Code} {D : va_G} {cy : Nat → ClassId} {A : Nat → Prop} {rt : Option FieldType} {Q : State → Prop} {b n i ce sl : Nat} {xs : Nat → Int32} {a : Nat → Nat} {L : List Nat} {c : Nat → Nat → Int32} {g : Nat → Nat → Int64} {r : Nat → Nat → Option Nat} {nl nk : Nat} {x : Nat → Nat → Nat} (C : zC p s m args meth co D cy A cL_law 4 rt wsL_law RL) (hSc : zScr b n xs s A) (hi : i + 6 ≤ n) (hc : ce + 2 ≤ room_1.cells) (hs : sl + 9 ≤ room_1.slots) (hV : INV L c r nl nk x) (kk : ∀ (a' : Nat → Nat) (L' : List Nat) (c' : Nat → Nat → Int32) (g' : Nat → Nat → Int64) (r' : Nat → Nat → Option Nat) (nl' nk' : Nat) (x' : Nat → Nat → Nat), INV L' c' r' nl' nk' x' → zG p l e room_1 s m args below meth co D cy A 4 Q (ce + 2) (sl + 9) a' L' c' g' r' [(3, Value.int (nI i)), (2, Value.ref (a' 300)), (1, Value.ref (a' 0)), (0, Value.ref b)] 1296 []) : zG p l e room_1 s m args below meth co D cy A 4 Q ce sl a L c g r [(3, Value.int (nI i)), (2, Value.ref (a 300)), (1, Value.ref (a 0)), (0, Value.ref b)] 1259 [] := by
  have hn := hSc.2.2.2
  obtain ⟨hL, hR, hM, hI, hX, hK, hZ, hF, hG⟩ := id hV
  have hXl := XC_L hX
  have h16 := CI_nl16 hI
  have h40 := CI_nk40 hI
  refine z_aload_n C dL_law_1259 rfl (q := 2) rfl ?_
  refine z_aload_n C dL_law_1260 rfl (q := 3) rfl ?_
  refine z_iload_n C dL_law_1261 rfl (q := 0) rfl ?_
  refine z_iconst C dL_law_1262 (v := nI 1) (by decide) ?_
  refine z_iadd C dL_law_1263 (v := nI (i + 1)) (nI_add i 1) ?_
  refine z_sld C hSc (j := i + 1) (by omega) dL_law_1264 ?_
  refine z_pI C (z_runV C (As := [Value.int (xs (i + 1))]) (rest := []) (c_X7_count l D cy a L c g r nl nk hL hR hI x hX (xs (i + 1))) (cwV 1 C.2.2.2.2.2.1 gL_law_X7_count rfl rfl rfl (by decide +kernel) ⟨Nat.le_of_ble_eq_true rfl, Nat.le_of_ble_eq_true rfl⟩) (hL _ (by unfold live; omega)) (zF_k7 (by rfl)) rfl rfl rfl rfl (Nat.le_of_ble_eq_true rfl) dL_law_1265 ⟨by omega, by omega⟩) (fun v1265 e1265 => ?_)
  have f1 : p7_count c nl nk x (xs (i + 1)) v1265 := e1265
  refine z_aload_n C dL_law_1268 rfl (q := 1) rfl ?_
  refine z_aload_n C dL_law_1269 rfl (q := 3) rfl ?_
  refine z_iload_n C dL_law_1270 rfl (q := 0) rfl ?_
  refine z_iconst C dL_law_1271 (v := nI 1) (by decide) ?_
  refine z_iadd C dL_law_1272 (v := nI (i + 1)) (nI_add i 1) ?_
  refine z_sld C hSc (j := i + 1) (by omega) dL_law_1273 ?_
  refine z_pI C (z_runV C (As := [Value.int (xs (i + 1))]) (rest := [Value.int v1265]) (c_X8_count l D cy a L c g r nl nk hL hM c hI x hXl hK (xs (i + 1))) (cwV 1 C.2.2.2.2.2.1 gL_law_X8_count rfl rfl rfl (by decide +kernel) ⟨Nat.le_of_ble_eq_true rfl, Nat.le_of_ble_eq_true rfl⟩) (hL _ (by unfold live; omega)) (zF_k8 (by rfl)) rfl rfl rfl rfl (Nat.le_of_ble_eq_true rfl) dL_law_1274 ⟨by omega, by omega⟩) (fun v1274 e1274 => ?_)
  have f2 : p8_count c c nl nk x (xs (i + 1)) v1274 := e1274
  have heq : v1265 = v1274 := Eq.trans (show v1265 = _ from f1) (Eq.symm (show v1274 = _ from f2))
  have hV2 := hV
  refine z_icmp_eq C dL_law_1277 (tgt := 1296) (by decide) (fun h1277 => ?_) (fun h1277 => absurd (heq) h1277)
  refine z_widen (k := ce + 2) (n := sl + 9) (by omega) (by omega) ?_
  exact kk a L c g r _ _ _ hV2

set_option maxHeartbeats 4000000 in
set_option maxRecDepth 100000 in
theorem law_digest {p : Program} {l : Launch} {e : Env} {s : State} {m : MethodId} {args : Array Value} {below : List Frame} {meth : Method} {co : Code} {D : va_G} {cy : Nat → ClassId} {A : Nat → Prop} {rt : Option FieldType} {Q : State → Prop} {b n i ce sl : Nat} {xs : Nat → Int32} {a : Nat → Nat} {L : List Nat} {c : Nat → Nat → Int32} {g : Nat → Nat → Int64} {r : Nat → Nat → Option Nat} {nl nk : Nat} {x : Nat → Nat → Nat} (C : zC p s m args meth co D cy A cL_law 4 rt wsL_law RL) (hSc : zScr b n xs s A) (hi : i + 6 ≤ n) (hc : ce + 2 ≤ room_1.cells) (hs : sl + 9 ≤ room_1.slots) (hV : INV L c r nl nk x) (kk : ∀ (a' : Nat → Nat) (L' : List Nat) (c' : Nat → Nat → Int32) (g' : Nat → Nat → Int64) (r' : Nat → Nat → Option Nat) (nl' nk' : Nat) (x' : Nat → Nat → Nat), INV L' c' r' nl' nk' x' → zG p l e room_1 s m args below meth co D cy A 4 Q (ce + 2) (sl + 9) a' L' c' g' r' [(3, Value.int (nI i)), (2, Value.ref (a' 300)), (1, Value.ref (a' 0)), (0, Value.ref b)] 1296 []) : zG p l e room_1 s m args below meth co D cy A 4 Q ce sl a L c g r [(3, Value.int (nI i)), (2, Value.ref (a 300)), (1, Value.ref (a 0)), (0, Value.ref b)] 1282 [] := by
  have hn := hSc.2.2.2
  obtain ⟨hL, hR, hM, hI, hX, hK, hZ, hF, hG⟩ := id hV
  have hXl := XC_L hX
  have h16 := CI_nl16 hI
  have h40 := CI_nk40 hI
  refine z_aload_n C dL_law_1282 rfl (q := 2) rfl ?_
  refine z_pL C (z_runV C (As := []) (rest := []) (c_X7_digest l D cy a L c g r nl nk hL hR hI x hX ) (cwV 0 C.2.2.2.2.2.1 gL_law_X7_digest rfl rfl rfl (by decide +kernel) ⟨Nat.le_of_ble_eq_true rfl, Nat.le_of_ble_eq_true rfl⟩) (hL _ (by unfold live; omega)) (zF_k7 (by rfl)) rfl rfl rfl rfl (Nat.le_of_ble_eq_true rfl) dL_law_1283 ⟨by omega, by omega⟩) (fun v1283 e1283 => ?_)
  have f1 : p7_digest c nl nk x  v1283 := e1283
  refine z_aload_n C dL_law_1286 rfl (q := 1) rfl ?_
  refine z_cL C (z_runV C (As := []) (rest := [Value.long v1283]) (c_X8_digest l D cy a L c g r nl nk hL hM c hI x hXl hK ) (cwV 0 C.2.2.2.2.2.1 gL_law_X8_digest rfl rfl rfl (by decide +kernel) ⟨Nat.le_of_ble_eq_true rfl, Nat.le_of_ble_eq_true rfl⟩) (hL _ (by unfold live; omega)) (zF_k8 (by rfl)) rfl rfl rfl rfl (Nat.le_of_ble_eq_true rfl) dL_law_1287 ⟨by omega, by omega⟩) (fun v1287 c1287 e1287 => ?_)
  have f2 : p8_digest c c nl nk x  v1287 c1287 := e1287
  have heq : v1283 = v1287 := Eq.trans (show v1283 = _ from f1) (Eq.symm (show v1287 = _ from f2.2))
  have hV2 := INV_r4 hV (fun _ _ _ => rfl) (FrO_lo f2.1)
  refine z_lcmp C dL_law_1290 ?_
  refine z_if_eq C dL_law_1291 (tgt := 1296) (by decide) (fun h1291 => ?_) (fun h1291 => absurd (lcmp0 heq) h1291)
  refine z_widen (k := ce + 2) (n := sl + 9) (by omega) (by omega) ?_
  exact kk a L c1287 g r _ _ _ hV2
