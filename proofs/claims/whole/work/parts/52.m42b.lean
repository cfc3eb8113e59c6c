set_option maxHeartbeats 4000000 in
set_option maxRecDepth 100000 in
theorem law_cut {p : Program} {l : Launch} {e : Env} {s : State} {m : MethodId} {args : Array Value} {below : List Frame} {meth : Method} {co : Code} {D : va_G} {cy : Nat → ClassId} {A : Nat → Prop} {rt : Option FieldType} {Q : State → Prop} {b n i ce sl : Nat} {xs : Nat → Int32} {a : Nat → Nat} {L : List Nat} {c : Nat → Nat → Int32} {g : Nat → Nat → Int64} {r : Nat → Nat → Option Nat} {nl nk : Nat} {x : Nat → Nat → Nat} (C : zC p s m args meth co D cy A cL_law 4 rt wsL_law RL) (hSc : zScr b n xs s A) (hi : i + 6 ≤ n) (hc : ce + 2 ≤ room_1.cells) (hs : sl + 9 ≤ room_1.slots) (hV : INV L c r nl nk x) (kk : ∀ (a' : Nat → Nat) (L' : List Nat) (c' : Nat → Nat → Int32) (g' : Nat → Nat → Int64) (r' : Nat → Nat → Option Nat) (nl' nk' : Nat) (x' : Nat → Nat → Nat), INV L' c' r' nl' nk' x' → zG p l e room_1 s m args below meth co D cy A 4 Q (ce + 2) (sl + 9) a' L' c' g' r' [(3, Value.int (nI i)), (2, Value.ref (a' 300)), (1, Value.ref (a' 0)), (0, Value.ref b)] 1296 []) : zG p l e room_1 s m args below meth co D cy A 4 Q ce sl a L c g r [(3, Value.int (nI i)), (2, Value.ref (a 300)), (1, Value.ref (a 0)), (0, Value.ref b)] 437 [] := by
  have hn := hSc.2.2.2
  obtain ⟨hL, hR, hM, hI, hX, hK, hZ, hF, hG⟩ := id hV
  have hXl := XC_L hX
  have h16 := CI_nl16 hI
  have h40 := CI_nk40 hI
  refine z_aload_n C dL_law_437 rfl (q := 2) rfl ?_
  refine z_aload_n C dL_law_438 rfl (q := 3) rfl ?_
  refine z_iload_n C dL_law_439 rfl (q := 0) rfl ?_
  refine z_iconst C dL_law_440 (v := nI 1) (by decide) ?_
  refine z_iadd C dL_law_441 (v := nI (i + 1)) (nI_add i 1) ?_
  refine z_sld C hSc (j := i + 1) (by omega) dL_law_442 ?_
  refine z_aload_n C dL_law_443 rfl (q := 3) rfl ?_
  refine z_iload_n C dL_law_444 rfl (q := 0) rfl ?_
  refine z_iconst C dL_law_445 (v := nI 2) (by decide) ?_
  refine z_iadd C dL_law_446 (v := nI (i + 2)) (nI_add i 2) ?_
  refine z_sld C hSc (j := i + 2) (by omega) dL_law_447 ?_
  refine z_aload_n C dL_law_448 rfl (q := 3) rfl ?_
  refine z_iload_n C dL_law_449 rfl (q := 0) rfl ?_
  refine z_iconst C dL_law_450 (v := nI 3) (by decide) ?_
  refine z_iadd C dL_law_451 (v := nI (i + 3)) (nI_add i 3) ?_
  refine z_sld C hSc (j := i + 3) (by omega) dL_law_452 ?_
  refine z_aload_n C dL_law_453 rfl (q := 3) rfl ?_
  refine z_iload_n C dL_law_454 rfl (q := 0) rfl ?_
  refine z_iconst C dL_law_455 (v := nI 4) (by decide) ?_
  refine z_iadd C dL_law_456 (v := nI (i + 4)) (nI_add i 4) ?_
  refine z_sld C hSc (j := i + 4) (by omega) dL_law_457 ?_
  refine z_cI C (z_runV C (As := [Value.int (xs (i + 1)), Value.int (xs (i + 2)), Value.int (xs (i + 3)), Value.int (xs (i + 4))]) (rest := []) (c_X7_cut l D cy a L c g r nl nk hL hR hI x hX (xs (i + 1)) (xs (i + 2)) (xs (i + 3)) (xs (i + 4))) (cwV 4 C.2.2.2.2.2.1 gL_law_X7_cut rfl rfl rfl (by decide +kernel) ⟨Nat.le_of_ble_eq_true rfl, Nat.le_of_ble_eq_true rfl⟩) (hL _ (by unfold live; omega)) (zF_k7 (by rfl)) rfl rfl rfl rfl (Nat.le_of_ble_eq_true rfl) dL_law_458 ⟨by omega, by omega⟩) (fun v458 c458 e458 => ?_)
  have f1 : p7_cut c nl nk x (xs (i + 1)) (xs (i + 2)) (xs (i + 3)) (xs (i + 4)) v458 c458 := e458
  have hK1 := LK_s (lks_hi (opA_cut hV f1)) hK
  refine z_aload_n C dL_law_461 rfl (q := 1) rfl ?_
  refine z_aload_n C dL_law_462 rfl (q := 3) rfl ?_
  refine z_iload_n C dL_law_463 rfl (q := 0) rfl ?_
  refine z_iconst C dL_law_464 (v := nI 1) (by decide) ?_
  refine z_iadd C dL_law_465 (v := nI (i + 1)) (nI_add i 1) ?_
  refine z_sld C hSc (j := i + 1) (by omega) dL_law_466 ?_
  refine z_aload_n C dL_law_467 rfl (q := 3) rfl ?_
  refine z_iload_n C dL_law_468 rfl (q := 0) rfl ?_
  refine z_iconst C dL_law_469 (v := nI 2) (by decide) ?_
  refine z_iadd C dL_law_470 (v := nI (i + 2)) (nI_add i 2) ?_
  refine z_sld C hSc (j := i + 2) (by omega) dL_law_471 ?_
  refine z_aload_n C dL_law_472 rfl (q := 3) rfl ?_
  refine z_iload_n C dL_law_473 rfl (q := 0) rfl ?_
  refine z_iconst C dL_law_474 (v := nI 3) (by decide) ?_
  refine z_iadd C dL_law_475 (v := nI (i + 3)) (nI_add i 3) ?_
  refine z_sld C hSc (j := i + 3) (by omega) dL_law_476 ?_
  refine z_aload_n C dL_law_477 rfl (q := 3) rfl ?_
  refine z_iload_n C dL_law_478 rfl (q := 0) rfl ?_
  refine z_iconst C dL_law_479 (v := nI 4) (by decide) ?_
  refine z_iadd C dL_law_480 (v := nI (i + 4)) (nI_add i 4) ?_
  refine z_sld C hSc (j := i + 4) (by omega) dL_law_481 ?_
  refine z_cI C (z_runV C (As := [Value.int (xs (i + 1)), Value.int (xs (i + 2)), Value.int (xs (i + 3)), Value.int (xs (i + 4))]) (rest := [Value.int v458]) (c_X8_cut l D cy a L c458 g r nl nk hL hM c hI x hXl hK1 (xs (i + 1)) (xs (i + 2)) (xs (i + 3)) (xs (i + 4))) (cwV 4 C.2.2.2.2.2.1 gL_law_X8_cut rfl rfl rfl (by decide +kernel) ⟨Nat.le_of_ble_eq_true rfl, Nat.le_of_ble_eq_true rfl⟩) (hL _ (by unfold live; omega)) (zF_k8 (by rfl)) rfl rfl rfl rfl (Nat.le_of_ble_eq_true rfl) dL_law_482 ⟨by omega, by omega⟩) (fun v482 c482 e482 => ?_)
  have f2 : p8_cut c458 c nl nk x (xs (i + 1)) (xs (i + 2)) (xs (i + 3)) (xs (i + 4)) v482 c482 := e482
  obtain ⟨heq, hV2⟩ := opB_cut hV f1 f2
  refine z_icmp_eq C dL_law_485 (tgt := 1296) (by decide) (fun h485 => ?_) (fun h485 => absurd (heq) h485)
  refine z_widen (k := ce + 2) (n := sl + 9) (by omega) (by omega) ?_
  exact kk a L c482 g r _ _ _ hV2

set_option maxHeartbeats 4000000 in
set_option maxRecDepth 100000 in
theorem law_readings {p : Program} {l : Launch} {e : Env} {s : State} {m : MethodId} {args : Array Value} {below : List Frame} {meth : Method} {co : Code} {D : va_G} {cy : Nat → ClassId} {A : Nat → Prop} {rt : Option FieldType} {Q : State → Prop} {b n i ce sl : Nat} {xs : Nat → Int32} {a : Nat → Nat} {L : List Nat} {c : Nat → Nat → Int32} {g : Nat → Nat → Int64} {r : Nat → Nat → Option Nat} {nl nk : Nat} {x : Nat → Nat → Nat} (C : zC p s m args meth co D cy A cL_law 4 rt wsL_law RL) (hSc : zScr b n xs s A) (hi : i + 6 ≤ n) (hc : ce + 2 ≤ room_1.cells) (hs : sl + 9 ≤ room_1.slots) (hV : INV L c r nl nk x) (kk : ∀ (a' : Nat → Nat) (L' : List Nat) (c' : Nat → Nat → Int32) (g' : Nat → Nat → Int64) (r' : Nat → Nat → Option Nat) (nl' nk' : Nat) (x' : Nat → Nat → Nat), INV L' c' r' nl' nk' x' → zG p l e room_1 s m args below meth co D cy A 4 Q (ce + 2) (sl + 9) a' L' c' g' r' [(3, Value.int (nI i)), (2, Value.ref (a' 300)), (1, Value.ref (a' 0)), (0, Value.ref b)] 1296 []) : zG p l e room_1 s m args below meth co D cy A 4 Q ce sl a L c g r [(3, Value.int (nI i)), (2, Value.ref (a 300)), (1, Value.ref (a 0)), (0, Value.ref b)] 490 [] := by
  have hn := hSc.2.2.2
  obtain ⟨hL, hR, hM, hI, hX, hK, hZ, hF, hG⟩ := id hV
  have hXl := XC_L hX
  have h16 := CI_nl16 hI
  have h40 := CI_nk40 hI
  refine z_aload_n C dL_law_490 rfl (q := 2) rfl ?_
  refine z_aload_n C dL_law_491 rfl (q := 3) rfl ?_
  refine z_iload_n C dL_law_492 rfl (q := 0) rfl ?_
  refine z_iconst C dL_law_493 (v := nI 1) (by decide) ?_
  refine z_iadd C dL_law_494 (v := nI (i + 1)) (nI_add i 1) ?_
  refine z_sld C hSc (j := i + 1) (by omega) dL_law_495 ?_
  refine z_cI C (z_runV C (As := [Value.int (xs (i + 1))]) (rest := []) (c_X7_readings l D cy a L c g r nl nk hL hR hI x hX (xs (i + 1))) (cwV 1 C.2.2.2.2.2.1 gL_law_X7_readings rfl rfl rfl (by decide +kernel) ⟨Nat.le_of_ble_eq_true rfl, Nat.le_of_ble_eq_true rfl⟩) (hL _ (by unfold live; omega)) (zF_k7 (by rfl)) rfl rfl rfl rfl (Nat.le_of_ble_eq_true rfl) dL_law_496 ⟨by omega, by omega⟩) (fun v496 c496 e496 => ?_)
  have f1 : p7_readings c nl nk x (xs (i + 1)) v496 c496 := e496
  have hK1 := LK_s (lks_hi (opA_readings hV f1)) hK
  refine z_aload_n C dL_law_499 rfl (q := 1) rfl ?_
  refine z_aload_n C dL_law_500 rfl (q := 3) rfl ?_
  refine z_iload_n C dL_law_501 rfl (q := 0) rfl ?_
  refine z_iconst C dL_law_502 (v := nI 1) (by decide) ?_
  refine z_iadd C dL_law_503 (v := nI (i + 1)) (nI_add i 1) ?_
  refine z_sld C hSc (j := i + 1) (by omega) dL_law_504 ?_
  refine z_cI C (z_runV C (As := [Value.int (xs (i + 1))]) (rest := [Value.int v496]) (c_X8_readings l D cy a L c496 g r nl nk hL hM c hI x hXl hK1 (xs (i + 1))) (cwV 1 C.2.2.2.2.2.1 gL_law_X8_readings rfl rfl rfl (by decide +kernel) ⟨Nat.le_of_ble_eq_true rfl, Nat.le_of_ble_eq_true rfl⟩) (hL _ (by unfold live; omega)) (zF_k8 (by rfl)) rfl rfl rfl rfl (Nat.le_of_ble_eq_true rfl) dL_law_505 ⟨by omega, by omega⟩) (fun v505 c505 e505 => ?_)
  have f2 : p8_readings c496 c nl nk x (xs (i + 1)) v505 c505 := e505
  obtain ⟨heq, hV2⟩ := opB_readings hV f1 f2
  refine z_icmp_eq C dL_law_508 (tgt := 1296) (by decide) (fun h508 => ?_) (fun h508 => absurd (heq) h508)
  refine z_widen (k := ce + 2) (n := sl + 9) (by omega) (by omega) ?_
  exact kk a L c505 g r _ _ _ hV2

set_option maxHeartbeats 4000000 in
set_option maxRecDepth 100000 in
theorem law_reading {p : Program} {l : Launch} {e : Env} {s : State} {m : MethodId} {args : Array Value} {below : List Frame} {meth : Method} {co : Code} {D : va_G} {cy : Nat → ClassId} {A : Nat → Prop} {rt : Option FieldType} {Q : State → Prop} {b n i ce sl : Nat} {xs : Nat → Int32} {a : Nat → Nat} {L : List Nat} {c : Nat → Nat → Int32} {g : Nat → Nat → Int64} {r : Nat → Nat → Option Nat} {nl nk : Nat} {x : Nat → Nat → Nat} (C : zC p s m args meth co D cy A cL_law 4 rt wsL_law RL) (hSc : zScr b n xs s A) (hi : i + 6 ≤ n) (hc : ce + 2 ≤ room_1.cells) (hs : sl + 9 ≤ room_1.slots) (hV : INV L c r nl nk x) (kk : ∀ (a' : Nat → Nat) (L' : List Nat) (c' : Nat → Nat → Int32) (g' : Nat → Nat → Int64) (r' : Nat → Nat → Option Nat) (nl' nk' : Nat) (x' : Nat → Nat → Nat), INV L' c' r' nl' nk' x' → zG p l e room_1 s m args below meth co D cy A 4 Q (ce + 2) (sl + 9) a' L' c' g' r' [(3, Value.int (nI i)), (2, Value.ref (a' 300)), (1, Value.ref (a' 0)), (0, Value.ref b)] 1296 []) : zG p l e room_1 s m args below meth co D cy A 4 Q ce sl a L c g r [(3, Value.int (nI i)), (2, Value.ref (a 300)), (1, Value.ref (a 0)), (0, Value.ref b)] 513 [] := by
  have hn := hSc.2.2.2
  obtain ⟨hL, hR, hM, hI, hX, hK, hZ, hF, hG⟩ := id hV
  have hXl := XC_L hX
  have h16 := CI_nl16 hI
  have h40 := CI_nk40 hI
  refine z_aload_n C dL_law_513 rfl (q := 2) rfl ?_
  refine z_aload_n C dL_law_514 rfl (q := 3) rfl ?_
  refine z_iload_n C dL_law_515 rfl (q := 0) rfl ?_
  refine z_iconst C dL_law_516 (v := nI 1) (by decide) ?_
  refine z_iadd C dL_law_517 (v := nI (i + 1)) (nI_add i 1) ?_
  refine z_sld C hSc (j := i + 1) (by omega) dL_law_518 ?_
  refine z_aload_n C dL_law_519 rfl (q := 3) rfl ?_
  refine z_iload_n C dL_law_520 rfl (q := 0) rfl ?_
  refine z_iconst C dL_law_521 (v := nI 2) (by decide) ?_
  refine z_iadd C dL_law_522 (v := nI (i + 2)) (nI_add i 2) ?_
  refine z_sld C hSc (j := i + 2) (by omega) dL_law_523 ?_
  refine z_cI C (z_runV C (As := [Value.int (xs (i + 1)), Value.int (xs (i + 2))]) (rest := []) (c_X7_reading l D cy a L c g r nl nk hL hR hI x hX (xs (i + 1)) (xs (i + 2))) (cwV 2 C.2.2.2.2.2.1 gL_law_X7_reading rfl rfl rfl (by decide +kernel) ⟨Nat.le_of_ble_eq_true rfl, Nat.le_of_ble_eq_true rfl⟩) (hL _ (by unfold live; omega)) (zF_k7 (by rfl)) rfl rfl rfl rfl (Nat.le_of_ble_eq_true rfl) dL_law_524 ⟨by omega, by omega⟩) (fun v524 c524 e524 => ?_)
  have f1 : p7_reading c nl nk x (xs (i + 1)) (xs (i + 2)) v524 c524 := e524
  have hK1 := LK_s (lks_hi (opA_reading hV f1)) hK
  refine z_aload_n C dL_law_527 rfl (q := 1) rfl ?_
  refine z_aload_n C dL_law_528 rfl (q := 3) rfl ?_
  refine z_iload_n C dL_law_529 rfl (q := 0) rfl ?_
  refine z_iconst C dL_law_530 (v := nI 1) (by decide) ?_
  refine z_iadd C dL_law_531 (v := nI (i + 1)) (nI_add i 1) ?_
  refine z_sld C hSc (j := i + 1) (by omega) dL_law_532 ?_
  refine z_aload_n C dL_law_533 rfl (q := 3) rfl ?_
  refine z_iload_n C dL_law_534 rfl (q := 0) rfl ?_
  refine z_iconst C dL_law_535 (v := nI 2) (by decide) ?_
  refine z_iadd C dL_law_536 (v := nI (i + 2)) (nI_add i 2) ?_
  refine z_sld C hSc (j := i + 2) (by omega) dL_law_537 ?_
  refine z_cI C (z_runV C (As := [Value.int (xs (i + 1)), Value.int (xs (i + 2))]) (rest := [Value.int v524]) (c_X8_reading l D cy a L c524 g r nl nk hL hM c hI x hXl hK1 (xs (i + 1)) (xs (i + 2))) (cwV 2 C.2.2.2.2.2.1 gL_law_X8_reading rfl rfl rfl (by decide +kernel) ⟨Nat.le_of_ble_eq_true rfl, Nat.le_of_ble_eq_true rfl⟩) (hL _ (by unfold live; omega)) (zF_k8 (by rfl)) rfl rfl rfl rfl (Nat.le_of_ble_eq_true rfl) dL_law_538 ⟨by omega, by omega⟩) (fun v538 c538 e538 => ?_)
  have f2 : p8_reading c524 c nl nk x (xs (i + 1)) (xs (i + 2)) v538 c538 := e538
  obtain ⟨heq, hV2⟩ := opB_reading hV f1 f2
  refine z_icmp_eq C dL_law_541 (tgt := 1296) (by decide) (fun h541 => ?_) (fun h541 => absurd (heq) h541)
  refine z_widen (k := ce + 2) (n := sl + 9) (by omega) (by omega) ?_
  exact kk a L c538 g r _ _ _ hV2

set_option maxHeartbeats 4000000 in
set_option maxRecDepth 100000 in
theorem law_words {p : Program} {l : Launch} {e : Env} {s : State} {m : MethodId} {args : Array Value} {below : List Frame} {meth : Method} {co : Code} {D : va_G} {cy : Nat → ClassId} {A : Nat → Prop} {rt : Option FieldType} {Q : State → Prop} {b n i ce sl : Nat} {xs : Nat → Int32} {a : Nat → Nat} {L : List Nat} {c : Nat → Nat → Int32} {g : Nat → Nat → Int64} {r : Nat → Nat → Option Nat} {nl nk : Nat} {x : Nat → Nat → Nat} (C : zC p s m args meth co D cy A cL_law 4 rt wsL_law RL) (hSc : zScr b n xs s A) (hi : i + 6 ≤ n) (hc : ce + 2 ≤ room_1.cells) (hs : sl + 9 ≤ room_1.slots) (hV : INV L c r nl nk x) (kk : ∀ (a' : Nat → Nat) (L' : List Nat) (c' : Nat → Nat → Int32) (g' : Nat → Nat → Int64) (r' : Nat → Nat → Option Nat) (nl' nk' : Nat) (x' : Nat → Nat → Nat), INV L' c' r' nl' nk' x' → zG p l e room_1 s m args below meth co D cy A 4 Q (ce + 2) (sl + 9) a' L' c' g' r' [(3, Value.int (nI i)), (2, Value.ref (a' 300)), (1, Value.ref (a' 0)), (0, Value.ref b)] 1296 []) : zG p l e room_1 s m args below meth co D cy A 4 Q ce sl a L c g r [(3, Value.int (nI i)), (2, Value.ref (a 300)), (1, Value.ref (a 0)), (0, Value.ref b)] 546 [] := by
  have hn := hSc.2.2.2
  obtain ⟨hL, hR, hM, hI, hX, hK, hZ, hF, hG⟩ := id hV
  have hXl := XC_L hX
  have h16 := CI_nl16 hI
  have h40 := CI_nk40 hI
  refine z_aload_n C dL_law_546 rfl (q := 2) rfl ?_
  refine z_aload_n C dL_law_547 rfl (q := 3) rfl ?_
  refine z_iload_n C dL_law_548 rfl (q := 0) rfl ?_
  refine z_iconst C dL_law_549 (v := nI 1) (by decide) ?_
  refine z_iadd C dL_law_550 (v := nI (i + 1)) (nI_add i 1) ?_
  refine z_sld C hSc (j := i + 1) (by omega) dL_law_551 ?_
  refine z_cI C (z_runV C (As := [Value.int (xs (i + 1))]) (rest := []) (c_X7_words l D cy a L c g r nl nk hL hR hI x hX (xs (i + 1))) (cwV 1 C.2.2.2.2.2.1 gL_law_X7_words rfl rfl rfl (by decide +kernel) ⟨Nat.le_of_ble_eq_true rfl, Nat.le_of_ble_eq_true rfl⟩) (hL _ (by unfold live; omega)) (zF_k7 (by rfl)) rfl rfl rfl rfl (Nat.le_of_ble_eq_true rfl) dL_law_552 ⟨by omega, by omega⟩) (fun v552 c552 e552 => ?_)
  have f1 : p7_words c nl nk x (xs (i + 1)) v552 c552 := e552
  have hK1 := LK_s (lks_hi (opA_words hV f1)) hK
  refine z_aload_n C dL_law_555 rfl (q := 1) rfl ?_
  refine z_aload_n C dL_law_556 rfl (q := 3) rfl ?_
  refine z_iload_n C dL_law_557 rfl (q := 0) rfl ?_
  refine z_iconst C dL_law_558 (v := nI 1) (by decide) ?_
  refine z_iadd C dL_law_559 (v := nI (i + 1)) (nI_add i 1) ?_
  refine z_sld C hSc (j := i + 1) (by omega) dL_law_560 ?_
  refine z_cI C (z_runV C (As := [Value.int (xs (i + 1))]) (rest := [Value.int v552]) (c_X8_words l D cy a L c552 g r nl nk hL hM c hI x hXl hK1 (xs (i + 1))) (cwV 1 C.2.2.2.2.2.1 gL_law_X8_words rfl rfl rfl (by decide +kernel) ⟨Nat.le_of_ble_eq_true rfl, Nat.le_of_ble_eq_true rfl⟩) (hL _ (by unfold live; omega)) (zF_k8 (by rfl)) rfl rfl rfl rfl (Nat.le_of_ble_eq_true rfl) dL_law_561 ⟨by omega, by omega⟩) (fun v561 c561 e561 => ?_)
  have f2 : p8_words c552 c nl nk x (xs (i + 1)) v561 c561 := e561
  obtain ⟨heq, hV2⟩ := opB_words hV f1 f2
  refine z_icmp_eq C dL_law_564 (tgt := 1296) (by decide) (fun h564 => ?_) (fun h564 => absurd (heq) h564)
  refine z_widen (k := ce + 2) (n := sl + 9) (by omega) (by omega) ?_
  exact kk a L c561 g r _ _ _ hV2

set_option maxHeartbeats 4000000 in
set_option maxRecDepth 100000 in
theorem law_order {p : Program} {l : Launch} {e : Env} {s : State} {m : MethodId} {args : Array Value} {below : List Frame} {meth : Method} {co : Code} {D : va_G} {cy : Nat → ClassId} {A : Nat → Prop} {rt : Option FieldType} {Q : State → Prop} {b n i ce sl : Nat} {xs : Nat → Int32} {a : Nat → Nat} {L : List Nat} {c : Nat → Nat → Int32} {g : Nat → Nat → Int64} {r : Nat → Nat → Option Nat} {nl nk : Nat} {x : Nat → Nat → Nat} (C : zC p s m args meth co D cy A cL_law 4 rt wsL_law RL) (hSc : zScr b n xs s A) (hi : i + 6 ≤ n) (hc : ce + 2 ≤ room_1.cells) (hs : sl + 9 ≤ room_1.slots) (hV : INV L c r nl nk x) (kk : ∀ (a' : Nat → Nat) (L' : List Nat) (c' : Nat → Nat → Int32) (g' : Nat → Nat → Int64) (r' : Nat → Nat → Option Nat) (nl' nk' : Nat) (x' : Nat → Nat → Nat), INV L' c' r' nl' nk' x' → zG p l e room_1 s m args below meth co D cy A 4 Q (ce + 2) (sl + 9) a' L' c' g' r' [(3, Value.int (nI i)), (2, Value.ref (a' 300)), (1, Value.ref (a' 0)), (0, Value.ref b)] 1296 []) : zG p l e room_1 s m args below meth co D cy A 4 Q ce sl a L c g r [(3, Value.int (nI i)), (2, Value.ref (a 300)), (1, Value.ref (a 0)), (0, Value.ref b)] 569 [] := by
  have hn := hSc.2.2.2
  obtain ⟨hL, hR, hM, hI, hX, hK, hZ, hF, hG⟩ := id hV
  have hXl := XC_L hX
  have h16 := CI_nl16 hI
  have h40 := CI_nk40 hI
  refine z_aload_n C dL_law_569 rfl (q := 2) rfl ?_
  refine z_aload_n C dL_law_570 rfl (q := 3) rfl ?_
  refine z_iload_n C dL_law_571 rfl (q := 0) rfl ?_
  refine z_iconst C dL_law_572 (v := nI 1) (by decide) ?_
  refine z_iadd C dL_law_573 (v := nI (i + 1)) (nI_add i 1) ?_
  refine z_sld C hSc (j := i + 1) (by omega) dL_law_574 ?_
  refine z_aload_n C dL_law_575 rfl (q := 3) rfl ?_
  refine z_iload_n C dL_law_576 rfl (q := 0) rfl ?_
  refine z_iconst C dL_law_577 (v := nI 2) (by decide) ?_
  refine z_iadd C dL_law_578 (v := nI (i + 2)) (nI_add i 2) ?_
  refine z_sld C hSc (j := i + 2) (by omega) dL_law_579 ?_
  refine z_pI C (z_runV C (As := [Value.int (xs (i + 1)), Value.int (xs (i + 2))]) (rest := []) (c_X7_order l D cy a L c g r nl nk hL hR hI x hX (xs (i + 1)) (xs (i + 2))) (cwV 2 C.2.2.2.2.2.1 gL_law_X7_order rfl rfl rfl (by decide +kernel) ⟨Nat.le_of_ble_eq_true rfl, Nat.le_of_ble_eq_true rfl⟩) (hL _ (by unfold live; omega)) (zF_k7 (by rfl)) rfl rfl rfl rfl (Nat.le_of_ble_eq_true rfl) dL_law_580 ⟨by omega, by omega⟩) (fun v580 e580 => ?_)
  have f1 : p7_order c nl nk x (xs (i + 1)) (xs (i + 2)) v580 := e580
  refine z_aload_n C dL_law_583 rfl (q := 1) rfl ?_
  refine z_aload_n C dL_law_584 rfl (q := 3) rfl ?_
  refine z_iload_n C dL_law_585 rfl (q := 0) rfl ?_
  refine z_iconst C dL_law_586 (v := nI 1) (by decide) ?_
  refine z_iadd C dL_law_587 (v := nI (i + 1)) (nI_add i 1) ?_
  refine z_sld C hSc (j := i + 1) (by omega) dL_law_588 ?_
  refine z_aload_n C dL_law_589 rfl (q := 3) rfl ?_
  refine z_iload_n C dL_law_590 rfl (q := 0) rfl ?_
  refine z_iconst C dL_law_591 (v := nI 2) (by decide) ?_
  refine z_iadd C dL_law_592 (v := nI (i + 2)) (nI_add i 2) ?_
  refine z_sld C hSc (j := i + 2) (by omega) dL_law_593 ?_
  refine z_cI C (z_runV C (As := [Value.int (xs (i + 1)), Value.int (xs (i + 2))]) (rest := [Value.int v580]) (c_X8_order l D cy a L c g r nl nk hL hM c hI x hXl hK (xs (i + 1)) (xs (i + 2))) (cwV 2 C.2.2.2.2.2.1 gL_law_X8_order rfl rfl rfl (by decide +kernel) ⟨Nat.le_of_ble_eq_true rfl, Nat.le_of_ble_eq_true rfl⟩) (hL _ (by unfold live; omega)) (zF_k8 (by rfl)) rfl rfl rfl rfl (Nat.le_of_ble_eq_true rfl) dL_law_594 ⟨by omega, by omega⟩) (fun v594 c594 e594 => ?_)
  have f2 : p8_order c c nl nk x (xs (i + 1)) (xs (i + 2)) v594 c594 := e594
  obtain ⟨heq, hV2⟩ := opB_order hV f1 f2
  refine z_icmp_eq C dL_law_597 (tgt := 1296) (by decide) (fun h597 => ?_) (fun h597 => absurd (heq) h597)
  refine z_widen (k := ce + 2) (n := sl + 9) (by omega) (by omega) ?_
  exact kk a L c594 g r _ _ _ hV2

set_option maxHeartbeats 4000000 in
set_option maxRecDepth 100000 in
theorem law_late {p : Program} {l : Launch} {e : Env} {s : State} {m : MethodId} {args : Array Value} {below : List Frame} {meth : Method} {co : Code} {D : va_G} {cy : Nat → ClassId} {A : Nat → Prop} {rt : Option FieldType} {Q : State → Prop} {b n i ce sl : Nat} {xs : Nat → Int32} {a : Nat → Nat} {L : List Nat} {c : Nat → Nat → Int32} {g : Nat → Nat → Int64} {r : Nat → Nat → Option Nat} {nl nk : Nat} {x : Nat → Nat → Nat} (C : zC p s m args meth co D cy A cL_law 4 rt wsL_law RL) (hSc : zScr b n xs s A) (hi : i + 6 ≤ n) (hc : ce + 2 ≤ room_1.cells) (hs : sl + 9 ≤ room_1.slots) (hV : INV L c r nl nk x) (kk : ∀ (a' : Nat → Nat) (L' : List Nat) (c' : Nat → Nat → Int32) (g' : Nat → Nat → Int64) (r' : Nat → Nat → Option Nat) (nl' nk' : Nat) (x' : Nat → Nat → Nat), INV L' c' r' nl' nk' x' → zG p l e room_1 s m args below meth co D cy A 4 Q (ce + 2) (sl + 9) a' L' c' g' r' [(3, Value.int (nI i)), (2, Value.ref (a' 300)), (1, Value.ref (a' 0)), (0, Value.ref b)] 1296 []) : zG p l e room_1 s m args below meth co D cy A 4 Q ce sl a L c g r [(3, Value.int (nI i)), (2, Value.ref (a 300)), (1, Value.ref (a 0)), (0, Value.ref b)] 602 [] := by
  have hn := hSc.2.2.2
  obtain ⟨hL, hR, hM, hI, hX, hK, hZ, hF, hG⟩ := id hV
  have hXl := XC_L hX
  have h16 := CI_nl16 hI
  have h40 := CI_nk40 hI
  refine z_aload_n C dL_law_602 rfl (q := 2) rfl ?_
  refine z_aload_n C dL_law_603 rfl (q := 3) rfl ?_
  refine z_iload_n C dL_law_604 rfl (q := 0) rfl ?_
  refine z_iconst C dL_law_605 (v := nI 1) (by decide) ?_
  refine z_iadd C dL_law_606 (v := nI (i + 1)) (nI_add i 1) ?_
  refine z_sld C hSc (j := i + 1) (by omega) dL_law_607 ?_
  refine z_pI C (z_runV C (As := [Value.int (xs (i + 1))]) (rest := []) (c_X7_late l D cy a L c g r nl nk hL hR hI x hX (xs (i + 1))) (cwV 1 C.2.2.2.2.2.1 gL_law_X7_late rfl rfl rfl (by decide +kernel) ⟨Nat.le_of_ble_eq_true rfl, Nat.le_of_ble_eq_true rfl⟩) (hL _ (by unfold live; omega)) (zF_k7 (by rfl)) rfl rfl rfl rfl (Nat.le_of_ble_eq_true rfl) dL_law_608 ⟨by omega, by omega⟩) (fun v608 e608 => ?_)
  have f1 : p7_late c nl nk x (xs (i + 1)) v608 := e608
  refine z_aload_n C dL_law_611 rfl (q := 1) rfl ?_
  refine z_aload_n C dL_law_612 rfl (q := 3) rfl ?_
  refine z_iload_n C dL_law_613 rfl (q := 0) rfl ?_
  refine z_iconst C dL_law_614 (v := nI 1) (by decide) ?_
  refine z_iadd C dL_law_615 (v := nI (i + 1)) (nI_add i 1) ?_
  refine z_sld C hSc (j := i + 1) (by omega) dL_law_616 ?_
  refine z_cI C (z_runV C (As := [Value.int (xs (i + 1))]) (rest := [Value.int v608]) (c_X8_late l D cy a L c g r nl nk hL hM c hI x hXl hK (xs (i + 1))) (cwV 1 C.2.2.2.2.2.1 gL_law_X8_late rfl rfl rfl (by decide +kernel) ⟨Nat.le_of_ble_eq_true rfl, Nat.le_of_ble_eq_true rfl⟩) (hL _ (by unfold live; omega)) (zF_k8 (by rfl)) rfl rfl rfl rfl (Nat.le_of_ble_eq_true rfl) dL_law_617 ⟨by omega, by omega⟩) (fun v617 c617 e617 => ?_)
  have f2 : p8_late c c nl nk x (xs (i + 1)) v617 c617 := e617
  obtain ⟨heq, hV2⟩ := opB_late hV f1 f2
  refine z_icmp_eq C dL_law_620 (tgt := 1296) (by decide) (fun h620 => ?_) (fun h620 => absurd (heq) h620)
  refine z_widen (k := ce + 2) (n := sl + 9) (by omega) (by omega) ?_
  exact kk a L c617 g r _ _ _ hV2

set_option maxHeartbeats 4000000 in
set_option maxRecDepth 100000 in
theorem law_spoiled {p : Program} {l : Launch} {e : Env} {s : State} {m : MethodId} {args : Array Value} {below : List Frame} {meth : Method} {co : Code} {D : va_G} {cy : Nat → ClassId} {A : Nat → Prop} {rt : Option FieldType} {Q : State → Prop} {b n i ce sl : Nat} {xs : Nat → Int32} {a : Nat → Nat} {L : List Nat} {c : Nat → Nat → Int32} {g : Nat → Nat → Int64} {r : Nat → Nat → Option Nat} {nl nk : Nat} {x : Nat → Nat → Nat} (C : zC p s m args meth co D cy A cL_law 4 rt wsL_law RL) (hSc : zScr b n xs s A) (hi : i + 6 ≤ n) (hc : ce + 2 ≤ room_1.cells) (hs : sl + 9 ≤ room_1.slots) (hV : INV L c r nl nk x) (kk : ∀ (a' : Nat → Nat) (L' : List Nat) (c' : Nat → Nat → Int32) (g' : Nat → Nat → Int64) (r' : Nat → Nat → Option Nat) (nl' nk' : Nat) (x' : Nat → Nat → Nat), INV L' c' r' nl' nk' x' → zG p l e room_1 s m args below meth co D cy A 4 Q (ce + 2) (sl + 9) a' L' c' g' r' [(3, Value.int (nI i)), (2, Value.ref (a' 300)), (1, Value.ref (a' 0)), (0, Value.ref b)] 1296 []) : zG p l e room_1 s m args below meth co D cy A 4 Q ce sl a L c g r [(3, Value.int (nI i)), (2, Value.ref (a 300)), (1, Value.ref (a 0)), (0, Value.ref b)] 625 [] := by
  have hn := hSc.2.2.2
  obtain ⟨hL, hR, hM, hI, hX, hK, hZ, hF, hG⟩ := id hV
  have hXl := XC_L hX
  have h16 := CI_nl16 hI
  have h40 := CI_nk40 hI
  refine z_aload_n C dL_law_625 rfl (q := 2) rfl ?_
  refine z_aload_n C dL_law_626 rfl (q := 3) rfl ?_
  refine z_iload_n C dL_law_627 rfl (q := 0) rfl ?_
  refine z_iconst C dL_law_628 (v := nI 1) (by decide) ?_
  refine z_iadd C dL_law_629 (v := nI (i + 1)) (nI_add i 1) ?_
  refine z_sld C hSc (j := i + 1) (by omega) dL_law_630 ?_
  refine z_pI C (z_runV C (As := [Value.int (xs (i + 1))]) (rest := []) (c_X7_spoiled l D cy a L c g r nl nk hL hR hI x hX (xs (i + 1))) (cwV 1 C.2.2.2.2.2.1 gL_law_X7_spoiled rfl rfl rfl (by decide +kernel) ⟨Nat.le_of_ble_eq_true rfl, Nat.le_of_ble_eq_true rfl⟩) (hL _ (by unfold live; omega)) (zF_k7 (by rfl)) rfl rfl rfl rfl (Nat.le_of_ble_eq_true rfl) dL_law_631 ⟨by omega, by omega⟩) (fun v631 e631 => ?_)
  have f1 : p7_spoiled c nl nk x (xs (i + 1)) v631 := e631
  refine z_aload_n C dL_law_634 rfl (q := 1) rfl ?_
  refine z_aload_n C dL_law_635 rfl (q := 3) rfl ?_
  refine z_iload_n C dL_law_636 rfl (q := 0) rfl ?_
  refine z_iconst C dL_law_637 (v := nI 1) (by decide) ?_
  refine z_iadd C dL_law_638 (v := nI (i + 1)) (nI_add i 1) ?_
  refine z_sld C hSc (j := i + 1) (by omega) dL_law_639 ?_
  refine z_cI C (z_runV C (As := [Value.int (xs (i + 1))]) (rest := [Value.int v631]) (c_X8_spoiled l D cy a L c g r nl nk hL hM c hI x hXl hK (xs (i + 1))) (cwV 1 C.2.2.2.2.2.1 gL_law_X8_spoiled rfl rfl rfl (by decide +kernel) ⟨Nat.le_of_ble_eq_true rfl, Nat.le_of_ble_eq_true rfl⟩) (hL _ (by unfold live; omega)) (zF_k8 (by rfl)) rfl rfl rfl rfl (Nat.le_of_ble_eq_true rfl) dL_law_640 ⟨by omega, by omega⟩) (fun v640 c640 e640 => ?_)
  have f2 : p8_spoiled c c nl nk x (xs (i + 1)) v640 c640 := e640
  obtain ⟨heq, hV2⟩ := opB_spoiled hV f1 f2
  refine z_icmp_eq C dL_law_643 (tgt := 1296) (by decide) (fun h643 => ?_) (fun h643 => absurd (heq) h643)
  refine z_widen (k := ce + 2) (n := sl + 9) (by omega) (by omega) ?_
  exact kk a L c640 g r _ _ _ hV2

set_option maxHeartbeats 4000000 in
set_option maxRecDepth 100000 in
theorem law_set {p : Program} {l : Launch} {e : Env} {s : State} {m : MethodId} {args : Array Value} {below : List Frame} {meth : Method} {co : Code} {D : va_G} {cy : Nat → ClassId} {A : Nat → Prop} {rt : Option FieldType} {Q : State → Prop} {b n i ce sl : Nat} {xs : Nat → Int32} {a : Nat → Nat} {L : List Nat} {c : Nat → Nat → Int32} {g : Nat → Nat → Int64} {r : Nat → Nat → Option Nat} {nl nk : Nat} {x : Nat → Nat → Nat} (C : zC p s m args meth co D cy A cL_law 4 rt wsL_law RL) (hSc : zScr b n xs s A) (hSt : zSt A s s.heap) (hi : i + 6 ≤ n) (hc : ce + 2 ≤ room_1.cells) (hs : sl + 9 ≤ room_1.slots) (hV : INV L c r nl nk x) (kk : ∀ (a' : Nat → Nat) (L' : List Nat) (c' : Nat → Nat → Int32) (g' : Nat → Nat → Int64) (r' : Nat → Nat → Option Nat) (nl' nk' : Nat) (x' : Nat → Nat → Nat), INV L' c' r' nl' nk' x' → zG p l e room_1 s m args below meth co D cy A 4 Q (ce + 2) (sl + 9) a' L' c' g' r' [(3, Value.int (nI i)), (2, Value.ref (a' 300)), (1, Value.ref (a' 0)), (0, Value.ref b)] 1296 []) : zG p l e room_1 s m args below meth co D cy A 4 Q ce sl a L c g r [(3, Value.int (nI i)), (2, Value.ref (a 300)), (1, Value.ref (a 0)), (0, Value.ref b)] 648 [] := by
  have hn := hSc.2.2.2
  obtain ⟨hL, hR, hM, hI, hX, hK, hZ, hF, hG⟩ := id hV
  have hXl := XC_L hX
  have h16 := CI_nl16 hI
  have h40 := CI_nk40 hI
  refine z_aload_n C dL_law_648 rfl (q := 2) rfl ?_
  refine z_aload_n C dL_law_649 rfl (q := 3) rfl ?_
  refine z_iload_n C dL_law_650 rfl (q := 0) rfl ?_
  refine z_iconst C dL_law_651 (v := nI 1) (by decide) ?_
  refine z_iadd C dL_law_652 (v := nI (i + 1)) (nI_add i 1) ?_
  refine z_sld C hSc (j := i + 1) (by omega) dL_law_653 ?_
  refine z_aload_n C dL_law_654 rfl (q := 3) rfl ?_
  refine z_iload_n C dL_law_655 rfl (q := 0) rfl ?_
  refine z_iconst C dL_law_656 (v := nI 2) (by decide) ?_
  refine z_iadd C dL_law_657 (v := nI (i + 2)) (nI_add i 2) ?_
  refine z_sld C hSc (j := i + 2) (by omega) dL_law_658 ?_
  refine z_xI C (z_runVS C hSt (As := [Value.int (xs (i + 1)), Value.int (xs (i + 2))]) (rest := []) (c_X7_set l D cy a L c g r nl nk hL hR hI (xs (i + 1)) (xs (i + 2))) (cwV 2 C.2.2.2.2.2.1 gL_law_X7_set rfl rfl rfl (by decide +kernel) ⟨Nat.le_of_ble_eq_true rfl, Nat.le_of_ble_eq_true rfl⟩) (hL _ (by unfold live; omega)) (zF_k7 (by rfl)) rfl rfl rfl rfl (Nat.le_of_ble_eq_true rfl) dL_law_659 ⟨by omega, by omega⟩) (fun v659 ω659 e659 => ?_)
  have f1 : p7_set a L c g r nl nk x (xs (i + 1)) (xs (i + 2)) v659 ω659 := e659
  obtain ⟨c1, hω, hc1⟩ := opA_set f1
  subst hω
  dsimp only
  have hK1 := LK_s (lks_hi hc1) hK
  refine z_aload_n C dL_law_662 rfl (q := 1) rfl ?_
  refine z_aload_n C dL_law_663 rfl (q := 3) rfl ?_
  refine z_iload_n C dL_law_664 rfl (q := 0) rfl ?_
  refine z_iconst C dL_law_665 (v := nI 1) (by decide) ?_
  refine z_iadd C dL_law_666 (v := nI (i + 1)) (nI_add i 1) ?_
  refine z_sld C hSc (j := i + 1) (by omega) dL_law_667 ?_
  refine z_aload_n C dL_law_668 rfl (q := 3) rfl ?_
  refine z_iload_n C dL_law_669 rfl (q := 0) rfl ?_
  refine z_iconst C dL_law_670 (v := nI 2) (by decide) ?_
  refine z_iadd C dL_law_671 (v := nI (i + 2)) (nI_add i 2) ?_
  refine z_sld C hSc (j := i + 2) (by omega) dL_law_672 ?_
  refine z_cI C (z_runV C (As := [Value.int (xs (i + 1)), Value.int (xs (i + 2))]) (rest := [Value.int v659]) (c_X8_set l D cy a L c1 g r nl nk hL hM c hI x hXl hK1 (xs (i + 1)) (xs (i + 2))) (cwV 2 C.2.2.2.2.2.1 gL_law_X8_set rfl rfl rfl (by decide +kernel) ⟨Nat.le_of_ble_eq_true rfl, Nat.le_of_ble_eq_true rfl⟩) (hL _ (by unfold live; omega)) (zF_k8 (by rfl)) rfl rfl rfl rfl (Nat.le_of_ble_eq_true rfl) dL_law_673 ⟨by omega, by omega⟩) (fun v673 c673 e673 => ?_)
  have f2 : p8_set c1 c nl nk x (xs (i + 1)) (xs (i + 2)) v673 c673 := e673
  obtain ⟨heq, hV2⟩ := opB_set (ω := (a, L, c1, g, r)) hV f1 f2
  refine z_icmp_eq C dL_law_676 (tgt := 1296) (by decide) (fun h676 => ?_) (fun h676 => absurd (heq) h676)
  refine z_widen (k := ce + 2) (n := sl + 9) (by omega) (by omega) ?_
  exact kk a L c673 g r _ _ _ hV2

set_option maxHeartbeats 4000000 in
set_option maxRecDepth 100000 in
theorem law_lump {p : Program} {l : Launch} {e : Env} {s : State} {m : MethodId} {args : Array Value} {below : List Frame} {meth : Method} {co : Code} {D : va_G} {cy : Nat → ClassId} {A : Nat → Prop} {rt : Option FieldType} {Q : State → Prop} {b n i ce sl : Nat} {xs : Nat → Int32} {a : Nat → Nat} {L : List Nat} {c : Nat → Nat → Int32} {g : Nat → Nat → Int64} {r : Nat → Nat → Option Nat} {nl nk : Nat} {x : Nat → Nat → Nat} (C : zC p s m args meth co D cy A cL_law 4 rt wsL_law RL) (hSc : zScr b n xs s A) (hi : i + 6 ≤ n) (hc : ce + 2 ≤ room_1.cells) (hs : sl + 9 ≤ room_1.slots) (hV : INV L c r nl nk x) (kk : ∀ (a' : Nat → Nat) (L' : List Nat) (c' : Nat → Nat → Int32) (g' : Nat → Nat → Int64) (r' : Nat → Nat → Option Nat) (nl' nk' : Nat) (x' : Nat → Nat → Nat), INV L' c' r' nl' nk' x' → zG p l e room_1 s m args below meth co D cy A 4 Q (ce + 2) (sl + 9) a' L' c' g' r' [(3, Value.int (nI i)), (2, Value.ref (a' 300)), (1, Value.ref (a' 0)), (0, Value.ref b)] 1296 []) : zG p l e room_1 s m args below meth co D cy A 4 Q ce sl a L c g r [(3, Value.int (nI i)), (2, Value.ref (a 300)), (1, Value.ref (a 0)), (0, Value.ref b)] 681 [] := by
  have hn := hSc.2.2.2
  obtain ⟨hL, hR, hM, hI, hX, hK, hZ, hF, hG⟩ := id hV
  have hXl := XC_L hX
  have h16 := CI_nl16 hI
  have h40 := CI_nk40 hI
  refine z_aload_n C dL_law_681 rfl (q := 2) rfl ?_
  refine z_aload_n C dL_law_682 rfl (q := 3) rfl ?_
  refine z_iload_n C dL_law_683 rfl (q := 0) rfl ?_
  refine z_iconst C dL_law_684 (v := nI 1) (by decide) ?_
  refine z_iadd C dL_law_685 (v := nI (i + 1)) (nI_add i 1) ?_
  refine z_sld C hSc (j := i + 1) (by omega) dL_law_686 ?_
  refine z_aload_n C dL_law_687 rfl (q := 3) rfl ?_
  refine z_iload_n C dL_law_688 rfl (q := 0) rfl ?_
  refine z_iconst C dL_law_689 (v := nI 2) (by decide) ?_
  refine z_iadd C dL_law_690 (v := nI (i + 2)) (nI_add i 2) ?_
  refine z_sld C hSc (j := i + 2) (by omega) dL_law_691 ?_
  refine z_aload_n C dL_law_692 rfl (q := 3) rfl ?_
  refine z_iload_n C dL_law_693 rfl (q := 0) rfl ?_
  refine z_iconst C dL_law_694 (v := nI 3) (by decide) ?_
  refine z_iadd C dL_law_695 (v := nI (i + 3)) (nI_add i 3) ?_
  refine z_sld C hSc (j := i + 3) (by omega) dL_law_696 ?_
  refine z_aload_n C dL_law_697 rfl (q := 3) rfl ?_
  refine z_iload_n C dL_law_698 rfl (q := 0) rfl ?_
  refine z_iconst C dL_law_699 (v := nI 4) (by decide) ?_
  refine z_iadd C dL_law_700 (v := nI (i + 4)) (nI_add i 4) ?_
  refine z_sld C hSc (j := i + 4) (by omega) dL_law_701 ?_
  refine z_xI C (z_runV C (As := [Value.int (xs (i + 1)), Value.int (xs (i + 2)), Value.int (xs (i + 3)), Value.int (xs (i + 4))]) (rest := []) (c_X7_lump l D cy a L c g r nl nk hL hR hI x hX (hG nk (Nat.le_refl _) (by omega)) hZ (xs (i + 1)) (xs (i + 2)) (xs (i + 3)) (xs (i + 4))) (cwV 4 C.2.2.2.2.2.1 gL_law_X7_lump rfl rfl rfl (by decide +kernel) ⟨Nat.le_of_ble_eq_true rfl, Nat.le_of_ble_eq_true rfl⟩) (hL _ (by unfold live; omega)) (zF_k7 (by rfl)) rfl rfl rfl rfl (Nat.le_of_ble_eq_true rfl) dL_law_702 ⟨by omega, by omega⟩) (fun v702 ω702 e702 => ?_)
  have f1 : p7_lump a L c g r nl nk x (xs (i + 1)) (xs (i + 2)) (xs (i + 3)) (xs (i + 4)) v702 ω702 := e702
  obtain ⟨a1, L1, c1, g1, r1, hω, h0, h300, hL1, hM1, hc1⟩ := opA_lump hV f1
  subst hω
  dsimp only
  have hK1 := LK_s (lks_hi hc1) hK
  refine z_lveq (lv' := [(3, Value.int (nI i)), (2, Value.ref (a1 300)), (1, Value.ref (a1 0)), (0, Value.ref b)]) (by rw [h0, h300]) ?_
  refine z_aload_n C dL_law_705 rfl (q := 1) rfl ?_
  refine z_aload_n C dL_law_706 rfl (q := 3) rfl ?_
  refine z_iload_n C dL_law_707 rfl (q := 0) rfl ?_
  refine z_iconst C dL_law_708 (v := nI 1) (by decide) ?_
  refine z_iadd C dL_law_709 (v := nI (i + 1)) (nI_add i 1) ?_
  refine z_sld C hSc (j := i + 1) (by omega) dL_law_710 ?_
  refine z_aload_n C dL_law_711 rfl (q := 3) rfl ?_
  refine z_iload_n C dL_law_712 rfl (q := 0) rfl ?_
  refine z_iconst C dL_law_713 (v := nI 2) (by decide) ?_
  refine z_iadd C dL_law_714 (v := nI (i + 2)) (nI_add i 2) ?_
  refine z_sld C hSc (j := i + 2) (by omega) dL_law_715 ?_
  refine z_aload_n C dL_law_716 rfl (q := 3) rfl ?_
  refine z_iload_n C dL_law_717 rfl (q := 0) rfl ?_
  refine z_iconst C dL_law_718 (v := nI 3) (by decide) ?_
  refine z_iadd C dL_law_719 (v := nI (i + 3)) (nI_add i 3) ?_
  refine z_sld C hSc (j := i + 3) (by omega) dL_law_720 ?_
  refine z_aload_n C dL_law_721 rfl (q := 3) rfl ?_
  refine z_iload_n C dL_law_722 rfl (q := 0) rfl ?_
  refine z_iconst C dL_law_723 (v := nI 4) (by decide) ?_
  refine z_iadd C dL_law_724 (v := nI (i + 4)) (nI_add i 4) ?_
  refine z_sld C hSc (j := i + 4) (by omega) dL_law_725 ?_
  refine z_cI C (z_runV C (As := [Value.int (xs (i + 1)), Value.int (xs (i + 2)), Value.int (xs (i + 3)), Value.int (xs (i + 4))]) (rest := [Value.int v702]) (c_X8_lump l D cy a1 L1 c1 g1 r1 nl nk hL1 hM1 c hI x hXl hK1 (xs (i + 1)) (xs (i + 2)) (xs (i + 3)) (xs (i + 4))) (cwV 4 C.2.2.2.2.2.1 gL_law_X8_lump rfl rfl rfl (by decide +kernel) ⟨Nat.le_of_ble_eq_true rfl, Nat.le_of_ble_eq_true rfl⟩) (hL1 _ (by unfold live; omega)) (zF_k8 (by rfl)) rfl rfl rfl rfl (Nat.le_of_ble_eq_true rfl) dL_law_726 ⟨by omega, by omega⟩) (fun v726 c726 e726 => ?_)
  have f2 : p8_lump c1 c nl nk x (xs (i + 1)) (xs (i + 2)) (xs (i + 3)) (xs (i + 4)) v726 c726 := e726
  obtain ⟨heq, q', hV2⟩ := opB_lump (ω := (a1, L1, c1, g1, r1)) hV f1 f2
  refine z_icmp_eq C dL_law_729 (tgt := 1296) (by decide) (fun h729 => ?_) (fun h729 => absurd (heq) h729)
  refine z_widen (k := ce + 2) (n := sl + 9) (by omega) (by omega) ?_
  exact kk a1 L1 c726 g1 r1 _ _ _ hV2
