set_option maxHeartbeats 4000000 in
set_option maxRecDepth 100000 in
theorem law_head {p : Program} {l : Launch} {e : Env} {s : State} {m : MethodId} {args : Array Value} {below : List Frame} {meth : Method} {co : Code} {D : va_G} {cy : Nat → ClassId} {A : Nat → Prop} {rt : Option FieldType} {Q : State → Prop} {b n i ce sl : Nat} {xs : Nat → Int32} {a : Nat → Nat} {L : List Nat} {c : Nat → Nat → Int32} {g : Nat → Nat → Int64} {r : Nat → Nat → Option Nat} (C : zC p s m args meth co D cy A cL_law 4 rt wsL_law RL) (hSc : zScr b n xs s A) (hi : i ≤ 3078) (hx : zG p l e room_1 s m args below meth co D cy A 4 Q ce sl a L c g r [(3, Value.int (nI i)), (2, Value.ref (a 300)), (1, Value.ref (a 0)), (0, Value.ref b)] 1302 []) (hb : i + 6 ≤ n → zG p l e room_1 s m args below meth co D cy A 4 Q ce sl a L c g r [(3, Value.int (nI i)), (2, Value.ref (a 300)), (1, Value.ref (a 0)), (0, Value.ref b)] 27 []) : zG p l e room_1 s m args below meth co D cy A 4 Q ce sl a L c g r [(3, Value.int (nI i)), (2, Value.ref (a 300)), (1, Value.ref (a 0)), (0, Value.ref b)] 18 [] := by
  have hn := hSc.2.2.2
  refine z_iload_n C dL_law_18 rfl (q := 0) rfl ?_
  refine z_aload_n C dL_law_19 rfl (q := 3) rfl ?_
  refine z_slen C hSc dL_law_20 ?_
  refine z_bipush C dL_law_21 (v := nI 6) (by decide) ?_
  refine z_isub C dL_law_23 (v := (nI n) - (nI 6)) rfl ?_
  refine z_icmp_gt C dL_law_24 (tgt := 1302) (by decide) (fun h24 => ?_) (fun h24 => ?_)
  · have q24 := iv_lt (tI_sub (by omega) (by omega)) (nI_toInt (by omega)) h24
    exact hx
  · have q24 := iv_nlt (tI_sub (by omega) (by omega)) (nI_toInt (by omega)) h24
    exact hb (by omega)

set_option maxHeartbeats 4000000 in
set_option maxRecDepth 100000 in
theorem law_sw {p : Program} {l : Launch} {e : Env} {s : State} {m : MethodId} {args : Array Value} {below : List Frame} {meth : Method} {co : Code} {D : va_G} {cy : Nat → ClassId} {A : Nat → Prop} {rt : Option FieldType} {Q : State → Prop} {b n i ce sl : Nat} {xs : Nat → Int32} {a : Nat → Nat} {L : List Nat} {c : Nat → Nat → Int32} {g : Nat → Nat → Int64} {r : Nat → Nat → Option Nat} {nl nk : Nat} {x : Nat → Nat → Nat} (C : zC p s m args meth co D cy A cL_law 4 rt wsL_law RL) (hSc : zScr b n xs s A) (hSt : zSt A s s.heap) (hi : i + 6 ≤ n) (hc : ce + 2 ≤ room_1.cells) (hs : sl + 9 ≤ room_1.slots) (hV : INV L c r nl nk x) (kk : ∀ (a' : Nat → Nat) (L' : List Nat) (c' : Nat → Nat → Int32) (g' : Nat → Nat → Int64) (r' : Nat → Nat → Option Nat) (nl' nk' : Nat) (x' : Nat → Nat → Nat), INV L' c' r' nl' nk' x' → zG p l e room_1 s m args below meth co D cy A 4 Q (ce + 2) (sl + 9) a' L' c' g' r' [(3, Value.int (nI i)), (2, Value.ref (a' 300)), (1, Value.ref (a' 0)), (0, Value.ref b)] 1296 []) : zG p l e room_1 s m args below meth co D cy A 4 Q ce sl a L c g r [(3, Value.int (nI i)), (2, Value.ref (a 300)), (1, Value.ref (a 0)), (0, Value.ref b)] 27 [] := by
  have hn := hSc.2.2.2
  refine z_aload_n C dL_law_27 rfl (q := 3) rfl ?_
  refine z_iload_n C dL_law_28 rfl (q := 0) rfl ?_
  refine z_sld C hSc (j := i) (by omega) dL_law_29 ?_
  refine z_bipush C dL_law_30 (v := 63) (by decide) ?_
  refine z_iand C dL_law_32 (v := (xs i) &&& 63) rfl ?_
  generalize xs i &&& 63 = vs
  by_cases hs0 : vs.toInt = 0
  · refine z_tableIn C dL_law_33 (off := 147) (tgt := 180) (by omega) (by omega) (by rw [hs0]; rfl) (by decide) ?_
    exact law_letter C hSc hi hc hs hV kk
  · skip
    by_cases hs1 : vs.toInt = 1
    · refine z_tableIn C dL_law_33 (off := 190) (tgt := 223) (by omega) (by omega) (by rw [hs1]; rfl) (by decide) ?_
      exact law_strip C hSc hi hc hs hV kk
    · skip
      by_cases hs2 : vs.toInt = 2
      · refine z_tableIn C dL_law_33 (off := 233) (tgt := 266) (by omega) (by omega) (by rw [hs2]; rfl) (by decide) ?_
        exact law_about C hSc hi hc hs hV kk
      · skip
        by_cases hs3 : vs.toInt = 3
        · refine z_tableIn C dL_law_33 (off := 266) (tgt := 299) (by omega) (by omega) (by rw [hs3]; rfl) (by decide) ?_
          exact law_spell C hSc hi hc hs hV kk
        · skip
          by_cases hs4 : vs.toInt = 4
          · refine z_tableIn C dL_law_33 (off := 299) (tgt := 332) (by omega) (by omega) (by rw [hs4]; rfl) (by decide) ?_
            exact law_wipe C hSc hi hc hs hV kk
          · skip
            by_cases hs5 : vs.toInt = 5
            · refine z_tableIn C dL_law_33 (off := 322) (tgt := 355) (by omega) (by omega) (by rw [hs5]; rfl) (by decide) ?_
              exact law_slots C hSc hi hc hs hV kk
            · skip
              by_cases hs6 : vs.toInt = 6
              · refine z_tableIn C dL_law_33 (off := 345) (tgt := 378) (by omega) (by omega) (by rw [hs6]; rfl) (by decide) ?_
                exact law_gap C hSc hi hc hs hV kk
              · skip
                by_cases hs7 : vs.toInt = 7
                · refine z_tableIn C dL_law_33 (off := 368) (tgt := 401) (by omega) (by omega) (by rw [hs7]; rfl) (by decide) ?_
                  exact law_wide C hSc hi hc hs hV kk
                · skip
                  by_cases hs8 : vs.toInt = 8
                  · refine z_tableIn C dL_law_33 (off := 391) (tgt := 424) (by omega) (by omega) (by rw [hs8]; rfl) (by decide) ?_
                    exact law_longest C hSc hi hc hs hV kk
                  · skip
                    by_cases hs9 : vs.toInt = 9
                    · refine z_tableIn C dL_law_33 (off := 404) (tgt := 437) (by omega) (by omega) (by rw [hs9]; rfl) (by decide) ?_
                      exact law_cut C hSc hi hc hs hV kk
                    · skip
                      by_cases hs10 : vs.toInt = 10
                      · refine z_tableIn C dL_law_33 (off := 457) (tgt := 490) (by omega) (by omega) (by rw [hs10]; rfl) (by decide) ?_
                        exact law_readings C hSc hi hc hs hV kk
                      · skip
                        by_cases hs11 : vs.toInt = 11
                        · refine z_tableIn C dL_law_33 (off := 480) (tgt := 513) (by omega) (by omega) (by rw [hs11]; rfl) (by decide) ?_
                          exact law_reading C hSc hi hc hs hV kk
                        · skip
                          by_cases hs12 : vs.toInt = 12
                          · refine z_tableIn C dL_law_33 (off := 513) (tgt := 546) (by omega) (by omega) (by rw [hs12]; rfl) (by decide) ?_
                            exact law_words C hSc hi hc hs hV kk
                          · skip
                            by_cases hs13 : vs.toInt = 13
                            · refine z_tableIn C dL_law_33 (off := 536) (tgt := 569) (by omega) (by omega) (by rw [hs13]; rfl) (by decide) ?_
                              exact law_order C hSc hi hc hs hV kk
                            · skip
                              by_cases hs14 : vs.toInt = 14
                              · refine z_tableIn C dL_law_33 (off := 569) (tgt := 602) (by omega) (by omega) (by rw [hs14]; rfl) (by decide) ?_
                                exact law_late C hSc hi hc hs hV kk
                              · skip
                                by_cases hs15 : vs.toInt = 15
                                · refine z_tableIn C dL_law_33 (off := 592) (tgt := 625) (by omega) (by omega) (by rw [hs15]; rfl) (by decide) ?_
                                  exact law_spoiled C hSc hi hc hs hV kk
                                · skip
                                  by_cases hs16 : vs.toInt = 16
                                  · refine z_tableIn C dL_law_33 (off := 615) (tgt := 648) (by omega) (by omega) (by rw [hs16]; rfl) (by decide) ?_
                                    exact law_set C hSc hSt hi hc hs hV kk
                                  · skip
                                    by_cases hs17 : vs.toInt = 17
                                    · refine z_tableIn C dL_law_33 (off := 648) (tgt := 681) (by omega) (by omega) (by rw [hs17]; rfl) (by decide) ?_
                                      exact law_lump C hSc hi hc hs hV kk
                                    · skip
                                      by_cases hs18 : vs.toInt = 18
                                      · refine z_tableIn C dL_law_33 (off := 701) (tgt := 734) (by omega) (by omega) (by rw [hs18]; rfl) (by decide) ?_
                                        exact law_made C hSc hi hc hs hV kk
                                      · skip
                                        by_cases hs19 : vs.toInt = 19
                                        · refine z_tableIn C dL_law_33 (off := 734) (tgt := 767) (by omega) (by omega) (by rw [hs19]; rfl) (by decide) ?_
                                          exact law_trace C hSc hi hc hs hV kk
                                        · skip
                                          by_cases hs20 : vs.toInt = 20
                                          · refine z_tableIn C dL_law_33 (off := 757) (tgt := 790) (by omega) (by omega) (by rw [hs20]; rfl) (by decide) ?_
                                            exact law_recall C hSc hi hc hs hV kk
                                          · skip
                                            by_cases hs21 : vs.toInt = 21
                                            · refine z_tableIn C dL_law_33 (off := 800) (tgt := 833) (by omega) (by omega) (by rw [hs21]; rfl) (by decide) ?_
                                              exact law_foretold C hSc hi hc hs hV kk
                                            · skip
                                              by_cases hs22 : vs.toInt = 22
                                              · refine z_tableIn C dL_law_33 (off := 823) (tgt := 856) (by omega) (by omega) (by rw [hs22]; rfl) (by decide) ?_
                                                exact law_damp C hSc hi hc hs hV kk
                                              · skip
                                                by_cases hs23 : vs.toInt = 23
                                                · refine z_tableIn C dL_law_33 (off := 872) (tgt := 905) (by omega) (by omega) (by rw [hs23]; rfl) (by decide) ?_
                                                  exact law_make C hSc hi hc hs hV kk
                                                · skip
                                                  by_cases hs24 : vs.toInt = 24
                                                  · refine z_tableIn C dL_law_33 (off := 905) (tgt := 938) (by omega) (by omega) (by rw [hs24]; rfl) (by decide) ?_
                                                    exact law_stock C hSc hi hc hs hV kk
                                                  · skip
                                                    by_cases hs25 : vs.toInt = 25
                                                    · refine z_tableIn C dL_law_33 (off := 958) (tgt := 991) (by omega) (by omega) (by rw [hs25]; rfl) (by decide) ?_
                                                      exact law_ahead C hSc hi hc hs hV kk
                                                    · skip
                                                      by_cases hs26 : vs.toInt = 26
                                                      · refine z_tableIn C dL_law_33 (off := 1001) (tgt := 1034) (by omega) (by omega) (by rw [hs26]; rfl) (by decide) ?_
                                                        exact law_sheet C hSc hi hc hs hV kk
                                                      · skip
                                                        by_cases hs27 : vs.toInt = 27
                                                        · refine z_tableIn C dL_law_33 (off := 1044) (tgt := 1077) (by omega) (by omega) (by rw [hs27]; rfl) (by decide) ?_
                                                          exact law_lose C hSc hi hc hs hV kk
                                                        · skip
                                                          by_cases hs28 : vs.toInt = 28
                                                          · refine z_tableIn C dL_law_33 (off := 1067) (tgt := 1100) (by omega) (by omega) (by rw [hs28]; rfl) (by decide) ?_
                                                            exact law_put C hSc hi hc hs hV kk
                                                          · skip
                                                            by_cases hs29 : vs.toInt = 29
                                                            · refine z_tableIn C dL_law_33 (off := 1120) (tgt := 1153) (by omega) (by omega) (by rw [hs29]; rfl) (by decide) ?_
                                                              exact law_get C hSc hi hc hs hV kk
                                                            · skip
                                                              by_cases hs30 : vs.toInt = 30
                                                              · refine z_tableIn C dL_law_33 (off := 1163) (tgt := 1196) (by omega) (by omega) (by rw [hs30]; rfl) (by decide) ?_
                                                                exact law_copy C hSc hi hc hs hV kk
                                                              · skip
                                                                by_cases hs31 : vs.toInt = 31
                                                                · refine z_tableIn C dL_law_33 (off := 1226) (tgt := 1259) (by omega) (by omega) (by rw [hs31]; rfl) (by decide) ?_
                                                                  exact law_count C hSc hi hc hs hV kk
                                                                · skip
                                                                  by_cases hs32 : vs.toInt = 32
                                                                  · refine z_tableIn C dL_law_33 (off := 1249) (tgt := 1282) (by omega) (by omega) (by rw [hs32]; rfl) (by decide) ?_
                                                                    exact law_digest C hSc hi hc hs hV kk
                                                                  · skip
                                                                    refine z_tableOut C dL_law_33 (by omega) (tgt := 1296) (by decide) ?_
                                                                    exact z_widen (Nat.le_add_right _ _) (Nat.le_add_right _ _) (kk _ _ _ _ _ _ _ _ hV)

set_option maxRecDepth 100000 in
theorem law_next {p : Program} {l : Launch} {e : Env} {s : State} {m : MethodId} {args : Array Value} {below : List Frame} {meth : Method} {co : Code} {D : va_G} {cy : Nat → ClassId} {A : Nat → Prop} {rt : Option FieldType} {Q : State → Prop} {b i ce sl : Nat} {a : Nat → Nat} {L : List Nat} {c : Nat → Nat → Int32} {g : Nat → Nat → Int64} {r : Nat → Nat → Option Nat} (C : zC p s m args meth co D cy A cL_law 4 rt wsL_law RL) (kk : zG p l e room_1 s m args below meth co D cy A 4 Q ce sl a L c g r [(3, Value.int (nI (i + 6))), (2, Value.ref (a 300)), (1, Value.ref (a 0)), (0, Value.ref b)] 18 []) : zG p l e room_1 s m args below meth co D cy A 4 Q ce sl a L c g r [(3, Value.int (nI i)), (2, Value.ref (a 300)), (1, Value.ref (a 0)), (0, Value.ref b)] 1296 [] := by
  refine z_iinc C dL_law_1296 (q := 0) rfl (v := nI (i + 6)) (by rw [show Int32.ofInt 6 = nI 6 by decide]; exact nI_add i 6) (by decide) (lv' := [(3, Value.int (nI (i + 6))), (2, Value.ref (a 300)), (1, Value.ref (a 0)), (0, Value.ref b)]) rfl ?_
  exact z_goto C dL_law_1299 (tgt := 18) (by decide) kk

set_option maxHeartbeats 4000000 in
theorem law_loop {p : Program} {l : Launch} {e : Env} {s : State} {m : MethodId} {args : Array Value} {below : List Frame} {meth : Method} {co : Code} {D : va_G} {cy : Nat → ClassId} {A : Nat → Prop} {rt : Option FieldType} {Q : State → Prop} {b n : Nat} {xs : Nat → Int32} (C : zC p s m args meth co D cy A cL_law 4 rt wsL_law RL) (hSc : zScr b n xs s A) (hSt : zSt A s s.heap) (kx : ∀ (ce sl : Nat) (a : Nat → Nat) (L : List Nat) (c : Nat → Nat → Int32) (g : Nat → Nat → Int64) (r : Nat → Nat → Option Nat) (lv : List (Nat × Value)), ce ≤ room_1.cells → sl ≤ room_1.slots → zG p l e room_1 s m args below meth co D cy A 4 Q ce sl a L c g r lv 1303 [Value.int 1]) :
    ∀ (q i ce sl : Nat) (a : Nat → Nat) (L : List Nat) (c : Nat → Nat → Int32) (g : Nat → Nat → Int64) (r : Nat → Nat → Option Nat) (nl nk : Nat) (x : Nat → Nat → Nat), n < i + 6 * q → i ≤ 3078 → ce + 2 * q ≤ room_1.cells → sl + 9 * q ≤ room_1.slots → INV L c r nl nk x → zG p l e room_1 s m args below meth co D cy A 4 Q ce sl a L c g r [(3, Value.int (nI i)), (2, Value.ref (a 300)), (1, Value.ref (a 0)), (0, Value.ref b)] 18 [] := by
  have hn := hSc.2.2.2
  intro q
  induction q with
  | zero =>
    intro i ce sl a L c g r nl nk x h1 h2 h3 h4 hV
    exact law_head C hSc h2 (z_iconst C dL_law_1302 (v := 1) (by decide) (kx _ _ _ _ _ _ _ _ (by omega) (by omega))) (fun h => absurd h (by omega))
  | succ q ih =>
    intro i ce sl a L c g r nl nk x h1 h2 h3 h4 hV
    exact law_head C hSc h2 (z_iconst C dL_law_1302 (v := 1) (by decide) (kx _ _ _ _ _ _ _ _ (by omega) (by omega))) (fun h => law_sw C hSc hSt h (by omega) (by omega) hV (fun a' L' c' g' r' nl' nk' x' hV' => law_next C (ih (i + 6) (ce + 2) (sl + 9) a' L' c' g' r' nl' nk' x' (by omega) (by omega) (by omega) (by omega) hV')))

set_option maxRecDepth 100000 in
theorem live_both : ∀ k, k < 328 → (k < 12 ∨ (20 ≤ k ∧ k < 28) ∨ (30 ≤ k ∧ k < 38) ∨ (40 ≤ k ∧ k < 44) ∨ (50 ≤ k ∧ k < 54) ∨ (k = 300 ∨ k = 301 ∨ (303 ≤ k ∧ k ≤ 308) ∨ k = 311 ∨ k = 315 ∨ k = 319 ∨ (322 ≤ k ∧ k ≤ 327))) → k ∈ bothL := by decide +kernel
theorem fresh_both : (∀ i, i < 17 → 100 + i ∉ bothL ∧ 120 + i ∉ bothL) ∧ ∀ k, k < 41 → 200 + k ∉ bothL := by decide +kernel
theorem INV_ini {c0 c : Nat → Nat → Int32} {r0 r : Nat → Nat → Option Nat} (hIn : IniC c0 r0) (hc : ∀ k, k < 300 → c k = c0 k) (hr : ∀ k, k < 300 → r k = r0 k) (hM : IniM c r) (hZ : zR bothL r) : INV bothL c r 0 0 (fun _ _ => 0) := by
  obtain ⟨hR, ⟨b0, b1, b2, b3, b4, b5, b6, b7, b8, b9, b10⟩, hw, hs, hk⟩ := hIn
  obtain ⟨hRM, ⟨m1, m8, m9, m17, m19, m20, m27⟩, ⟨t0, t1, t2, t3⟩, m6, m7, mk, ms⟩ := hM
  have hz : ∀ w, w < 8 → nn c (20 + w) 1 = 0 := fun w h => by unfold nn; rw [hc (20 + w) (by omega), hw w h]; exact nI_clamp (by decide)
  refine ⟨fun k hk => live_both k (by unfold live at hk; omega) (by unfold live at hk; omega), RC_congr (by omega) (fun k h => hr k (by omega)) hR, hRM, ?_, fun w h i hi => ?_, ?_, hZ, fun i _ h => fresh_both.1 i h, fun k _ h => fresh_both.2 k h⟩
  · refine CI_of (by omega) (by omega) (by rw [hc 0 (by omega)]; exact b0) (by rw [hc 6 (by omega)]; exact b8) (fun k j lo hi hb => ?_)
    rcases hb with ⟨rfl, rfl, rfl, rfl⟩ | ⟨rfl, rfl, rfl, rfl⟩ | ⟨a1, a2, rfl, rfl, rfl⟩ | ⟨a1, a2, rfl, rfl, rfl⟩ | ⟨a1, a2, rfl, rfl, rfl⟩ | ⟨a1, a2, rfl, rfl, rfl⟩ | ⟨a1, a2, hj, rfl, rfl⟩ | ⟨rfl, rfl, rfl, rfl⟩ | ⟨rfl, rfl, rfl, rfl⟩ | ⟨rfl, rfl, rfl, rfl⟩ | ⟨rfl, rfl, rfl, rfl⟩ | ⟨a1, a2, rfl, rfl, rfl⟩ | ⟨a1, a2, rfl, rfl, rfl⟩ | ⟨a1, a2, rfl, rfl, rfl⟩ | ⟨a1, a2, rfl, rfl, rfl⟩ | ⟨a1, a2, rfl, rfl, rfl⟩ | ⟨a1, a2, rfl, rfl, rfl⟩ | ⟨rfl, rfl, rfl, rfl⟩ | ⟨rfl, rfl, rfl, rfl⟩ | ⟨a1, a2, rfl, rfl, rfl⟩ | ⟨a1, a2, rfl, rfl, rfl⟩ | ⟨a1, a2, rfl, rfl, rfl⟩ | ⟨rfl, hj, rfl, rfl⟩ | ⟨rfl, hj, rfl, rfl⟩
    · exact rng_of (n := 30) (by rw [hc 3 (by omega)]; exact b2) (by omega) (by omega) (by omega)
    · exact rng_of (n := 1) (by rw [hc 3 (by omega)]; exact b3) (by omega) (by omega) (by omega)
    · obtain ⟨w, rfl⟩ : ∃ w, k = 20 + w := ⟨k - 20, by omega⟩
      exact rng_of (n := 0) (by rw [hc (20 + w) (by omega)]; exact hw w (by omega)) (by omega) (by omega) (by omega)
    · exfalso; omega
    · exfalso; omega
    · exfalso; omega
    · exfalso; omega
    · exact rng_of (n := 100) (by rw [hc 5 (by omega)]; exact b4) (by omega) (by omega) (by omega)
    · exact rng_of (n := 10) (by rw [hc 5 (by omega)]; exact b5) (by omega) (by omega) (by omega)
    · exact rng_of (n := 20) (by rw [hc 5 (by omega)]; exact b6) (by omega) (by omega) (by omega)
    · exact rng_of (n := 10) (by rw [hc 5 (by omega)]; exact b7) (by omega) (by omega) (by omega)
    · exfalso; omega
    · exfalso; omega
    · exfalso; omega
    · exfalso; omega
    · exfalso; omega
    · exfalso; omega
    · exact rng_of (n := 0) (by rw [hc 6 (by omega)]; exact b9) (by omega) (by omega) (by omega)
    · exact rng_of (n := 0) (by rw [hc 6 (by omega)]; exact b10) (by omega) (by omega) (by omega)
    · obtain ⟨w, rfl⟩ : ∃ w, k = 40 + w := ⟨k - 40, by omega⟩
      exact rng_of (n := 1) (by rw [hc (40 + w) (by omega)]; exact (hs w (by omega)).1) (by omega) (by omega) (by omega)
    · obtain ⟨w, rfl⟩ : ∃ w, k = 40 + w := ⟨k - 40, by omega⟩
      exact rng_of (n := 0) (by rw [hc (40 + w) (by omega)]; exact (hs w (by omega)).2.1) (by omega) (by omega) (by omega)
    · obtain ⟨w, rfl⟩ : ∃ w, k = 40 + w := ⟨k - 40, by omega⟩
      exact rng_of (n := 0) (by rw [hc (40 + w) (by omega)]; exact (hs w (by omega)).2.2.1) (by omega) (by omega) (by omega)
    · exact rng_of (n := 0) (by rw [hc 8 (by omega)]; exact (hk j).1) (by omega) (by omega) (by omega)
    · exact rng_of (n := 0) (by rw [hc 9 (by omega)]; exact (hk j).2) (by omega) (by omega) (by omega)
  · rw [hz w h] at hi; exact absurd hi (Nat.not_lt_zero i)
  · refine LK_mk m1 m17 (fun k j q i hb => ?_) (fun i _ _ j _ => m6 _) (fun w h i hi => absurd hi (by rw [hz w h]; exact Nat.not_lt_zero i)) (fun s h => ?_) (fun s h i hi => ?_)
    rcases hb with ⟨rfl, rfl, rfl, rfl⟩ | ⟨rfl, rfl, rfl, rfl⟩ | ⟨rfl, rfl, rfl, rfl⟩ | ⟨rfl, rfl, rfl, rfl⟩ | ⟨rfl, rfl, rfl, rfl⟩ | ⟨rfl, hj, rfl, rfl⟩ | ⟨rfl, hj, rfl, rfl⟩ | ⟨rfl, hj, rfl, rfl⟩ | ⟨rfl, hj, rfl, rfl⟩ | ⟨rfl, a1, a2, hj, rfl⟩ | ⟨rfl, hj, rfl, rfl⟩ | ⟨rfl, a1, a2, hj, rfl⟩ | ⟨rfl, hj, rfl, rfl⟩ | ⟨rfl, hj, rfl, rfl⟩ | ⟨rfl, hj, rfl, rfl⟩
    · rw [hc 3 (by omega)]; exact m8.trans b2.symm
    · rw [hc 3 (by omega)]; exact m9.trans b3.symm
    · rw [hc 6 (by omega)]; exact m19.trans b9.symm
    · rw [hc 6 (by omega)]; exact m20.trans b10.symm
    · rw [hc 0 (by omega)]; exact m27.trans b1.symm
    · rw [hc 5 (by omega)]
      rcases (show i = 0 ∨ i = 1 ∨ i = 2 ∨ i = 3 by omega) with rfl | rfl | rfl | rfl
      · exact t0.trans b4.symm
      · exact t1.trans b5.symm
      · exact t2.trans b6.symm
      · exact t3.trans b7.symm
    · exfalso; omega
    · exfalso; omega
    · exfalso; omega
    · exfalso; omega
    · rw [hc (20 + j) (by omega)]; exact (m7 j).trans (hw j hj).symm
    · exfalso; omega
    · rw [hc 8 (by omega)]; exact (mk i).1.trans (hk i).1.symm
    · rw [hc 9 (by omega)]; exact (mk i).2.trans (hk i).2.symm
    · rw [hc (40 + j) (by omega)]; exact (ms j hj).2.trans (hs j hj).2.2.1.symm
    · have e : nn c (40 + s) 1 = 1 := by unfold nn; rw [hc (40 + s) (by omega), (hs s h).1]; exact nI_clamp (by decide)
      rw [e]; exact (ms s h).1
    · have e : nn c (40 + s) 3 = 0 := by unfold nn; rw [hc (40 + s) (by omega), (hs s h).2.2.1]; exact nI_clamp (by decide)
      rw [e] at hi; exact absurd hi (Nat.not_lt_zero i)

set_option maxHeartbeats 4000000 in
set_option maxRecDepth 100000 in
theorem law_start {p : Program} {l : Launch} {e : Env} {s : State} {m : MethodId} {args : Array Value} {below : List Frame} {meth : Method} {co : Code} {D : va_G} {cy : Nat → ClassId} {A : Nat → Prop} {rt : Option FieldType} {Q : State → Prop} {b n : Nat} {xs : Nat → Int32} (C : zC p s m args meth co D cy A cL_law 4 rt wsL_law RL) (hSc : zScr b n xs s A) (hSt : zSt A s s.heap) (kx : ∀ (ce sl : Nat) (a : Nat → Nat) (L : List Nat) (c : Nat → Nat → Int32) (g : Nat → Nat → Int64) (r : Nat → Nat → Option Nat) (lv : List (Nat × Value)), ce ≤ room_1.cells → sl ≤ room_1.slots → zG p l e room_1 s m args below meth co D cy A 4 Q ce sl a L c g r lv 1303 [Value.int 1]) :
    zG p l e room_1 s m args below meth co D cy A 4 Q 0 0 (fun _ => 0) [] (fun _ _ => 0) (fun _ _ => 0) (fun _ _ => none) [(0, Value.ref b)] 0 [] := by
  have hn := hSc.2.2.2
  have hZ : zR [] (fun _ _ => none) := fun j i k h => by cases h
  refine z_new C (k := 0) (ci := 7) inlX7 tyX7 tyX7_ok (by decide +kernel) (by decide +kernel) (by decide +kernel) rfl (fs := [Value.null, Value.int 0, Value.null, Value.null, Value.null, Value.null, Value.null, Value.null, Value.null, Value.null, Value.int 0]) (fun j hj => by rcases (show j = 0 ∨ j = 1 ∨ j = 2 ∨ j = 3 ∨ j = 4 ∨ j = 5 ∨ j = 6 ∨ j = 7 ∨ j = 8 ∨ j = 9 ∨ j = 10 by omega) with rfl | rfl | rfl | rfl | rfl | rfl | rfl | rfl | rfl | rfl | rfl <;> rfl) (Nat.le_of_ble_eq_true rfl) (Nat.le_of_ble_eq_true rfl) (by decide) (zR_ne hZ (by decide)) (fun a' => by rw [zF_k7 (by rfl)]; simp [zr, up1, va_rf]) dL_law_0 (fun a1 ha1 => ?_)
  have hZ := zR_new hZ 0
  refine z_dup C dL_law_3 rfl ?_
  refine z_xV C (z_runI C (rt := none) (As := []) (rest := [Value.ref (a1 0)]) (c_X7_init l D cy a1 _ _ _ _ rfl hZ) (cwI 0 C.2.2.2.2.2.1 gL_law_X7_init rfl rfl rfl (C.2.2.2.2.2.1 _ (by decide +kernel)) (C.2.2.2.2.2.1 _ (by decide +kernel)) (C.2.2.2.2.2.1 _ (by decide +kernel)) rfl (by decide +kernel) ⟨(Nat.le_of_ble_eq_true rfl), (Nat.le_of_ble_eq_true rfl)⟩) rfl rfl (Nat.le_of_ble_eq_true rfl) dL_law_4 ⟨(Nat.le_of_ble_eq_true rfl), (Nat.le_of_ble_eq_true rfl)⟩) (fun ω4 e4 => ?_)
  obtain ⟨a2, c2, g2, r2, h20, rfl, hZ, hIn⟩ := e4
  dsimp only
  refine z_steq (st' := [Value.ref (a2 0)]) (by rw [h20]) ?_
  refine z_astore_n C dL_law_7 rfl (by decide) (lv' := [(1, Value.ref (a2 0)), (0, Value.ref b)]) rfl ?_
  refine z_new C (k := 300) (ci := 8) inlX8 tyX8 tyX8_ok (by decide +kernel) (by decide +kernel) (by decide +kernel) rfl (fs := [Value.null, Value.int 0, Value.null, Value.null, Value.null, Value.null, Value.null, Value.null, Value.int 0, Value.int 0, Value.null, Value.int 0, Value.int 0, Value.int 0, Value.null, Value.int 0, Value.int 0, Value.int 0, Value.null, Value.int 0, Value.int 0, Value.null, Value.null, Value.null, Value.null, Value.null, Value.null, Value.int 0]) (fun j hj => by rcases (show j = 0 ∨ j = 1 ∨ j = 2 ∨ j = 3 ∨ j = 4 ∨ j = 5 ∨ j = 6 ∨ j = 7 ∨ j = 8 ∨ j = 9 ∨ j = 10 ∨ j = 11 ∨ j = 12 ∨ j = 13 ∨ j = 14 ∨ j = 15 ∨ j = 16 ∨ j = 17 ∨ j = 18 ∨ j = 19 ∨ j = 20 ∨ j = 21 ∨ j = 22 ∨ j = 23 ∨ j = 24 ∨ j = 25 ∨ j = 26 ∨ j = 27 by omega) with rfl | rfl | rfl | rfl | rfl | rfl | rfl | rfl | rfl | rfl | rfl | rfl | rfl | rfl | rfl | rfl | rfl | rfl | rfl | rfl | rfl | rfl | rfl | rfl | rfl | rfl | rfl | rfl <;> rfl) (Nat.le_of_ble_eq_true rfl) (Nat.le_of_ble_eq_true rfl) (by decide) (zR_ne hZ (by decide)) (fun a' => by rw [zF_k8 (by rfl)]; simp [zr, up1, va_rf]) dL_law_8 (fun a3 ha3 => ?_)
  have hZ := zR_new hZ 300
  refine z_lveq (lv' := [(1, Value.ref (a3 0)), (0, Value.ref b)]) (by rw [ha3 0 (by decide)]) ?_
  refine z_dup C dL_law_11 rfl ?_
  refine z_xV C (z_runI C (rt := none) (As := []) (rest := [Value.ref (a3 300)]) (c_X8_init l D cy a3 _ _ _ _ rfl hZ (fun j => by rw [up1_self])) (cwI 0 C.2.2.2.2.2.1 gL_law_X8_init rfl rfl rfl (C.2.2.2.2.2.1 _ (by decide +kernel)) (C.2.2.2.2.2.1 _ (by decide +kernel)) (C.2.2.2.2.2.1 _ (by decide +kernel)) rfl (by decide +kernel) ⟨(Nat.le_of_ble_eq_true rfl), (Nat.le_of_ble_eq_true rfl)⟩) rfl rfl (Nat.le_of_ble_eq_true rfl) dL_law_12 ⟨(Nat.le_of_ble_eq_true rfl), (Nat.le_of_ble_eq_true rfl)⟩) (fun ω12 e12 => ?_)
  obtain ⟨a4, c4, g4, r4, h40, h4300, rfl, hZ, hrow, hM⟩ := e12
  dsimp only
  refine z_steq (st' := [Value.ref (a4 300)]) (by rw [h4300]) ?_
  refine z_lveq (lv' := [(1, Value.ref (a4 0)), (0, Value.ref b)]) (by rw [h40]) ?_
  refine z_astore_n C dL_law_15 rfl (by decide) (lv' := [(2, Value.ref (a4 300)), (1, Value.ref (a4 0)), (0, Value.ref b)]) rfl ?_
  refine z_iconst C dL_law_16 (v := nI 0) (by decide) ?_
  refine z_istore_n C dL_law_17 rfl (by decide) (lv' := [(3, Value.int (nI 0)), (2, Value.ref (a4 300)), (1, Value.ref (a4 0)), (0, Value.ref b)]) rfl ?_
  exact law_loop C hSc hSt kx 513 0 _ _ a4 bothL c4 g4 r4 0 0 (fun _ _ => 0) (by omega) (by omega) (Nat.le_of_ble_eq_true rfl) (Nat.le_of_ble_eq_true rfl) (INV_ini hIn (fun k hk => by rw [(hrow k hk).1, up1_k _ _ (by omega)]) (fun k hk => by rw [(hrow k hk).2.2, up1_k _ _ (by omega)]) hM hZ)
