theorem lks_hi {c c1 : Nat → Nat → Int32} (h : ∀ k, 300 ≤ k → c1 k = c k) : lks c c1 := ⟨fun k hk => h k (by unfold lkr at hk; omega), fun j _ => by rw [h 300 (by omega)]⟩
theorem lcmp0 {u v : Int64} (h : u = v) : lg_cmp u v = 0 := by
  subst h
  unfold lg_cmp
  rw [if_neg (fun z => absurd z Int64.lt_irrefl), if_pos rfl]

set_option maxHeartbeats 4000000 in
set_option maxRecDepth 100000 in
theorem law_letter {p : Program} {l : Launch} {e : Env} {s : State} {m : MethodId} {args : Array Value} {below : List Frame} {meth : Method} {co : Code} {D : va_G} {cy : Nat → ClassId} {A : Nat → Prop} {rt : Option FieldType} {Q : State → Prop} {b n i ce sl : Nat} {xs : Nat → Int32} {a : Nat → Nat} {L : List Nat} {c : Nat → Nat → Int32} {g : Nat → Nat → Int64} {r : Nat → Nat → Option Nat} {nl nk : Nat} {x : Nat → Nat → Nat} (C : zC p s m args meth co D cy A cL_law 4 rt wsL_law RL) (hSc : zScr b n xs s A) (hi : i + 6 ≤ n) (hc : ce + 2 ≤ room_1.cells) (hs : sl + 9 ≤ room_1.slots) (hV : INV L c r nl nk x) (kk : ∀ (a' : Nat → Nat) (L' : List Nat) (c' : Nat → Nat → Int32) (g' : Nat → Nat → Int64) (r' : Nat → Nat → Option Nat) (nl' nk' : Nat) (x' : Nat → Nat → Nat), INV L' c' r' nl' nk' x' → zG p l e room_1 s m args below meth co D cy A 4 Q (ce + 2) (sl + 9) a' L' c' g' r' [(3, Value.int (nI i)), (2, Value.ref (a' 300)), (1, Value.ref (a' 0)), (0, Value.ref b)] 1296 []) : zG p l e room_1 s m args below meth co D cy A 4 Q ce sl a L c g r [(3, Value.int (nI i)), (2, Value.ref (a 300)), (1, Value.ref (a 0)), (0, Value.ref b)] 180 [] := by
  have hn := hSc.2.2.2
  obtain ⟨hL, hR, hM, hI, hX, hK, hZ, hF, hG⟩ := id hV
  have hXl := XC_L hX
  have h16 := CI_nl16 hI
  have h40 := CI_nk40 hI
  refine z_aload_n C dL_law_180 rfl (q := 2) rfl ?_
  refine z_aload_n C dL_law_181 rfl (q := 3) rfl ?_
  refine z_iload_n C dL_law_182 rfl (q := 0) rfl ?_
  refine z_iconst C dL_law_183 (v := nI 1) (by decide) ?_
  refine z_iadd C dL_law_184 (v := nI (i + 1)) (nI_add i 1) ?_
  refine z_sld C hSc (j := i + 1) (by omega) dL_law_185 ?_
  refine z_aload_n C dL_law_186 rfl (q := 3) rfl ?_
  refine z_iload_n C dL_law_187 rfl (q := 0) rfl ?_
  refine z_iconst C dL_law_188 (v := nI 2) (by decide) ?_
  refine z_iadd C dL_law_189 (v := nI (i + 2)) (nI_add i 2) ?_
  refine z_sld C hSc (j := i + 2) (by omega) dL_law_190 ?_
  refine z_aload_n C dL_law_191 rfl (q := 3) rfl ?_
  refine z_iload_n C dL_law_192 rfl (q := 0) rfl ?_
  refine z_iconst C dL_law_193 (v := nI 3) (by decide) ?_
  refine z_iadd C dL_law_194 (v := nI (i + 3)) (nI_add i 3) ?_
  refine z_sld C hSc (j := i + 3) (by omega) dL_law_195 ?_
  refine z_xI C (z_runV C (As := [Value.int (xs (i + 1)), Value.int (xs (i + 2)), Value.int (xs (i + 3))]) (rest := []) (c_X7_letter l D cy a L c g r nl nk hL hR hI (hF nl (Nat.le_refl _) (by omega)).1 (hF nl (Nat.le_refl _) (by omega)).2 hZ (xs (i + 1)) (xs (i + 2)) (xs (i + 3))) (cwV 3 C.2.2.2.2.2.1 gL_law_X7_letter rfl rfl rfl (by decide +kernel) ⟨Nat.le_of_ble_eq_true rfl, Nat.le_of_ble_eq_true rfl⟩) (hL _ (by unfold live; omega)) (zF_k7 (by rfl)) rfl rfl rfl rfl (Nat.le_of_ble_eq_true rfl) dL_law_196 ⟨by omega, by omega⟩) (fun v196 ω196 e196 => ?_)
  have f1 : p7_letter a L c g r nl nk x (xs (i + 1)) (xs (i + 2)) (xs (i + 3)) v196 ω196 := e196
  obtain ⟨a1, L1, c1, g1, r1, hω, h0, h300, hL1, hM1, hc1⟩ := opA_letter hV f1
  subst hω
  dsimp only
  have hK1 := LK_s (lks_hi hc1) hK
  refine z_lveq (lv' := [(3, Value.int (nI i)), (2, Value.ref (a1 300)), (1, Value.ref (a1 0)), (0, Value.ref b)]) (by rw [h0, h300]) ?_
  refine z_aload_n C dL_law_199 rfl (q := 1) rfl ?_
  refine z_aload_n C dL_law_200 rfl (q := 3) rfl ?_
  refine z_iload_n C dL_law_201 rfl (q := 0) rfl ?_
  refine z_iconst C dL_law_202 (v := nI 1) (by decide) ?_
  refine z_iadd C dL_law_203 (v := nI (i + 1)) (nI_add i 1) ?_
  refine z_sld C hSc (j := i + 1) (by omega) dL_law_204 ?_
  refine z_aload_n C dL_law_205 rfl (q := 3) rfl ?_
  refine z_iload_n C dL_law_206 rfl (q := 0) rfl ?_
  refine z_iconst C dL_law_207 (v := nI 2) (by decide) ?_
  refine z_iadd C dL_law_208 (v := nI (i + 2)) (nI_add i 2) ?_
  refine z_sld C hSc (j := i + 2) (by omega) dL_law_209 ?_
  refine z_aload_n C dL_law_210 rfl (q := 3) rfl ?_
  refine z_iload_n C dL_law_211 rfl (q := 0) rfl ?_
  refine z_iconst C dL_law_212 (v := nI 3) (by decide) ?_
  refine z_iadd C dL_law_213 (v := nI (i + 3)) (nI_add i 3) ?_
  refine z_sld C hSc (j := i + 3) (by omega) dL_law_214 ?_
  refine z_cI C (z_runV C (As := [Value.int (xs (i + 1)), Value.int (xs (i + 2)), Value.int (xs (i + 3))]) (rest := [Value.int v196]) (c_X8_letter l D cy a1 L1 c1 g1 r1 nl nk hL1 hM1 c hI x hXl hK1 (xs (i + 1)) (xs (i + 2)) (xs (i + 3))) (cwV 3 C.2.2.2.2.2.1 gL_law_X8_letter rfl rfl rfl (by decide +kernel) ⟨Nat.le_of_ble_eq_true rfl, Nat.le_of_ble_eq_true rfl⟩) (hL1 _ (by unfold live; omega)) (zF_k8 (by rfl)) rfl rfl rfl rfl (Nat.le_of_ble_eq_true rfl) dL_law_215 ⟨by omega, by omega⟩) (fun v215 c215 e215 => ?_)
  have f2 : p8_letter c1 c nl nk x (xs (i + 1)) (xs (i + 2)) (xs (i + 3)) v215 c215 := e215
  obtain ⟨heq, q', hV2⟩ := opB_letter (ω := (a1, L1, c1, g1, r1)) hV f1 f2
  refine z_icmp_eq C dL_law_218 (tgt := 1296) (by decide) (fun h218 => ?_) (fun h218 => absurd (heq) h218)
  refine z_widen (k := ce + 2) (n := sl + 9) (by omega) (by omega) ?_
  exact kk a1 L1 c215 g1 r1 _ _ _ hV2

set_option maxHeartbeats 4000000 in
set_option maxRecDepth 100000 in
theorem law_strip {p : Program} {l : Launch} {e : Env} {s : State} {m : MethodId} {args : Array Value} {below : List Frame} {meth : Method} {co : Code} {D : va_G} {cy : Nat → ClassId} {A : Nat → Prop} {rt : Option FieldType} {Q : State → Prop} {b n i ce sl : Nat} {xs : Nat → Int32} {a : Nat → Nat} {L : List Nat} {c : Nat → Nat → Int32} {g : Nat → Nat → Int64} {r : Nat → Nat → Option Nat} {nl nk : Nat} {x : Nat → Nat → Nat} (C : zC p s m args meth co D cy A cL_law 4 rt wsL_law RL) (hSc : zScr b n xs s A) (hi : i + 6 ≤ n) (hc : ce + 2 ≤ room_1.cells) (hs : sl + 9 ≤ room_1.slots) (hV : INV L c r nl nk x) (kk : ∀ (a' : Nat → Nat) (L' : List Nat) (c' : Nat → Nat → Int32) (g' : Nat → Nat → Int64) (r' : Nat → Nat → Option Nat) (nl' nk' : Nat) (x' : Nat → Nat → Nat), INV L' c' r' nl' nk' x' → zG p l e room_1 s m args below meth co D cy A 4 Q (ce + 2) (sl + 9) a' L' c' g' r' [(3, Value.int (nI i)), (2, Value.ref (a' 300)), (1, Value.ref (a' 0)), (0, Value.ref b)] 1296 []) : zG p l e room_1 s m args below meth co D cy A 4 Q ce sl a L c g r [(3, Value.int (nI i)), (2, Value.ref (a 300)), (1, Value.ref (a 0)), (0, Value.ref b)] 223 [] := by
  have hn := hSc.2.2.2
  obtain ⟨hL, hR, hM, hI, hX, hK, hZ, hF, hG⟩ := id hV
  have hXl := XC_L hX
  have h16 := CI_nl16 hI
  have h40 := CI_nk40 hI
  refine z_aload_n C dL_law_223 rfl (q := 2) rfl ?_
  refine z_aload_n C dL_law_224 rfl (q := 3) rfl ?_
  refine z_iload_n C dL_law_225 rfl (q := 0) rfl ?_
  refine z_iconst C dL_law_226 (v := nI 1) (by decide) ?_
  refine z_iadd C dL_law_227 (v := nI (i + 1)) (nI_add i 1) ?_
  refine z_sld C hSc (j := i + 1) (by omega) dL_law_228 ?_
  refine z_aload_n C dL_law_229 rfl (q := 3) rfl ?_
  refine z_iload_n C dL_law_230 rfl (q := 0) rfl ?_
  refine z_iconst C dL_law_231 (v := nI 2) (by decide) ?_
  refine z_iadd C dL_law_232 (v := nI (i + 2)) (nI_add i 2) ?_
  refine z_sld C hSc (j := i + 2) (by omega) dL_law_233 ?_
  refine z_aload_n C dL_law_234 rfl (q := 3) rfl ?_
  refine z_iload_n C dL_law_235 rfl (q := 0) rfl ?_
  refine z_iconst C dL_law_236 (v := nI 3) (by decide) ?_
  refine z_iadd C dL_law_237 (v := nI (i + 3)) (nI_add i 3) ?_
  refine z_sld C hSc (j := i + 3) (by omega) dL_law_238 ?_
  refine z_cI C (z_runV C (As := [Value.int (xs (i + 1)), Value.int (xs (i + 2)), Value.int (xs (i + 3))]) (rest := []) (c_X7_strip l D cy a L c g r nl nk hL hR hI (xs (i + 1)) (xs (i + 2)) (xs (i + 3))) (cwV 3 C.2.2.2.2.2.1 gL_law_X7_strip rfl rfl rfl (by decide +kernel) ⟨Nat.le_of_ble_eq_true rfl, Nat.le_of_ble_eq_true rfl⟩) (hL _ (by unfold live; omega)) (zF_k7 (by rfl)) rfl rfl rfl rfl (Nat.le_of_ble_eq_true rfl) dL_law_239 ⟨by omega, by omega⟩) (fun v239 c239 e239 => ?_)
  have f1 : p7_strip c nl nk x (xs (i + 1)) (xs (i + 2)) (xs (i + 3)) v239 c239 := e239
  have hK1 := LK_s (lks_hi (opA_strip hV f1)) hK
  refine z_aload_n C dL_law_242 rfl (q := 1) rfl ?_
  refine z_aload_n C dL_law_243 rfl (q := 3) rfl ?_
  refine z_iload_n C dL_law_244 rfl (q := 0) rfl ?_
  refine z_iconst C dL_law_245 (v := nI 1) (by decide) ?_
  refine z_iadd C dL_law_246 (v := nI (i + 1)) (nI_add i 1) ?_
  refine z_sld C hSc (j := i + 1) (by omega) dL_law_247 ?_
  refine z_aload_n C dL_law_248 rfl (q := 3) rfl ?_
  refine z_iload_n C dL_law_249 rfl (q := 0) rfl ?_
  refine z_iconst C dL_law_250 (v := nI 2) (by decide) ?_
  refine z_iadd C dL_law_251 (v := nI (i + 2)) (nI_add i 2) ?_
  refine z_sld C hSc (j := i + 2) (by omega) dL_law_252 ?_
  refine z_aload_n C dL_law_253 rfl (q := 3) rfl ?_
  refine z_iload_n C dL_law_254 rfl (q := 0) rfl ?_
  refine z_iconst C dL_law_255 (v := nI 3) (by decide) ?_
  refine z_iadd C dL_law_256 (v := nI (i + 3)) (nI_add i 3) ?_
  refine z_sld C hSc (j := i + 3) (by omega) dL_law_257 ?_
  refine z_cI C (z_runV C (As := [Value.int (xs (i + 1)), Value.int (xs (i + 2)), Value.int (xs (i + 3))]) (rest := [Value.int v239]) (c_X8_strip l D cy a L c239 g r nl nk hL hM c hI x hXl hK1 (xs (i + 1)) (xs (i + 2)) (xs (i + 3))) (cwV 3 C.2.2.2.2.2.1 gL_law_X8_strip rfl rfl rfl (by decide +kernel) ⟨Nat.le_of_ble_eq_true rfl, Nat.le_of_ble_eq_true rfl⟩) (hL _ (by unfold live; omega)) (zF_k8 (by rfl)) rfl rfl rfl rfl (Nat.le_of_ble_eq_true rfl) dL_law_258 ⟨by omega, by omega⟩) (fun v258 c258 e258 => ?_)
  have f2 : p8_strip c239 c nl nk x (xs (i + 1)) (xs (i + 2)) (xs (i + 3)) v258 c258 := e258
  obtain ⟨heq, hV2⟩ := opB_strip hV f1 f2
  refine z_icmp_eq C dL_law_261 (tgt := 1296) (by decide) (fun h261 => ?_) (fun h261 => absurd (heq) h261)
  refine z_widen (k := ce + 2) (n := sl + 9) (by omega) (by omega) ?_
  exact kk a L c258 g r _ _ _ hV2

set_option maxHeartbeats 4000000 in
set_option maxRecDepth 100000 in
theorem law_about {p : Program} {l : Launch} {e : Env} {s : State} {m : MethodId} {args : Array Value} {below : List Frame} {meth : Method} {co : Code} {D : va_G} {cy : Nat → ClassId} {A : Nat → Prop} {rt : Option FieldType} {Q : State → Prop} {b n i ce sl : Nat} {xs : Nat → Int32} {a : Nat → Nat} {L : List Nat} {c : Nat → Nat → Int32} {g : Nat → Nat → Int64} {r : Nat → Nat → Option Nat} {nl nk : Nat} {x : Nat → Nat → Nat} (C : zC p s m args meth co D cy A cL_law 4 rt wsL_law RL) (hSc : zScr b n xs s A) (hi : i + 6 ≤ n) (hc : ce + 2 ≤ room_1.cells) (hs : sl + 9 ≤ room_1.slots) (hV : INV L c r nl nk x) (kk : ∀ (a' : Nat → Nat) (L' : List Nat) (c' : Nat → Nat → Int32) (g' : Nat → Nat → Int64) (r' : Nat → Nat → Option Nat) (nl' nk' : Nat) (x' : Nat → Nat → Nat), INV L' c' r' nl' nk' x' → zG p l e room_1 s m args below meth co D cy A 4 Q (ce + 2) (sl + 9) a' L' c' g' r' [(3, Value.int (nI i)), (2, Value.ref (a' 300)), (1, Value.ref (a' 0)), (0, Value.ref b)] 1296 []) : zG p l e room_1 s m args below meth co D cy A 4 Q ce sl a L c g r [(3, Value.int (nI i)), (2, Value.ref (a 300)), (1, Value.ref (a 0)), (0, Value.ref b)] 266 [] := by
  have hn := hSc.2.2.2
  obtain ⟨hL, hR, hM, hI, hX, hK, hZ, hF, hG⟩ := id hV
  have hXl := XC_L hX
  have h16 := CI_nl16 hI
  have h40 := CI_nk40 hI
  refine z_aload_n C dL_law_266 rfl (q := 2) rfl ?_
  refine z_aload_n C dL_law_267 rfl (q := 3) rfl ?_
  refine z_iload_n C dL_law_268 rfl (q := 0) rfl ?_
  refine z_iconst C dL_law_269 (v := nI 1) (by decide) ?_
  refine z_iadd C dL_law_270 (v := nI (i + 1)) (nI_add i 1) ?_
  refine z_sld C hSc (j := i + 1) (by omega) dL_law_271 ?_
  refine z_aload_n C dL_law_272 rfl (q := 3) rfl ?_
  refine z_iload_n C dL_law_273 rfl (q := 0) rfl ?_
  refine z_iconst C dL_law_274 (v := nI 2) (by decide) ?_
  refine z_iadd C dL_law_275 (v := nI (i + 2)) (nI_add i 2) ?_
  refine z_sld C hSc (j := i + 2) (by omega) dL_law_276 ?_
  refine z_pI C (z_runV C (As := [Value.int (xs (i + 1)), Value.int (xs (i + 2))]) (rest := []) (c_X7_about l D cy a L c g r nl nk hL hR hI (xs (i + 1)) (xs (i + 2))) (cwV 2 C.2.2.2.2.2.1 gL_law_X7_about rfl rfl rfl (by decide +kernel) ⟨Nat.le_of_ble_eq_true rfl, Nat.le_of_ble_eq_true rfl⟩) (hL _ (by unfold live; omega)) (zF_k7 (by rfl)) rfl rfl rfl rfl (Nat.le_of_ble_eq_true rfl) dL_law_277 ⟨by omega, by omega⟩) (fun v277 e277 => ?_)
  have f1 : p7_about c nl nk x (xs (i + 1)) (xs (i + 2)) v277 := e277
  refine z_aload_n C dL_law_280 rfl (q := 1) rfl ?_
  refine z_aload_n C dL_law_281 rfl (q := 3) rfl ?_
  refine z_iload_n C dL_law_282 rfl (q := 0) rfl ?_
  refine z_iconst C dL_law_283 (v := nI 1) (by decide) ?_
  refine z_iadd C dL_law_284 (v := nI (i + 1)) (nI_add i 1) ?_
  refine z_sld C hSc (j := i + 1) (by omega) dL_law_285 ?_
  refine z_aload_n C dL_law_286 rfl (q := 3) rfl ?_
  refine z_iload_n C dL_law_287 rfl (q := 0) rfl ?_
  refine z_iconst C dL_law_288 (v := nI 2) (by decide) ?_
  refine z_iadd C dL_law_289 (v := nI (i + 2)) (nI_add i 2) ?_
  refine z_sld C hSc (j := i + 2) (by omega) dL_law_290 ?_
  refine z_pI C (z_runV C (As := [Value.int (xs (i + 1)), Value.int (xs (i + 2))]) (rest := [Value.int v277]) (c_X8_about l D cy a L c g r nl nk hL hM c hI x hXl hK (xs (i + 1)) (xs (i + 2))) (cwV 2 C.2.2.2.2.2.1 gL_law_X8_about rfl rfl rfl (by decide +kernel) ⟨Nat.le_of_ble_eq_true rfl, Nat.le_of_ble_eq_true rfl⟩) (hL _ (by unfold live; omega)) (zF_k8 (by rfl)) rfl rfl rfl rfl (Nat.le_of_ble_eq_true rfl) dL_law_291 ⟨by omega, by omega⟩) (fun v291 e291 => ?_)
  have f2 : p8_about c c nl nk x (xs (i + 1)) (xs (i + 2)) v291 := e291
  have heq : v277 = v291 := Eq.trans (show v277 = _ from f1) (Eq.symm (show v291 = _ from f2))
  have hV2 := hV
  refine z_icmp_eq C dL_law_294 (tgt := 1296) (by decide) (fun h294 => ?_) (fun h294 => absurd (heq) h294)
  refine z_widen (k := ce + 2) (n := sl + 9) (by omega) (by omega) ?_
  exact kk a L c g r _ _ _ hV2

set_option maxHeartbeats 4000000 in
set_option maxRecDepth 100000 in
theorem law_spell {p : Program} {l : Launch} {e : Env} {s : State} {m : MethodId} {args : Array Value} {below : List Frame} {meth : Method} {co : Code} {D : va_G} {cy : Nat → ClassId} {A : Nat → Prop} {rt : Option FieldType} {Q : State → Prop} {b n i ce sl : Nat} {xs : Nat → Int32} {a : Nat → Nat} {L : List Nat} {c : Nat → Nat → Int32} {g : Nat → Nat → Int64} {r : Nat → Nat → Option Nat} {nl nk : Nat} {x : Nat → Nat → Nat} (C : zC p s m args meth co D cy A cL_law 4 rt wsL_law RL) (hSc : zScr b n xs s A) (hi : i + 6 ≤ n) (hc : ce + 2 ≤ room_1.cells) (hs : sl + 9 ≤ room_1.slots) (hV : INV L c r nl nk x) (kk : ∀ (a' : Nat → Nat) (L' : List Nat) (c' : Nat → Nat → Int32) (g' : Nat → Nat → Int64) (r' : Nat → Nat → Option Nat) (nl' nk' : Nat) (x' : Nat → Nat → Nat), INV L' c' r' nl' nk' x' → zG p l e room_1 s m args below meth co D cy A 4 Q (ce + 2) (sl + 9) a' L' c' g' r' [(3, Value.int (nI i)), (2, Value.ref (a' 300)), (1, Value.ref (a' 0)), (0, Value.ref b)] 1296 []) : zG p l e room_1 s m args below meth co D cy A 4 Q ce sl a L c g r [(3, Value.int (nI i)), (2, Value.ref (a 300)), (1, Value.ref (a 0)), (0, Value.ref b)] 299 [] := by
  have hn := hSc.2.2.2
  obtain ⟨hL, hR, hM, hI, hX, hK, hZ, hF, hG⟩ := id hV
  have hXl := XC_L hX
  have h16 := CI_nl16 hI
  have h40 := CI_nk40 hI
  refine z_aload_n C dL_law_299 rfl (q := 2) rfl ?_
  refine z_aload_n C dL_law_300 rfl (q := 3) rfl ?_
  refine z_iload_n C dL_law_301 rfl (q := 0) rfl ?_
  refine z_iconst C dL_law_302 (v := nI 1) (by decide) ?_
  refine z_iadd C dL_law_303 (v := nI (i + 1)) (nI_add i 1) ?_
  refine z_sld C hSc (j := i + 1) (by omega) dL_law_304 ?_
  refine z_aload_n C dL_law_305 rfl (q := 3) rfl ?_
  refine z_iload_n C dL_law_306 rfl (q := 0) rfl ?_
  refine z_iconst C dL_law_307 (v := nI 2) (by decide) ?_
  refine z_iadd C dL_law_308 (v := nI (i + 2)) (nI_add i 2) ?_
  refine z_sld C hSc (j := i + 2) (by omega) dL_law_309 ?_
  refine z_xI C (z_runV C (As := [Value.int (xs (i + 1)), Value.int (xs (i + 2))]) (rest := []) (c_X7_spell l D cy a L c g r nl nk hL hR hI (xs (i + 1)) (xs (i + 2))) (cwV 2 C.2.2.2.2.2.1 gL_law_X7_spell rfl rfl rfl (by decide +kernel) ⟨Nat.le_of_ble_eq_true rfl, Nat.le_of_ble_eq_true rfl⟩) (hL _ (by unfold live; omega)) (zF_k7 (by rfl)) rfl rfl rfl rfl (Nat.le_of_ble_eq_true rfl) dL_law_310 ⟨by omega, by omega⟩) (fun v310 ω310 e310 => ?_)
  have f1 : p7_spell a L c g r nl nk x (xs (i + 1)) (xs (i + 2)) v310 ω310 := e310
  obtain ⟨a1, L1, c1, g1, r1, hω, h0, h300, hL1, hM1, hc1⟩ := opA_spell hV f1
  subst hω
  dsimp only
  have hK1 := LK_s (lks_hi hc1) hK
  refine z_lveq (lv' := [(3, Value.int (nI i)), (2, Value.ref (a1 300)), (1, Value.ref (a1 0)), (0, Value.ref b)]) (by rw [h0, h300]) ?_
  refine z_aload_n C dL_law_313 rfl (q := 1) rfl ?_
  refine z_aload_n C dL_law_314 rfl (q := 3) rfl ?_
  refine z_iload_n C dL_law_315 rfl (q := 0) rfl ?_
  refine z_iconst C dL_law_316 (v := nI 1) (by decide) ?_
  refine z_iadd C dL_law_317 (v := nI (i + 1)) (nI_add i 1) ?_
  refine z_sld C hSc (j := i + 1) (by omega) dL_law_318 ?_
  refine z_aload_n C dL_law_319 rfl (q := 3) rfl ?_
  refine z_iload_n C dL_law_320 rfl (q := 0) rfl ?_
  refine z_iconst C dL_law_321 (v := nI 2) (by decide) ?_
  refine z_iadd C dL_law_322 (v := nI (i + 2)) (nI_add i 2) ?_
  refine z_sld C hSc (j := i + 2) (by omega) dL_law_323 ?_
  refine z_cI C (z_runV C (As := [Value.int (xs (i + 1)), Value.int (xs (i + 2))]) (rest := [Value.int v310]) (c_X8_spell l D cy a1 L1 c1 g1 r1 nl nk hL1 hM1 c hI x hXl hK1 (xs (i + 1)) (xs (i + 2))) (cwV 2 C.2.2.2.2.2.1 gL_law_X8_spell rfl rfl rfl (by decide +kernel) ⟨Nat.le_of_ble_eq_true rfl, Nat.le_of_ble_eq_true rfl⟩) (hL1 _ (by unfold live; omega)) (zF_k8 (by rfl)) rfl rfl rfl rfl (Nat.le_of_ble_eq_true rfl) dL_law_324 ⟨by omega, by omega⟩) (fun v324 c324 e324 => ?_)
  have f2 : p8_spell c1 c nl nk x (xs (i + 1)) (xs (i + 2)) v324 c324 := e324
  obtain ⟨heq, q', hV2⟩ := opB_spell (ω := (a1, L1, c1, g1, r1)) hV f1 f2
  refine z_icmp_eq C dL_law_327 (tgt := 1296) (by decide) (fun h327 => ?_) (fun h327 => absurd (heq) h327)
  refine z_widen (k := ce + 2) (n := sl + 9) (by omega) (by omega) ?_
  exact kk a1 L1 c324 g1 r1 _ _ _ hV2

set_option maxHeartbeats 4000000 in
set_option maxRecDepth 100000 in
theorem law_wipe {p : Program} {l : Launch} {e : Env} {s : State} {m : MethodId} {args : Array Value} {below : List Frame} {meth : Method} {co : Code} {D : va_G} {cy : Nat → ClassId} {A : Nat → Prop} {rt : Option FieldType} {Q : State → Prop} {b n i ce sl : Nat} {xs : Nat → Int32} {a : Nat → Nat} {L : List Nat} {c : Nat → Nat → Int32} {g : Nat → Nat → Int64} {r : Nat → Nat → Option Nat} {nl nk : Nat} {x : Nat → Nat → Nat} (C : zC p s m args meth co D cy A cL_law 4 rt wsL_law RL) (hSc : zScr b n xs s A) (hi : i + 6 ≤ n) (hc : ce + 2 ≤ room_1.cells) (hs : sl + 9 ≤ room_1.slots) (hV : INV L c r nl nk x) (kk : ∀ (a' : Nat → Nat) (L' : List Nat) (c' : Nat → Nat → Int32) (g' : Nat → Nat → Int64) (r' : Nat → Nat → Option Nat) (nl' nk' : Nat) (x' : Nat → Nat → Nat), INV L' c' r' nl' nk' x' → zG p l e room_1 s m args below meth co D cy A 4 Q (ce + 2) (sl + 9) a' L' c' g' r' [(3, Value.int (nI i)), (2, Value.ref (a' 300)), (1, Value.ref (a' 0)), (0, Value.ref b)] 1296 []) : zG p l e room_1 s m args below meth co D cy A 4 Q ce sl a L c g r [(3, Value.int (nI i)), (2, Value.ref (a 300)), (1, Value.ref (a 0)), (0, Value.ref b)] 332 [] := by
  have hn := hSc.2.2.2
  obtain ⟨hL, hR, hM, hI, hX, hK, hZ, hF, hG⟩ := id hV
  have hXl := XC_L hX
  have h16 := CI_nl16 hI
  have h40 := CI_nk40 hI
  refine z_aload_n C dL_law_332 rfl (q := 2) rfl ?_
  refine z_aload_n C dL_law_333 rfl (q := 3) rfl ?_
  refine z_iload_n C dL_law_334 rfl (q := 0) rfl ?_
  refine z_iconst C dL_law_335 (v := nI 1) (by decide) ?_
  refine z_iadd C dL_law_336 (v := nI (i + 1)) (nI_add i 1) ?_
  refine z_sld C hSc (j := i + 1) (by omega) dL_law_337 ?_
  refine z_cI C (z_runV C (As := [Value.int (xs (i + 1))]) (rest := []) (c_X7_wipe l D cy a L c g r nl nk hL hR hI (xs (i + 1))) (cwV 1 C.2.2.2.2.2.1 gL_law_X7_wipe rfl rfl rfl (by decide +kernel) ⟨Nat.le_of_ble_eq_true rfl, Nat.le_of_ble_eq_true rfl⟩) (hL _ (by unfold live; omega)) (zF_k7 (by rfl)) rfl rfl rfl rfl (Nat.le_of_ble_eq_true rfl) dL_law_338 ⟨by omega, by omega⟩) (fun v338 c338 e338 => ?_)
  have f1 : p7_wipe c nl nk x (xs (i + 1)) v338 c338 := e338
  have hK1 := LK_s (lks_hi (opA_wipe hV f1)) hK
  refine z_aload_n C dL_law_341 rfl (q := 1) rfl ?_
  refine z_aload_n C dL_law_342 rfl (q := 3) rfl ?_
  refine z_iload_n C dL_law_343 rfl (q := 0) rfl ?_
  refine z_iconst C dL_law_344 (v := nI 1) (by decide) ?_
  refine z_iadd C dL_law_345 (v := nI (i + 1)) (nI_add i 1) ?_
  refine z_sld C hSc (j := i + 1) (by omega) dL_law_346 ?_
  refine z_cI C (z_runV C (As := [Value.int (xs (i + 1))]) (rest := [Value.int v338]) (c_X8_wipe l D cy a L c338 g r nl nk hL hM c hI x hXl hK1 (xs (i + 1))) (cwV 1 C.2.2.2.2.2.1 gL_law_X8_wipe rfl rfl rfl (by decide +kernel) ⟨Nat.le_of_ble_eq_true rfl, Nat.le_of_ble_eq_true rfl⟩) (hL _ (by unfold live; omega)) (zF_k8 (by rfl)) rfl rfl rfl rfl (Nat.le_of_ble_eq_true rfl) dL_law_347 ⟨by omega, by omega⟩) (fun v347 c347 e347 => ?_)
  have f2 : p8_wipe c338 c nl nk x (xs (i + 1)) v347 c347 := e347
  obtain ⟨heq, hV2⟩ := opB_wipe hV f1 f2
  refine z_icmp_eq C dL_law_350 (tgt := 1296) (by decide) (fun h350 => ?_) (fun h350 => absurd (heq) h350)
  refine z_widen (k := ce + 2) (n := sl + 9) (by omega) (by omega) ?_
  exact kk a L c347 g r _ _ _ hV2

set_option maxHeartbeats 4000000 in
set_option maxRecDepth 100000 in
theorem law_slots {p : Program} {l : Launch} {e : Env} {s : State} {m : MethodId} {args : Array Value} {below : List Frame} {meth : Method} {co : Code} {D : va_G} {cy : Nat → ClassId} {A : Nat → Prop} {rt : Option FieldType} {Q : State → Prop} {b n i ce sl : Nat} {xs : Nat → Int32} {a : Nat → Nat} {L : List Nat} {c : Nat → Nat → Int32} {g : Nat → Nat → Int64} {r : Nat → Nat → Option Nat} {nl nk : Nat} {x : Nat → Nat → Nat} (C : zC p s m args meth co D cy A cL_law 4 rt wsL_law RL) (hSc : zScr b n xs s A) (hi : i + 6 ≤ n) (hc : ce + 2 ≤ room_1.cells) (hs : sl + 9 ≤ room_1.slots) (hV : INV L c r nl nk x) (kk : ∀ (a' : Nat → Nat) (L' : List Nat) (c' : Nat → Nat → Int32) (g' : Nat → Nat → Int64) (r' : Nat → Nat → Option Nat) (nl' nk' : Nat) (x' : Nat → Nat → Nat), INV L' c' r' nl' nk' x' → zG p l e room_1 s m args below meth co D cy A 4 Q (ce + 2) (sl + 9) a' L' c' g' r' [(3, Value.int (nI i)), (2, Value.ref (a' 300)), (1, Value.ref (a' 0)), (0, Value.ref b)] 1296 []) : zG p l e room_1 s m args below meth co D cy A 4 Q ce sl a L c g r [(3, Value.int (nI i)), (2, Value.ref (a 300)), (1, Value.ref (a 0)), (0, Value.ref b)] 355 [] := by
  have hn := hSc.2.2.2
  obtain ⟨hL, hR, hM, hI, hX, hK, hZ, hF, hG⟩ := id hV
  have hXl := XC_L hX
  have h16 := CI_nl16 hI
  have h40 := CI_nk40 hI
  refine z_aload_n C dL_law_355 rfl (q := 2) rfl ?_
  refine z_aload_n C dL_law_356 rfl (q := 3) rfl ?_
  refine z_iload_n C dL_law_357 rfl (q := 0) rfl ?_
  refine z_iconst C dL_law_358 (v := nI 1) (by decide) ?_
  refine z_iadd C dL_law_359 (v := nI (i + 1)) (nI_add i 1) ?_
  refine z_sld C hSc (j := i + 1) (by omega) dL_law_360 ?_
  refine z_cI C (z_runV C (As := [Value.int (xs (i + 1))]) (rest := []) (c_X7_slots l D cy a L c g r nl nk hL hR hI (xs (i + 1))) (cwV 1 C.2.2.2.2.2.1 gL_law_X7_slots rfl rfl rfl (by decide +kernel) ⟨Nat.le_of_ble_eq_true rfl, Nat.le_of_ble_eq_true rfl⟩) (hL _ (by unfold live; omega)) (zF_k7 (by rfl)) rfl rfl rfl rfl (Nat.le_of_ble_eq_true rfl) dL_law_361 ⟨by omega, by omega⟩) (fun v361 c361 e361 => ?_)
  have f1 : p7_slots c nl nk x (xs (i + 1)) v361 c361 := e361
  have hK1 := LK_s (lks_hi (opA_slots hV f1)) hK
  refine z_aload_n C dL_law_364 rfl (q := 1) rfl ?_
  refine z_aload_n C dL_law_365 rfl (q := 3) rfl ?_
  refine z_iload_n C dL_law_366 rfl (q := 0) rfl ?_
  refine z_iconst C dL_law_367 (v := nI 1) (by decide) ?_
  refine z_iadd C dL_law_368 (v := nI (i + 1)) (nI_add i 1) ?_
  refine z_sld C hSc (j := i + 1) (by omega) dL_law_369 ?_
  refine z_cI C (z_runV C (As := [Value.int (xs (i + 1))]) (rest := [Value.int v361]) (c_X8_slots l D cy a L c361 g r nl nk hL hM c hI x hXl hK1 (xs (i + 1))) (cwV 1 C.2.2.2.2.2.1 gL_law_X8_slots rfl rfl rfl (by decide +kernel) ⟨Nat.le_of_ble_eq_true rfl, Nat.le_of_ble_eq_true rfl⟩) (hL _ (by unfold live; omega)) (zF_k8 (by rfl)) rfl rfl rfl rfl (Nat.le_of_ble_eq_true rfl) dL_law_370 ⟨by omega, by omega⟩) (fun v370 c370 e370 => ?_)
  have f2 : p8_slots c361 c nl nk x (xs (i + 1)) v370 c370 := e370
  obtain ⟨heq, hV2⟩ := opB_slots hV f1 f2
  refine z_icmp_eq C dL_law_373 (tgt := 1296) (by decide) (fun h373 => ?_) (fun h373 => absurd (heq) h373)
  refine z_widen (k := ce + 2) (n := sl + 9) (by omega) (by omega) ?_
  exact kk a L c370 g r _ _ _ hV2

set_option maxHeartbeats 4000000 in
set_option maxRecDepth 100000 in
theorem law_gap {p : Program} {l : Launch} {e : Env} {s : State} {m : MethodId} {args : Array Value} {below : List Frame} {meth : Method} {co : Code} {D : va_G} {cy : Nat → ClassId} {A : Nat → Prop} {rt : Option FieldType} {Q : State → Prop} {b n i ce sl : Nat} {xs : Nat → Int32} {a : Nat → Nat} {L : List Nat} {c : Nat → Nat → Int32} {g : Nat → Nat → Int64} {r : Nat → Nat → Option Nat} {nl nk : Nat} {x : Nat → Nat → Nat} (C : zC p s m args meth co D cy A cL_law 4 rt wsL_law RL) (hSc : zScr b n xs s A) (hi : i + 6 ≤ n) (hc : ce + 2 ≤ room_1.cells) (hs : sl + 9 ≤ room_1.slots) (hV : INV L c r nl nk x) (kk : ∀ (a' : Nat → Nat) (L' : List Nat) (c' : Nat → Nat → Int32) (g' : Nat → Nat → Int64) (r' : Nat → Nat → Option Nat) (nl' nk' : Nat) (x' : Nat → Nat → Nat), INV L' c' r' nl' nk' x' → zG p l e room_1 s m args below meth co D cy A 4 Q (ce + 2) (sl + 9) a' L' c' g' r' [(3, Value.int (nI i)), (2, Value.ref (a' 300)), (1, Value.ref (a' 0)), (0, Value.ref b)] 1296 []) : zG p l e room_1 s m args below meth co D cy A 4 Q ce sl a L c g r [(3, Value.int (nI i)), (2, Value.ref (a 300)), (1, Value.ref (a 0)), (0, Value.ref b)] 378 [] := by
  have hn := hSc.2.2.2
  obtain ⟨hL, hR, hM, hI, hX, hK, hZ, hF, hG⟩ := id hV
  have hXl := XC_L hX
  have h16 := CI_nl16 hI
  have h40 := CI_nk40 hI
  refine z_aload_n C dL_law_378 rfl (q := 2) rfl ?_
  refine z_aload_n C dL_law_379 rfl (q := 3) rfl ?_
  refine z_iload_n C dL_law_380 rfl (q := 0) rfl ?_
  refine z_iconst C dL_law_381 (v := nI 1) (by decide) ?_
  refine z_iadd C dL_law_382 (v := nI (i + 1)) (nI_add i 1) ?_
  refine z_sld C hSc (j := i + 1) (by omega) dL_law_383 ?_
  refine z_cI C (z_runV C (As := [Value.int (xs (i + 1))]) (rest := []) (c_X7_gap l D cy a L c g r nl nk hL hR hI (xs (i + 1))) (cwV 1 C.2.2.2.2.2.1 gL_law_X7_gap rfl rfl rfl (by decide +kernel) ⟨Nat.le_of_ble_eq_true rfl, Nat.le_of_ble_eq_true rfl⟩) (hL _ (by unfold live; omega)) (zF_k7 (by rfl)) rfl rfl rfl rfl (Nat.le_of_ble_eq_true rfl) dL_law_384 ⟨by omega, by omega⟩) (fun v384 c384 e384 => ?_)
  have f1 : p7_gap c nl nk x (xs (i + 1)) v384 c384 := e384
  have hK1 := LK_s (lks_hi (opA_gap hV f1)) hK
  refine z_aload_n C dL_law_387 rfl (q := 1) rfl ?_
  refine z_aload_n C dL_law_388 rfl (q := 3) rfl ?_
  refine z_iload_n C dL_law_389 rfl (q := 0) rfl ?_
  refine z_iconst C dL_law_390 (v := nI 1) (by decide) ?_
  refine z_iadd C dL_law_391 (v := nI (i + 1)) (nI_add i 1) ?_
  refine z_sld C hSc (j := i + 1) (by omega) dL_law_392 ?_
  refine z_cI C (z_runV C (As := [Value.int (xs (i + 1))]) (rest := [Value.int v384]) (c_X8_gap l D cy a L c384 g r nl nk hL hM c hI x hXl hK1 (xs (i + 1))) (cwV 1 C.2.2.2.2.2.1 gL_law_X8_gap rfl rfl rfl (by decide +kernel) ⟨Nat.le_of_ble_eq_true rfl, Nat.le_of_ble_eq_true rfl⟩) (hL _ (by unfold live; omega)) (zF_k8 (by rfl)) rfl rfl rfl rfl (Nat.le_of_ble_eq_true rfl) dL_law_393 ⟨by omega, by omega⟩) (fun v393 c393 e393 => ?_)
  have f2 : p8_gap c384 c nl nk x (xs (i + 1)) v393 c393 := e393
  obtain ⟨heq, hV2⟩ := opB_gap hV f1 f2
  refine z_icmp_eq C dL_law_396 (tgt := 1296) (by decide) (fun h396 => ?_) (fun h396 => absurd (heq) h396)
  refine z_widen (k := ce + 2) (n := sl + 9) (by omega) (by omega) ?_
  exact kk a L c393 g r _ _ _ hV2

set_option maxHeartbeats 4000000 in
set_option maxRecDepth 100000 in
theorem law_wide {p : Program} {l : Launch} {e : Env} {s : State} {m : MethodId} {args : Array Value} {below : List Frame} {meth : Method} {co : Code} {D : va_G} {cy : Nat → ClassId} {A : Nat → Prop} {rt : Option FieldType} {Q : State → Prop} {b n i ce sl : Nat} {xs : Nat → Int32} {a : Nat → Nat} {L : List Nat} {c : Nat → Nat → Int32} {g : Nat → Nat → Int64} {r : Nat → Nat → Option Nat} {nl nk : Nat} {x : Nat → Nat → Nat} (C : zC p s m args meth co D cy A cL_law 4 rt wsL_law RL) (hSc : zScr b n xs s A) (hi : i + 6 ≤ n) (hc : ce + 2 ≤ room_1.cells) (hs : sl + 9 ≤ room_1.slots) (hV : INV L c r nl nk x) (kk : ∀ (a' : Nat → Nat) (L' : List Nat) (c' : Nat → Nat → Int32) (g' : Nat → Nat → Int64) (r' : Nat → Nat → Option Nat) (nl' nk' : Nat) (x' : Nat → Nat → Nat), INV L' c' r' nl' nk' x' → zG p l e room_1 s m args below meth co D cy A 4 Q (ce + 2) (sl + 9) a' L' c' g' r' [(3, Value.int (nI i)), (2, Value.ref (a' 300)), (1, Value.ref (a' 0)), (0, Value.ref b)] 1296 []) : zG p l e room_1 s m args below meth co D cy A 4 Q ce sl a L c g r [(3, Value.int (nI i)), (2, Value.ref (a 300)), (1, Value.ref (a 0)), (0, Value.ref b)] 401 [] := by
  have hn := hSc.2.2.2
  obtain ⟨hL, hR, hM, hI, hX, hK, hZ, hF, hG⟩ := id hV
  have hXl := XC_L hX
  have h16 := CI_nl16 hI
  have h40 := CI_nk40 hI
  refine z_aload_n C dL_law_401 rfl (q := 2) rfl ?_
  refine z_aload_n C dL_law_402 rfl (q := 3) rfl ?_
  refine z_iload_n C dL_law_403 rfl (q := 0) rfl ?_
  refine z_iconst C dL_law_404 (v := nI 1) (by decide) ?_
  refine z_iadd C dL_law_405 (v := nI (i + 1)) (nI_add i 1) ?_
  refine z_sld C hSc (j := i + 1) (by omega) dL_law_406 ?_
  refine z_pI C (z_runV C (As := [Value.int (xs (i + 1))]) (rest := []) (c_X7_wide l D cy a L c g r nl nk hL hR hI x hX (xs (i + 1))) (cwV 1 C.2.2.2.2.2.1 gL_law_X7_wide rfl rfl rfl (by decide +kernel) ⟨Nat.le_of_ble_eq_true rfl, Nat.le_of_ble_eq_true rfl⟩) (hL _ (by unfold live; omega)) (zF_k7 (by rfl)) rfl rfl rfl rfl (Nat.le_of_ble_eq_true rfl) dL_law_407 ⟨by omega, by omega⟩) (fun v407 e407 => ?_)
  have f1 : p7_wide c nl nk x (xs (i + 1)) v407 := e407
  refine z_aload_n C dL_law_410 rfl (q := 1) rfl ?_
  refine z_aload_n C dL_law_411 rfl (q := 3) rfl ?_
  refine z_iload_n C dL_law_412 rfl (q := 0) rfl ?_
  refine z_iconst C dL_law_413 (v := nI 1) (by decide) ?_
  refine z_iadd C dL_law_414 (v := nI (i + 1)) (nI_add i 1) ?_
  refine z_sld C hSc (j := i + 1) (by omega) dL_law_415 ?_
  refine z_pI C (z_runV C (As := [Value.int (xs (i + 1))]) (rest := [Value.int v407]) (c_X8_wide l D cy a L c g r nl nk hL hM c hI x hXl hK (xs (i + 1))) (cwV 1 C.2.2.2.2.2.1 gL_law_X8_wide rfl rfl rfl (by decide +kernel) ⟨Nat.le_of_ble_eq_true rfl, Nat.le_of_ble_eq_true rfl⟩) (hL _ (by unfold live; omega)) (zF_k8 (by rfl)) rfl rfl rfl rfl (Nat.le_of_ble_eq_true rfl) dL_law_416 ⟨by omega, by omega⟩) (fun v416 e416 => ?_)
  have f2 : p8_wide c c nl nk x (xs (i + 1)) v416 := e416
  have heq : v407 = v416 := Eq.trans (show v407 = _ from f1) (Eq.symm (show v416 = _ from f2))
  have hV2 := hV
  refine z_icmp_eq C dL_law_419 (tgt := 1296) (by decide) (fun h419 => ?_) (fun h419 => absurd (heq) h419)
  refine z_widen (k := ce + 2) (n := sl + 9) (by omega) (by omega) ?_
  exact kk a L c g r _ _ _ hV2

set_option maxHeartbeats 4000000 in
set_option maxRecDepth 100000 in
theorem law_longest {p : Program} {l : Launch} {e : Env} {s : State} {m : MethodId} {args : Array Value} {below : List Frame} {meth : Method} {co : Code} {D : va_G} {cy : Nat → ClassId} {A : Nat → Prop} {rt : Option FieldType} {Q : State → Prop} {b n i ce sl : Nat} {xs : Nat → Int32} {a : Nat → Nat} {L : List Nat} {c : Nat → Nat → Int32} {g : Nat → Nat → Int64} {r : Nat → Nat → Option Nat} {nl nk : Nat} {x : Nat → Nat → Nat} (C : zC p s m args meth co D cy A cL_law 4 rt wsL_law RL) (hSc : zScr b n xs s A) (hi : i + 6 ≤ n) (hc : ce + 2 ≤ room_1.cells) (hs : sl + 9 ≤ room_1.slots) (hV : INV L c r nl nk x) (kk : ∀ (a' : Nat → Nat) (L' : List Nat) (c' : Nat → Nat → Int32) (g' : Nat → Nat → Int64) (r' : Nat → Nat → Option Nat) (nl' nk' : Nat) (x' : Nat → Nat → Nat), INV L' c' r' nl' nk' x' → zG p l e room_1 s m args below meth co D cy A 4 Q (ce + 2) (sl + 9) a' L' c' g' r' [(3, Value.int (nI i)), (2, Value.ref (a' 300)), (1, Value.ref (a' 0)), (0, Value.ref b)] 1296 []) : zG p l e room_1 s m args below meth co D cy A 4 Q ce sl a L c g r [(3, Value.int (nI i)), (2, Value.ref (a 300)), (1, Value.ref (a 0)), (0, Value.ref b)] 424 [] := by
  have hn := hSc.2.2.2
  obtain ⟨hL, hR, hM, hI, hX, hK, hZ, hF, hG⟩ := id hV
  have hXl := XC_L hX
  have h16 := CI_nl16 hI
  have h40 := CI_nk40 hI
  refine z_aload_n C dL_law_424 rfl (q := 2) rfl ?_
  refine z_pI C (z_runV C (As := []) (rest := []) (c_X7_longest l D cy a L c g r nl nk hL hR hI x hX ) (cwV 0 C.2.2.2.2.2.1 gL_law_X7_longest rfl rfl rfl (by decide +kernel) ⟨Nat.le_of_ble_eq_true rfl, Nat.le_of_ble_eq_true rfl⟩) (hL _ (by unfold live; omega)) (zF_k7 (by rfl)) rfl rfl rfl rfl (Nat.le_of_ble_eq_true rfl) dL_law_425 ⟨by omega, by omega⟩) (fun v425 e425 => ?_)
  have f1 : p7_longest c nl nk x  v425 := e425
  refine z_aload_n C dL_law_428 rfl (q := 1) rfl ?_
  refine z_pI C (z_runV C (As := []) (rest := [Value.int v425]) (c_X8_longest l D cy a L c g r nl nk hL hM c hI x hXl hK ) (cwV 0 C.2.2.2.2.2.1 gL_law_X8_longest rfl rfl rfl (by decide +kernel) ⟨Nat.le_of_ble_eq_true rfl, Nat.le_of_ble_eq_true rfl⟩) (hL _ (by unfold live; omega)) (zF_k8 (by rfl)) rfl rfl rfl rfl (Nat.le_of_ble_eq_true rfl) dL_law_429 ⟨by omega, by omega⟩) (fun v429 e429 => ?_)
  have f2 : p8_longest c c nl nk x  v429 := e429
  have heq : v425 = v429 := Eq.trans (show v425 = _ from f1) (Eq.symm (show v429 = _ from f2))
  have hV2 := hV
  refine z_icmp_eq C dL_law_432 (tgt := 1296) (by decide) (fun h432 => ?_) (fun h432 => absurd (heq) h432)
  refine z_widen (k := ce + 2) (n := sl + 9) (by omega) (by omega) ?_
  exact kk a L c g r _ _ _ hV2
