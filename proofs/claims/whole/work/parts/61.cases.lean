/-! PART 61: the cases of the law -/
section LCASE
variable {p : Program} {l : Launch} {e : Env} {s : State} {m : MethodId} {args : Array Value} {below : List Frame} {meth : Method} {c : Code} {G : Gm} {A : Nat → Prop} {ce sl : Nat} {Q : State → Prop} {I : Ii} {pm : Pm} {b L j : Nat} {xs : Nat → Int32} {x : Int32}
set_option maxHeartbeats 1000000 in
theorem la_loco (F : FX p s m args c cL_law 4 RL G A) (hj : Aj G) (S : SIM I pm) (C : SC s A b L xs) (ei : x = nI (5 * j)) (hk : 5 * j + 5 ≤ L) (hce : ce ≤ room_1.cells) (hsl : sl ≤ room_1.slots) (kk : ∀ I1 pm1, SIM I1 pm1 → GG p l e room_1 s m args below meth c G A 4 ce sl Q I1 pm1 [(0, .ref b), (1, .ref (G.2.2 8 0)), (2, .ref (G.2.2 16 0)), (3, .int x)] 799 []) : GG p l e room_1 s m args below meth c G A 4 ce sl Q I pm [(0, .ref b), (1, .ref (G.2.2 8 0)), (2, .ref (G.2.2 16 0)), (3, .int x)] 140 [] := by
  obtain ⟨P1, c1, n1⟩ := duo_loco (l := l) (G := G) hj S (a := xs (5 * j + 1)) (b := xs (5 * j + 2)) (c0 := xs (5 * j + 3)) (d := xs (5 * j + 4))
  refine g_aload_n F 1 dL_law_140 rfl rfl ?_
  refine g_scr (k := 1) F C ei (by omega) rfl rfl (by decide) rfl dL_law_141 dL_law_142 dL_law_143 dL_law_144 dL_law_145 ?_
  refine g_scr (k := 2) F C ei (by omega) rfl rfl (by decide) rfl dL_law_146 dL_law_147 dL_law_148 dL_law_149 dL_law_150 ?_
  refine g_scr (k := 3) F C ei (by omega) rfl rfl (by decide) rfl dL_law_151 dL_law_152 dL_law_153 dL_law_154 dL_law_155 ?_
  refine g_scr (k := 4) F C ei (by omega) rfl rfl (by decide) rfl dL_law_156 dL_law_157 dL_law_158 dL_law_159 dL_law_160 ?_
  refine g_callIv (na := 4) F 8 _ c1 (by decide) rfl rfl lk_L_13 rfl rfl (by decide +kernel) ⟨rfl, rfl, Nat.le_of_ble_eq_true rfl, Nat.le_of_ble_eq_true rfl, hce, hsl, Nat.le_of_ble_eq_true rfl⟩ dL_law_161 (fun r1 u1 h1 => ?_)
  obtain ⟨P2, c2, n2⟩ := n1 r1 u1 h1
  refine g_aload_n F 2 dL_law_164 rfl rfl ?_
  refine g_scr (k := 1) F C ei (by omega) rfl rfl (by decide) rfl dL_law_165 dL_law_166 dL_law_167 dL_law_168 dL_law_169 ?_
  refine g_scr (k := 2) F C ei (by omega) rfl rfl (by decide) rfl dL_law_170 dL_law_171 dL_law_172 dL_law_173 dL_law_174 ?_
  refine g_scr (k := 3) F C ei (by omega) rfl rfl (by decide) rfl dL_law_175 dL_law_176 dL_law_177 dL_law_178 dL_law_179 ?_
  refine g_scr (k := 4) F C ei (by omega) rfl rfl (by decide) rfl dL_law_180 dL_law_181 dL_law_182 dL_law_183 dL_law_184 ?_
  refine g_callIv (na := 4) F 16 _ c2 (by decide) rfl rfl lk_L_17 rfl rfl (by decide +kernel) ⟨rfl, rfl, Nat.le_of_ble_eq_true rfl, Nat.le_of_ble_eq_true rfl, hce, hsl, Nat.le_of_ble_eq_true rfl⟩ dL_law_185 (fun r2 u2 h2 => ?_)
  obtain ⟨e12, S2⟩ := n2 r2 u2 h2
  exact g_icmp_eq F 799 dL_law_188 (by decide) (fun _ => kk _ _ S2) (fun q => absurd e12 q)
set_option maxHeartbeats 1000000 in
theorem la_lift (F : FX p s m args c cL_law 4 RL G A) (hj : Aj G) (S : SIM I pm) (C : SC s A b L xs) (ei : x = nI (5 * j)) (hk : 5 * j + 5 ≤ L) (hce : ce ≤ room_1.cells) (hsl : sl ≤ room_1.slots) (kk : ∀ I1 pm1, SIM I1 pm1 → GG p l e room_1 s m args below meth c G A 4 ce sl Q I1 pm1 [(0, .ref b), (1, .ref (G.2.2 8 0)), (2, .ref (G.2.2 16 0)), (3, .int x)] 799 []) : GG p l e room_1 s m args below meth c G A 4 ce sl Q I pm [(0, .ref b), (1, .ref (G.2.2 8 0)), (2, .ref (G.2.2 16 0)), (3, .int x)] 193 [] := by
  obtain ⟨P1, c1, n1⟩ := duo_lift (l := l) (G := G) hj S (a := xs (5 * j + 1))
  refine g_aload_n F 1 dL_law_193 rfl rfl ?_
  refine g_scr (k := 1) F C ei (by omega) rfl rfl (by decide) rfl dL_law_194 dL_law_195 dL_law_196 dL_law_197 dL_law_198 ?_
  refine g_callIv (na := 1) F 8 _ c1 (by decide) rfl rfl lk_L_18 rfl rfl (by decide +kernel) ⟨rfl, rfl, Nat.le_of_ble_eq_true rfl, Nat.le_of_ble_eq_true rfl, hce, hsl, Nat.le_of_ble_eq_true rfl⟩ dL_law_199 (fun r1 u1 h1 => ?_)
  obtain ⟨P2, c2, n2⟩ := n1 r1 u1 h1
  refine g_aload_n F 2 dL_law_202 rfl rfl ?_
  refine g_scr (k := 1) F C ei (by omega) rfl rfl (by decide) rfl dL_law_203 dL_law_204 dL_law_205 dL_law_206 dL_law_207 ?_
  refine g_callIv (na := 1) F 16 _ c2 (by decide) rfl rfl lk_L_22 rfl rfl (by decide +kernel) ⟨rfl, rfl, Nat.le_of_ble_eq_true rfl, Nat.le_of_ble_eq_true rfl, hce, hsl, Nat.le_of_ble_eq_true rfl⟩ dL_law_208 (fun r2 u2 h2 => ?_)
  obtain ⟨e12, S2⟩ := n2 r2 u2 h2
  exact g_icmp_eq F 799 dL_law_211 (by decide) (fun _ => kk _ _ S2) (fun q => absurd e12 q)
set_option maxHeartbeats 1000000 in
theorem la_noise (F : FX p s m args c cL_law 4 RL G A) (hj : Aj G) (S : SIM I pm) (C : SC s A b L xs) (ei : x = nI (5 * j)) (hk : 5 * j + 5 ≤ L) (hce : ce ≤ room_1.cells) (hsl : sl ≤ room_1.slots) (kk : ∀ I1 pm1, SIM I1 pm1 → GG p l e room_1 s m args below meth c G A 4 ce sl Q I1 pm1 [(0, .ref b), (1, .ref (G.2.2 8 0)), (2, .ref (G.2.2 16 0)), (3, .int x)] 799 []) : GG p l e room_1 s m args below meth c G A 4 ce sl Q I pm [(0, .ref b), (1, .ref (G.2.2 8 0)), (2, .ref (G.2.2 16 0)), (3, .int x)] 216 [] := by
  obtain ⟨P1, c1, n1⟩ := duo_noise (l := l) (G := G) hj S (x := xs (5 * j + 1))
  refine g_aload_n F 1 dL_law_216 rfl rfl ?_
  refine g_scr (k := 1) F C ei (by omega) rfl rfl (by decide) rfl dL_law_217 dL_law_218 dL_law_219 dL_law_220 dL_law_221 ?_
  refine g_callIv (na := 1) F 8 _ c1 (by decide) rfl rfl lk_L_23 rfl rfl (by decide +kernel) ⟨rfl, rfl, Nat.le_of_ble_eq_true rfl, Nat.le_of_ble_eq_true rfl, hce, hsl, Nat.le_of_ble_eq_true rfl⟩ dL_law_222 (fun r1 u1 h1 => ?_)
  obtain ⟨P2, c2, n2⟩ := n1 r1 u1 h1
  refine g_aload_n F 2 dL_law_225 rfl rfl ?_
  refine g_scr (k := 1) F C ei (by omega) rfl rfl (by decide) rfl dL_law_226 dL_law_227 dL_law_228 dL_law_229 dL_law_230 ?_
  refine g_callIv (na := 1) F 16 _ c2 (by decide) rfl rfl lk_L_26 rfl rfl (by decide +kernel) ⟨rfl, rfl, Nat.le_of_ble_eq_true rfl, Nat.le_of_ble_eq_true rfl, hce, hsl, Nat.le_of_ble_eq_true rfl⟩ dL_law_231 (fun r2 u2 h2 => ?_)
  obtain ⟨e12, S2⟩ := n2 r2 u2 h2
  exact g_icmp_eq F 799 dL_law_234 (by decide) (fun _ => kk _ _ S2) (fun q => absurd e12 q)
set_option maxHeartbeats 1000000 in
theorem la_order (F : FX p s m args c cL_law 4 RL G A) (hj : Aj G) (S : SIM I pm) (C : SC s A b L xs) (ei : x = nI (5 * j)) (hk : 5 * j + 5 ≤ L) (hce : ce ≤ room_1.cells) (hsl : sl ≤ room_1.slots) (kk : ∀ I1 pm1, SIM I1 pm1 → GG p l e room_1 s m args below meth c G A 4 ce sl Q I1 pm1 [(0, .ref b), (1, .ref (G.2.2 8 0)), (2, .ref (G.2.2 16 0)), (3, .int x)] 799 []) : GG p l e room_1 s m args below meth c G A 4 ce sl Q I pm [(0, .ref b), (1, .ref (G.2.2 8 0)), (2, .ref (G.2.2 16 0)), (3, .int x)] 239 [] := by
  obtain ⟨P1, c1, n1⟩ := duo_order (l := l) (G := G) hj S (a := xs (5 * j + 1)) (d := xs (5 * j + 2)) (t := xs (5 * j + 3))
  refine g_aload_n F 1 dL_law_239 rfl rfl ?_
  refine g_scr (k := 1) F C ei (by omega) rfl rfl (by decide) rfl dL_law_240 dL_law_241 dL_law_242 dL_law_243 dL_law_244 ?_
  refine g_scr (k := 2) F C ei (by omega) rfl rfl (by decide) rfl dL_law_245 dL_law_246 dL_law_247 dL_law_248 dL_law_249 ?_
  refine g_scr (k := 3) F C ei (by omega) rfl rfl (by decide) rfl dL_law_250 dL_law_251 dL_law_252 dL_law_253 dL_law_254 ?_
  refine g_callIv (na := 3) F 8 _ c1 (by decide) rfl rfl lk_L_27 rfl rfl (by decide +kernel) ⟨rfl, rfl, Nat.le_of_ble_eq_true rfl, Nat.le_of_ble_eq_true rfl, hce, hsl, Nat.le_of_ble_eq_true rfl⟩ dL_law_255 (fun r1 u1 h1 => ?_)
  obtain ⟨P2, c2, n2⟩ := n1 r1 u1 h1
  refine g_aload_n F 2 dL_law_258 rfl rfl ?_
  refine g_scr (k := 1) F C ei (by omega) rfl rfl (by decide) rfl dL_law_259 dL_law_260 dL_law_261 dL_law_262 dL_law_263 ?_
  refine g_scr (k := 2) F C ei (by omega) rfl rfl (by decide) rfl dL_law_264 dL_law_265 dL_law_266 dL_law_267 dL_law_268 ?_
  refine g_scr (k := 3) F C ei (by omega) rfl rfl (by decide) rfl dL_law_269 dL_law_270 dL_law_271 dL_law_272 dL_law_273 ?_
  refine g_callIv (na := 3) F 16 _ c2 (by decide) rfl rfl lk_L_31 rfl rfl (by decide +kernel) ⟨rfl, rfl, Nat.le_of_ble_eq_true rfl, Nat.le_of_ble_eq_true rfl, hce, hsl, Nat.le_of_ble_eq_true rfl⟩ dL_law_274 (fun r2 u2 h2 => ?_)
  obtain ⟨e12, S2⟩ := n2 r2 u2 h2
  exact g_icmp_eq F 799 dL_law_277 (by decide) (fun _ => kk _ _ S2) (fun q => absurd e12 q)
set_option maxHeartbeats 1000000 in
theorem la_frame (F : FX p s m args c cL_law 4 RL G A) (hj : Aj G) (S : SIM I pm) (C : SC s A b L xs) (ei : x = nI (5 * j)) (hk : 5 * j + 5 ≤ L) (hce : ce ≤ room_1.cells) (hsl : sl ≤ room_1.slots) (kk : ∀ I1 pm1, SIM I1 pm1 → GG p l e room_1 s m args below meth c G A 4 ce sl Q I1 pm1 [(0, .ref b), (1, .ref (G.2.2 8 0)), (2, .ref (G.2.2 16 0)), (3, .int x)] 799 []) : GG p l e room_1 s m args below meth c G A 4 ce sl Q I pm [(0, .ref b), (1, .ref (G.2.2 8 0)), (2, .ref (G.2.2 16 0)), (3, .int x)] 282 [] := by
  obtain ⟨P1, c1, n1⟩ := duo_frame (l := l) (G := G) hj S (a := xs (5 * j + 1)) (d := xs (5 * j + 2)) (t := xs (5 * j + 3))
  refine g_aload_n F 1 dL_law_282 rfl rfl ?_
  refine g_scr (k := 1) F C ei (by omega) rfl rfl (by decide) rfl dL_law_283 dL_law_284 dL_law_285 dL_law_286 dL_law_287 ?_
  refine g_scr (k := 2) F C ei (by omega) rfl rfl (by decide) rfl dL_law_288 dL_law_289 dL_law_290 dL_law_291 dL_law_292 ?_
  refine g_scr (k := 3) F C ei (by omega) rfl rfl (by decide) rfl dL_law_293 dL_law_294 dL_law_295 dL_law_296 dL_law_297 ?_
  refine g_callIv (na := 3) F 8 _ c1 (by decide) rfl rfl lk_L_32 rfl rfl (by decide +kernel) ⟨rfl, rfl, Nat.le_of_ble_eq_true rfl, Nat.le_of_ble_eq_true rfl, hce, hsl, Nat.le_of_ble_eq_true rfl⟩ dL_law_298 (fun r1 u1 h1 => ?_)
  obtain ⟨P2, c2, n2⟩ := n1 r1 u1 h1
  refine g_aload_n F 2 dL_law_301 rfl rfl ?_
  refine g_scr (k := 1) F C ei (by omega) rfl rfl (by decide) rfl dL_law_302 dL_law_303 dL_law_304 dL_law_305 dL_law_306 ?_
  refine g_scr (k := 2) F C ei (by omega) rfl rfl (by decide) rfl dL_law_307 dL_law_308 dL_law_309 dL_law_310 dL_law_311 ?_
  refine g_scr (k := 3) F C ei (by omega) rfl rfl (by decide) rfl dL_law_312 dL_law_313 dL_law_314 dL_law_315 dL_law_316 ?_
  refine g_callIv (na := 3) F 16 _ c2 (by decide) rfl rfl lk_L_35 rfl rfl (by decide +kernel) ⟨rfl, rfl, Nat.le_of_ble_eq_true rfl, Nat.le_of_ble_eq_true rfl, hce, hsl, Nat.le_of_ble_eq_true rfl⟩ dL_law_317 (fun r2 u2 h2 => ?_)
  obtain ⟨e12, S2⟩ := n2 r2 u2 h2
  exact g_icmp_eq F 799 dL_law_320 (by decide) (fun _ => kk _ _ S2) (fun q => absurd e12 q)
set_option maxHeartbeats 1000000 in
theorem la_shorts (F : FX p s m args c cL_law 4 RL G A) (hj : Aj G) (S : SIM I pm) (C : SC s A b L xs) (ei : x = nI (5 * j)) (hk : 5 * j + 5 ≤ L) (hce : ce ≤ room_1.cells) (hsl : sl ≤ room_1.slots) (kk : ∀ I1 pm1, SIM I1 pm1 → GG p l e room_1 s m args below meth c G A 4 ce sl Q I1 pm1 [(0, .ref b), (1, .ref (G.2.2 8 0)), (2, .ref (G.2.2 16 0)), (3, .int x)] 799 []) : GG p l e room_1 s m args below meth c G A 4 ce sl Q I pm [(0, .ref b), (1, .ref (G.2.2 8 0)), (2, .ref (G.2.2 16 0)), (3, .int x)] 325 [] := by
  obtain ⟨P1, c1, n1⟩ := duo_shorts (l := l) (G := G) hj S (b := xs (5 * j + 1)) (t := xs (5 * j + 2))
  refine g_aload_n F 1 dL_law_325 rfl rfl ?_
  refine g_scr (k := 1) F C ei (by omega) rfl rfl (by decide) rfl dL_law_326 dL_law_327 dL_law_328 dL_law_329 dL_law_330 ?_
  refine g_scr (k := 2) F C ei (by omega) rfl rfl (by decide) rfl dL_law_331 dL_law_332 dL_law_333 dL_law_334 dL_law_335 ?_
  refine g_callIv (na := 2) F 8 _ c1 (by decide) rfl rfl lk_L_36 rfl rfl (by decide +kernel) ⟨rfl, rfl, Nat.le_of_ble_eq_true rfl, Nat.le_of_ble_eq_true rfl, hce, hsl, Nat.le_of_ble_eq_true rfl⟩ dL_law_336 (fun r1 u1 h1 => ?_)
  obtain ⟨P2, c2, n2⟩ := n1 r1 u1 h1
  refine g_aload_n F 2 dL_law_339 rfl rfl ?_
  refine g_scr (k := 1) F C ei (by omega) rfl rfl (by decide) rfl dL_law_340 dL_law_341 dL_law_342 dL_law_343 dL_law_344 ?_
  refine g_scr (k := 2) F C ei (by omega) rfl rfl (by decide) rfl dL_law_345 dL_law_346 dL_law_347 dL_law_348 dL_law_349 ?_
  refine g_callIv (na := 2) F 16 _ c2 (by decide) rfl rfl lk_L_40 rfl rfl (by decide +kernel) ⟨rfl, rfl, Nat.le_of_ble_eq_true rfl, Nat.le_of_ble_eq_true rfl, hce, hsl, Nat.le_of_ble_eq_true rfl⟩ dL_law_350 (fun r2 u2 h2 => ?_)
  obtain ⟨e12, S2⟩ := n2 r2 u2 h2
  exact g_icmp_eq F 799 dL_law_353 (by decide) (fun _ => kk _ _ S2) (fun q => absurd e12 q)
set_option maxHeartbeats 1000000 in
theorem la_pass (F : FX p s m args c cL_law 4 RL G A) (hj : Aj G) (S : SIM I pm) (C : SC s A b L xs) (ei : x = nI (5 * j)) (hk : 5 * j + 5 ≤ L) (hce : ce ≤ room_1.cells) (hsl : sl ≤ room_1.slots) (kk : ∀ I1 pm1, SIM I1 pm1 → GG p l e room_1 s m args below meth c G A 4 ce sl Q I1 pm1 [(0, .ref b), (1, .ref (G.2.2 8 0)), (2, .ref (G.2.2 16 0)), (3, .int x)] 799 []) : GG p l e room_1 s m args below meth c G A 4 ce sl Q I pm [(0, .ref b), (1, .ref (G.2.2 8 0)), (2, .ref (G.2.2 16 0)), (3, .int x)] 358 [] := by
  obtain ⟨P1, c1, n1⟩ := duo_pass (l := l) (G := G) hj S (x := xs (5 * j + 1))
  refine g_aload_n F 1 dL_law_358 rfl rfl ?_
  refine g_scr (k := 1) F C ei (by omega) rfl rfl (by decide) rfl dL_law_359 dL_law_360 dL_law_361 dL_law_362 dL_law_363 ?_
  refine g_callIv (na := 1) F 8 _ c1 (by decide) rfl rfl lk_L_41 rfl rfl (by decide +kernel) ⟨rfl, rfl, Nat.le_of_ble_eq_true rfl, Nat.le_of_ble_eq_true rfl, hce, hsl, Nat.le_of_ble_eq_true rfl⟩ dL_law_364 (fun r1 u1 h1 => ?_)
  obtain ⟨P2, c2, n2⟩ := n1 r1 u1 h1
  refine g_aload_n F 2 dL_law_367 rfl rfl ?_
  refine g_scr (k := 1) F C ei (by omega) rfl rfl (by decide) rfl dL_law_368 dL_law_369 dL_law_370 dL_law_371 dL_law_372 ?_
  refine g_callIv (na := 1) F 16 _ c2 (by decide) rfl rfl lk_L_44 rfl rfl (by decide +kernel) ⟨rfl, rfl, Nat.le_of_ble_eq_true rfl, Nat.le_of_ble_eq_true rfl, hce, hsl, Nat.le_of_ble_eq_true rfl⟩ dL_law_373 (fun r2 u2 h2 => ?_)
  obtain ⟨e12, S2⟩ := n2 r2 u2 h2
  exact g_icmp_eq F 799 dL_law_376 (by decide) (fun _ => kk _ _ S2) (fun q => absurd e12 q)
set_option maxHeartbeats 1000000 in
theorem la_of (F : FX p s m args c cL_law 4 RL G A) (hj : Aj G) (S : SIM I pm) (C : SC s A b L xs) (ei : x = nI (5 * j)) (hk : 5 * j + 5 ≤ L) (hce : ce ≤ room_1.cells) (hsl : sl ≤ room_1.slots) (kk : ∀ I1 pm1, SIM I1 pm1 → GG p l e room_1 s m args below meth c G A 4 ce sl Q I1 pm1 [(0, .ref b), (1, .ref (G.2.2 8 0)), (2, .ref (G.2.2 16 0)), (3, .int x)] 799 []) : GG p l e room_1 s m args below meth c G A 4 ce sl Q I pm [(0, .ref b), (1, .ref (G.2.2 8 0)), (2, .ref (G.2.2 16 0)), (3, .int x)] 381 [] := by
  obtain ⟨P1, c1, n1⟩ := duo_of (l := l) (G := G) hj S (a := xs (5 * j + 1)) (w := xs (5 * j + 2))
  refine g_aload_n F 1 dL_law_381 rfl rfl ?_
  refine g_scr (k := 1) F C ei (by omega) rfl rfl (by decide) rfl dL_law_382 dL_law_383 dL_law_384 dL_law_385 dL_law_386 ?_
  refine g_scr (k := 2) F C ei (by omega) rfl rfl (by decide) rfl dL_law_387 dL_law_388 dL_law_389 dL_law_390 dL_law_391 ?_
  refine g_callIv (na := 2) F 8 _ c1 (by decide) rfl rfl lk_L_45 rfl rfl (by decide +kernel) ⟨rfl, rfl, Nat.le_of_ble_eq_true rfl, Nat.le_of_ble_eq_true rfl, hce, hsl, Nat.le_of_ble_eq_true rfl⟩ dL_law_392 (fun r1 u1 h1 => ?_)
  obtain ⟨P2, c2, n2⟩ := n1 r1 u1 h1
  refine g_aload_n F 2 dL_law_395 rfl rfl ?_
  refine g_scr (k := 1) F C ei (by omega) rfl rfl (by decide) rfl dL_law_396 dL_law_397 dL_law_398 dL_law_399 dL_law_400 ?_
  refine g_scr (k := 2) F C ei (by omega) rfl rfl (by decide) rfl dL_law_401 dL_law_402 dL_law_403 dL_law_404 dL_law_405 ?_
  refine g_callIv (na := 2) F 16 _ c2 (by decide) rfl rfl lk_L_48 rfl rfl (by decide +kernel) ⟨rfl, rfl, Nat.le_of_ble_eq_true rfl, Nat.le_of_ble_eq_true rfl, hce, hsl, Nat.le_of_ble_eq_true rfl⟩ dL_law_406 (fun r2 u2 h2 => ?_)
  obtain ⟨e12, S2⟩ := n2 r2 u2 h2
  exact g_icmp_eq F 799 dL_law_409 (by decide) (fun _ => kk _ _ S2) (fun q => absurd e12 q)
set_option maxHeartbeats 1000000 in
theorem la_address (F : FX p s m args c cL_law 4 RL G A) (hj : Aj G) (S : SIM I pm) (C : SC s A b L xs) (ei : x = nI (5 * j)) (hk : 5 * j + 5 ≤ L) (hce : ce ≤ room_1.cells) (hsl : sl ≤ room_1.slots) (kk : ∀ I1 pm1, SIM I1 pm1 → GG p l e room_1 s m args below meth c G A 4 ce sl Q I1 pm1 [(0, .ref b), (1, .ref (G.2.2 8 0)), (2, .ref (G.2.2 16 0)), (3, .int x)] 799 []) : GG p l e room_1 s m args below meth c G A 4 ce sl Q I pm [(0, .ref b), (1, .ref (G.2.2 8 0)), (2, .ref (G.2.2 16 0)), (3, .int x)] 414 [] := by
  obtain ⟨P1, c1, n1⟩ := duo_address (l := l) (G := G) hj S (x := xs (5 * j + 1))
  refine g_aload_n F 1 dL_law_414 rfl rfl ?_
  refine g_scr (k := 1) F C ei (by omega) rfl rfl (by decide) rfl dL_law_415 dL_law_416 dL_law_417 dL_law_418 dL_law_419 ?_
  refine g_callIv (na := 1) F 8 _ c1 (by decide) rfl rfl lk_L_49 rfl rfl (by decide +kernel) ⟨rfl, rfl, Nat.le_of_ble_eq_true rfl, Nat.le_of_ble_eq_true rfl, hce, hsl, Nat.le_of_ble_eq_true rfl⟩ dL_law_420 (fun r1 u1 h1 => ?_)
  obtain ⟨P2, c2, n2⟩ := n1 r1 u1 h1
  refine g_aload_n F 2 dL_law_423 rfl rfl ?_
  refine g_scr (k := 1) F C ei (by omega) rfl rfl (by decide) rfl dL_law_424 dL_law_425 dL_law_426 dL_law_427 dL_law_428 ?_
  refine g_callIv (na := 1) F 16 _ c2 (by decide) rfl rfl lk_L_52 rfl rfl (by decide +kernel) ⟨rfl, rfl, Nat.le_of_ble_eq_true rfl, Nat.le_of_ble_eq_true rfl, hce, hsl, Nat.le_of_ble_eq_true rfl⟩ dL_law_429 (fun r2 u2 h2 => ?_)
  obtain ⟨e12, S2⟩ := n2 r2 u2 h2
  exact g_icmp_eq F 799 dL_law_432 (by decide) (fun _ => kk _ _ S2) (fun q => absurd e12 q)
set_option maxHeartbeats 1000000 in
theorem la_waiting (F : FX p s m args c cL_law 4 RL G A) (hj : Aj G) (S : SIM I pm) (C : SC s A b L xs) (ei : x = nI (5 * j)) (hk : 5 * j + 5 ≤ L) (hce : ce ≤ room_1.cells) (hsl : sl ≤ room_1.slots) (kk : ∀ I1 pm1, SIM I1 pm1 → GG p l e room_1 s m args below meth c G A 4 ce sl Q I1 pm1 [(0, .ref b), (1, .ref (G.2.2 8 0)), (2, .ref (G.2.2 16 0)), (3, .int x)] 799 []) : GG p l e room_1 s m args below meth c G A 4 ce sl Q I pm [(0, .ref b), (1, .ref (G.2.2 8 0)), (2, .ref (G.2.2 16 0)), (3, .int x)] 437 [] := by
  obtain ⟨P1, c1, n1⟩ := duo_waiting (l := l) (G := G) hj S (x := xs (5 * j + 1)) (w := xs (5 * j + 2))
  refine g_aload_n F 1 dL_law_437 rfl rfl ?_
  refine g_scr (k := 1) F C ei (by omega) rfl rfl (by decide) rfl dL_law_438 dL_law_439 dL_law_440 dL_law_441 dL_law_442 ?_
  refine g_scr (k := 2) F C ei (by omega) rfl rfl (by decide) rfl dL_law_443 dL_law_444 dL_law_445 dL_law_446 dL_law_447 ?_
  refine g_callIv (na := 2) F 8 _ c1 (by decide) rfl rfl lk_L_53 rfl rfl (by decide +kernel) ⟨rfl, rfl, Nat.le_of_ble_eq_true rfl, Nat.le_of_ble_eq_true rfl, hce, hsl, Nat.le_of_ble_eq_true rfl⟩ dL_law_448 (fun r1 u1 h1 => ?_)
  obtain ⟨P2, c2, n2⟩ := n1 r1 u1 h1
  refine g_aload_n F 2 dL_law_451 rfl rfl ?_
  refine g_scr (k := 1) F C ei (by omega) rfl rfl (by decide) rfl dL_law_452 dL_law_453 dL_law_454 dL_law_455 dL_law_456 ?_
  refine g_scr (k := 2) F C ei (by omega) rfl rfl (by decide) rfl dL_law_457 dL_law_458 dL_law_459 dL_law_460 dL_law_461 ?_
  refine g_callIv (na := 2) F 16 _ c2 (by decide) rfl rfl lk_L_56 rfl rfl (by decide +kernel) ⟨rfl, rfl, Nat.le_of_ble_eq_true rfl, Nat.le_of_ble_eq_true rfl, hce, hsl, Nat.le_of_ble_eq_true rfl⟩ dL_law_462 (fun r2 u2 h2 => ?_)
  obtain ⟨e12, S2⟩ := n2 r2 u2 h2
  exact g_icmp_eq F 799 dL_law_465 (by decide) (fun _ => kk _ _ S2) (fun q => absurd e12 q)
set_option maxHeartbeats 1000000 in
theorem la_block (F : FX p s m args c cL_law 4 RL G A) (hj : Aj G) (S : SIM I pm) (C : SC s A b L xs) (ei : x = nI (5 * j)) (hk : 5 * j + 5 ≤ L) (hce : ce ≤ room_1.cells) (hsl : sl ≤ room_1.slots) (kk : ∀ I1 pm1, SIM I1 pm1 → GG p l e room_1 s m args below meth c G A 4 ce sl Q I1 pm1 [(0, .ref b), (1, .ref (G.2.2 8 0)), (2, .ref (G.2.2 16 0)), (3, .int x)] 799 []) : GG p l e room_1 s m args below meth c G A 4 ce sl Q I pm [(0, .ref b), (1, .ref (G.2.2 8 0)), (2, .ref (G.2.2 16 0)), (3, .int x)] 470 [] := by
  obtain ⟨P1, c1, n1⟩ := duo_block (l := l) (G := G) hj S (b := xs (5 * j + 1)) (w := xs (5 * j + 2))
  refine g_aload_n F 1 dL_law_470 rfl rfl ?_
  refine g_scr (k := 1) F C ei (by omega) rfl rfl (by decide) rfl dL_law_471 dL_law_472 dL_law_473 dL_law_474 dL_law_475 ?_
  refine g_scr (k := 2) F C ei (by omega) rfl rfl (by decide) rfl dL_law_476 dL_law_477 dL_law_478 dL_law_479 dL_law_480 ?_
  refine g_callIv (na := 2) F 8 _ c1 (by decide) rfl rfl lk_L_57 rfl rfl (by decide +kernel) ⟨rfl, rfl, Nat.le_of_ble_eq_true rfl, Nat.le_of_ble_eq_true rfl, hce, hsl, Nat.le_of_ble_eq_true rfl⟩ dL_law_481 (fun r1 u1 h1 => ?_)
  obtain ⟨P2, c2, n2⟩ := n1 r1 u1 h1
  refine g_aload_n F 2 dL_law_484 rfl rfl ?_
  refine g_scr (k := 1) F C ei (by omega) rfl rfl (by decide) rfl dL_law_485 dL_law_486 dL_law_487 dL_law_488 dL_law_489 ?_
  refine g_scr (k := 2) F C ei (by omega) rfl rfl (by decide) rfl dL_law_490 dL_law_491 dL_law_492 dL_law_493 dL_law_494 ?_
  refine g_callIv (na := 2) F 16 _ c2 (by decide) rfl rfl lk_L_60 rfl rfl (by decide +kernel) ⟨rfl, rfl, Nat.le_of_ble_eq_true rfl, Nat.le_of_ble_eq_true rfl, hce, hsl, Nat.le_of_ble_eq_true rfl⟩ dL_law_495 (fun r2 u2 h2 => ?_)
  obtain ⟨e12, S2⟩ := n2 r2 u2 h2
  exact g_icmp_eq F 799 dL_law_498 (by decide) (fun _ => kk _ _ S2) (fun q => absurd e12 q)
set_option maxHeartbeats 1000000 in
theorem la_count (F : FX p s m args c cL_law 4 RL G A) (hj : Aj G) (S : SIM I pm) (C : SC s A b L xs) (ei : x = nI (5 * j)) (hk : 5 * j + 5 ≤ L) (hce : ce ≤ room_1.cells) (hsl : sl ≤ room_1.slots) (kk : ∀ I1 pm1, SIM I1 pm1 → GG p l e room_1 s m args below meth c G A 4 ce sl Q I1 pm1 [(0, .ref b), (1, .ref (G.2.2 8 0)), (2, .ref (G.2.2 16 0)), (3, .int x)] 799 []) : GG p l e room_1 s m args below meth c G A 4 ce sl Q I pm [(0, .ref b), (1, .ref (G.2.2 8 0)), (2, .ref (G.2.2 16 0)), (3, .int x)] 503 [] := by
  obtain ⟨P1, c1, n1⟩ := duo_count (l := l) (G := G) hj S (w := xs (5 * j + 1))
  refine g_aload_n F 1 dL_law_503 rfl rfl ?_
  refine g_scr (k := 1) F C ei (by omega) rfl rfl (by decide) rfl dL_law_504 dL_law_505 dL_law_506 dL_law_507 dL_law_508 ?_
  refine g_callIv (na := 1) F 8 _ c1 (by decide) rfl rfl lk_L_61 rfl rfl (by decide +kernel) ⟨rfl, rfl, Nat.le_of_ble_eq_true rfl, Nat.le_of_ble_eq_true rfl, hce, hsl, Nat.le_of_ble_eq_true rfl⟩ dL_law_509 (fun r1 u1 h1 => ?_)
  obtain ⟨P2, c2, n2⟩ := n1 r1 u1 h1
  refine g_aload_n F 2 dL_law_512 rfl rfl ?_
  refine g_scr (k := 1) F C ei (by omega) rfl rfl (by decide) rfl dL_law_513 dL_law_514 dL_law_515 dL_law_516 dL_law_517 ?_
  refine g_callIv (na := 1) F 16 _ c2 (by decide) rfl rfl lk_L_64 rfl rfl (by decide +kernel) ⟨rfl, rfl, Nat.le_of_ble_eq_true rfl, Nat.le_of_ble_eq_true rfl, hce, hsl, Nat.le_of_ble_eq_true rfl⟩ dL_law_518 (fun r2 u2 h2 => ?_)
  obtain ⟨e12, S2⟩ := n2 r2 u2 h2
  exact g_icmp_eq F 799 dL_law_521 (by decide) (fun _ => kk _ _ S2) (fun q => absurd e12 q)
set_option maxHeartbeats 1000000 in
theorem la_reaches (F : FX p s m args c cL_law 4 RL G A) (hj : Aj G) (S : SIM I pm) (C : SC s A b L xs) (ei : x = nI (5 * j)) (hk : 5 * j + 5 ≤ L) (hce : ce ≤ room_1.cells) (hsl : sl ≤ room_1.slots) (kk : ∀ I1 pm1, SIM I1 pm1 → GG p l e room_1 s m args below meth c G A 4 ce sl Q I1 pm1 [(0, .ref b), (1, .ref (G.2.2 8 0)), (2, .ref (G.2.2 16 0)), (3, .int x)] 799 []) : GG p l e room_1 s m args below meth c G A 4 ce sl Q I pm [(0, .ref b), (1, .ref (G.2.2 8 0)), (2, .ref (G.2.2 16 0)), (3, .int x)] 526 [] := by
  obtain ⟨P1, c1, n1⟩ := duo_reaches (l := l) (G := G) hj S (a := xs (5 * j + 1)) (b := xs (5 * j + 2))
  refine g_aload_n F 1 dL_law_526 rfl rfl ?_
  refine g_scr (k := 1) F C ei (by omega) rfl rfl (by decide) rfl dL_law_527 dL_law_528 dL_law_529 dL_law_530 dL_law_531 ?_
  refine g_scr (k := 2) F C ei (by omega) rfl rfl (by decide) rfl dL_law_532 dL_law_533 dL_law_534 dL_law_535 dL_law_536 ?_
  refine g_callIv (na := 2) F 8 _ c1 (by decide) rfl rfl lk_L_65 rfl rfl (by decide +kernel) ⟨rfl, rfl, Nat.le_of_ble_eq_true rfl, Nat.le_of_ble_eq_true rfl, hce, hsl, Nat.le_of_ble_eq_true rfl⟩ dL_law_537 (fun r1 u1 h1 => ?_)
  obtain ⟨P2, c2, n2⟩ := n1 r1 u1 h1
  refine g_aload_n F 2 dL_law_540 rfl rfl ?_
  refine g_scr (k := 1) F C ei (by omega) rfl rfl (by decide) rfl dL_law_541 dL_law_542 dL_law_543 dL_law_544 dL_law_545 ?_
  refine g_scr (k := 2) F C ei (by omega) rfl rfl (by decide) rfl dL_law_546 dL_law_547 dL_law_548 dL_law_549 dL_law_550 ?_
  refine g_callIv (na := 2) F 16 _ c2 (by decide) rfl rfl lk_L_68 rfl rfl (by decide +kernel) ⟨rfl, rfl, Nat.le_of_ble_eq_true rfl, Nat.le_of_ble_eq_true rfl, hce, hsl, Nat.le_of_ble_eq_true rfl⟩ dL_law_551 (fun r2 u2 h2 => ?_)
  obtain ⟨e12, S2⟩ := n2 r2 u2 h2
  exact g_icmp_eq F 799 dL_law_554 (by decide) (fun _ => kk _ _ S2) (fun q => absurd e12 q)
set_option maxHeartbeats 1000000 in
theorem la_settles (F : FX p s m args c cL_law 4 RL G A) (hj : Aj G) (S : SIM I pm) (C : SC s A b L xs) (ei : x = nI (5 * j)) (hk : 5 * j + 5 ≤ L) (hce : ce ≤ room_1.cells) (hsl : sl ≤ room_1.slots) (kk : ∀ I1 pm1, SIM I1 pm1 → GG p l e room_1 s m args below meth c G A 4 ce sl Q I1 pm1 [(0, .ref b), (1, .ref (G.2.2 8 0)), (2, .ref (G.2.2 16 0)), (3, .int x)] 799 []) : GG p l e room_1 s m args below meth c G A 4 ce sl Q I pm [(0, .ref b), (1, .ref (G.2.2 8 0)), (2, .ref (G.2.2 16 0)), (3, .int x)] 559 [] := by
  obtain ⟨P1, c1, n1⟩ := duo_settles (l := l) (G := G) hj S (a := xs (5 * j + 1))
  refine g_aload_n F 1 dL_law_559 rfl rfl ?_
  refine g_scr (k := 1) F C ei (by omega) rfl rfl (by decide) rfl dL_law_560 dL_law_561 dL_law_562 dL_law_563 dL_law_564 ?_
  refine g_callIv (na := 1) F 8 _ c1 (by decide) rfl rfl lk_L_69 rfl rfl (by decide +kernel) ⟨rfl, rfl, Nat.le_of_ble_eq_true rfl, Nat.le_of_ble_eq_true rfl, hce, hsl, Nat.le_of_ble_eq_true rfl⟩ dL_law_565 (fun r1 u1 h1 => ?_)
  obtain ⟨P2, c2, n2⟩ := n1 r1 u1 h1
  refine g_aload_n F 2 dL_law_568 rfl rfl ?_
  refine g_scr (k := 1) F C ei (by omega) rfl rfl (by decide) rfl dL_law_569 dL_law_570 dL_law_571 dL_law_572 dL_law_573 ?_
  refine g_callIv (na := 1) F 16 _ c2 (by decide) rfl rfl lk_L_72 rfl rfl (by decide +kernel) ⟨rfl, rfl, Nat.le_of_ble_eq_true rfl, Nat.le_of_ble_eq_true rfl, hce, hsl, Nat.le_of_ble_eq_true rfl⟩ dL_law_574 (fun r2 u2 h2 => ?_)
  obtain ⟨e12, S2⟩ := n2 r2 u2 h2
  exact g_icmp_eq F 799 dL_law_577 (by decide) (fun _ => kk _ _ S2) (fun q => absurd e12 q)
set_option maxHeartbeats 1000000 in
theorem la_meets (F : FX p s m args c cL_law 4 RL G A) (hj : Aj G) (S : SIM I pm) (C : SC s A b L xs) (ei : x = nI (5 * j)) (hk : 5 * j + 5 ≤ L) (hce : ce ≤ room_1.cells) (hsl : sl ≤ room_1.slots) (kk : ∀ I1 pm1, SIM I1 pm1 → GG p l e room_1 s m args below meth c G A 4 ce sl Q I1 pm1 [(0, .ref b), (1, .ref (G.2.2 8 0)), (2, .ref (G.2.2 16 0)), (3, .int x)] 799 []) : GG p l e room_1 s m args below meth c G A 4 ce sl Q I pm [(0, .ref b), (1, .ref (G.2.2 8 0)), (2, .ref (G.2.2 16 0)), (3, .int x)] 582 [] := by
  obtain ⟨P1, c1, n1⟩ := duo_meets (l := l) (G := G) hj S (a := xs (5 * j + 1)) (b := xs (5 * j + 2))
  refine g_aload_n F 1 dL_law_582 rfl rfl ?_
  refine g_scr (k := 1) F C ei (by omega) rfl rfl (by decide) rfl dL_law_583 dL_law_584 dL_law_585 dL_law_586 dL_law_587 ?_
  refine g_scr (k := 2) F C ei (by omega) rfl rfl (by decide) rfl dL_law_588 dL_law_589 dL_law_590 dL_law_591 dL_law_592 ?_
  refine g_callIv (na := 2) F 8 _ c1 (by decide) rfl rfl lk_L_73 rfl rfl (by decide +kernel) ⟨rfl, rfl, Nat.le_of_ble_eq_true rfl, Nat.le_of_ble_eq_true rfl, hce, hsl, Nat.le_of_ble_eq_true rfl⟩ dL_law_593 (fun r1 u1 h1 => ?_)
  obtain ⟨P2, c2, n2⟩ := n1 r1 u1 h1
  refine g_aload_n F 2 dL_law_596 rfl rfl ?_
  refine g_scr (k := 1) F C ei (by omega) rfl rfl (by decide) rfl dL_law_597 dL_law_598 dL_law_599 dL_law_600 dL_law_601 ?_
  refine g_scr (k := 2) F C ei (by omega) rfl rfl (by decide) rfl dL_law_602 dL_law_603 dL_law_604 dL_law_605 dL_law_606 ?_
  refine g_callIv (na := 2) F 16 _ c2 (by decide) rfl rfl lk_L_76 rfl rfl (by decide +kernel) ⟨rfl, rfl, Nat.le_of_ble_eq_true rfl, Nat.le_of_ble_eq_true rfl, hce, hsl, Nat.le_of_ble_eq_true rfl⟩ dL_law_607 (fun r2 u2 h2 => ?_)
  obtain ⟨e12, S2⟩ := n2 r2 u2 h2
  exact g_icmp_eq F 799 dL_law_610 (by decide) (fun _ => kk _ _ S2) (fun q => absurd e12 q)
set_option maxHeartbeats 1000000 in
theorem la_stepFor (F : FX p s m args c cL_law 4 RL G A) (hj : Aj G) (S : SIM I pm) (C : SC s A b L xs) (ei : x = nI (5 * j)) (hk : 5 * j + 5 ≤ L) (hce : ce ≤ room_1.cells) (hsl : sl ≤ room_1.slots) (kk : ∀ I1 pm1, SIM I1 pm1 → GG p l e room_1 s m args below meth c G A 4 ce sl Q I1 pm1 [(0, .ref b), (1, .ref (G.2.2 8 0)), (2, .ref (G.2.2 16 0)), (3, .int x)] 799 []) : GG p l e room_1 s m args below meth c G A 4 ce sl Q I pm [(0, .ref b), (1, .ref (G.2.2 8 0)), (2, .ref (G.2.2 16 0)), (3, .int x)] 615 [] := by
  obtain ⟨P1, c1, n1⟩ := duo_stepFor (l := l) (G := G) hj S (a := xs (5 * j + 1)) (t := xs (5 * j + 2))
  refine g_aload_n F 1 dL_law_615 rfl rfl ?_
  refine g_scr (k := 1) F C ei (by omega) rfl rfl (by decide) rfl dL_law_616 dL_law_617 dL_law_618 dL_law_619 dL_law_620 ?_
  refine g_scr (k := 2) F C ei (by omega) rfl rfl (by decide) rfl dL_law_621 dL_law_622 dL_law_623 dL_law_624 dL_law_625 ?_
  refine g_callIv (na := 2) F 8 _ c1 (by decide) rfl rfl lk_L_77 rfl rfl (by decide +kernel) ⟨rfl, rfl, Nat.le_of_ble_eq_true rfl, Nat.le_of_ble_eq_true rfl, hce, hsl, Nat.le_of_ble_eq_true rfl⟩ dL_law_626 (fun r1 u1 h1 => ?_)
  obtain ⟨P2, c2, n2⟩ := n1 r1 u1 h1
  refine g_aload_n F 2 dL_law_629 rfl rfl ?_
  refine g_scr (k := 1) F C ei (by omega) rfl rfl (by decide) rfl dL_law_630 dL_law_631 dL_law_632 dL_law_633 dL_law_634 ?_
  refine g_scr (k := 2) F C ei (by omega) rfl rfl (by decide) rfl dL_law_635 dL_law_636 dL_law_637 dL_law_638 dL_law_639 ?_
  refine g_callIv (na := 2) F 16 _ c2 (by decide) rfl rfl lk_L_80 rfl rfl (by decide +kernel) ⟨rfl, rfl, Nat.le_of_ble_eq_true rfl, Nat.le_of_ble_eq_true rfl, hce, hsl, Nat.le_of_ble_eq_true rfl⟩ dL_law_640 (fun r2 u2 h2 => ?_)
  obtain ⟨e12, S2⟩ := n2 r2 u2 h2
  exact g_icmp_eq F 799 dL_law_643 (by decide) (fun _ => kk _ _ S2) (fun q => absurd e12 q)
set_option maxHeartbeats 1000000 in
theorem la_put (F : FX p s m args c cL_law 4 RL G A) (hj : Aj G) (S : SIM I pm) (C : SC s A b L xs) (ei : x = nI (5 * j)) (hk : 5 * j + 5 ≤ L) (hce : ce ≤ room_1.cells) (hsl : sl ≤ room_1.slots) (kk : ∀ I1 pm1, SIM I1 pm1 → GG p l e room_1 s m args below meth c G A 4 ce sl Q I1 pm1 [(0, .ref b), (1, .ref (G.2.2 8 0)), (2, .ref (G.2.2 16 0)), (3, .int x)] 799 []) : GG p l e room_1 s m args below meth c G A 4 ce sl Q I pm [(0, .ref b), (1, .ref (G.2.2 8 0)), (2, .ref (G.2.2 16 0)), (3, .int x)] 648 [] := by
  obtain ⟨P1, c1, n1⟩ := duo_put (l := l) (G := G) hj S (x := ((xs (5 * j + 1)).toInt64 <<< ((32 : Int32).toInt64 &&& 63)) ||| ((xs (5 * j + 2)).toInt64 &&& 4294967295))
  refine g_aload_n F 1 dL_law_648 rfl rfl ?_
  refine g_scr (k := 1) F C ei (by omega) rfl rfl (by decide) rfl dL_law_649 dL_law_650 dL_law_651 dL_law_652 dL_law_653 ?_
  refine g_i2l F dL_law_654 ?_
  refine g_bipush (v := 32) F dL_law_655 (by decide) ?_
  refine g_lshl F dL_law_657 ?_
  refine g_scr (k := 2) F C ei (by omega) rfl rfl (by decide) rfl dL_law_658 dL_law_659 dL_law_660 dL_law_661 dL_law_662 ?_
  refine g_i2l F dL_law_663 ?_
  refine g_ldc2 F mCN_L_81 dL_law_664 ?_
  refine g_land F dL_law_667 ?_
  refine g_lor F dL_law_668 ?_
  refine g_callIv (na := 1) F 8 _ c1 (by decide) rfl rfl lk_L_83 rfl rfl (by decide +kernel) ⟨rfl, rfl, Nat.le_of_ble_eq_true rfl, Nat.le_of_ble_eq_true rfl, hce, hsl, Nat.le_of_ble_eq_true rfl⟩ dL_law_669 (fun r1 u1 h1 => ?_)
  obtain ⟨P2, c2, n2⟩ := n1 r1 u1 h1
  refine g_aload_n F 2 dL_law_672 rfl rfl ?_
  refine g_scr (k := 1) F C ei (by omega) rfl rfl (by decide) rfl dL_law_673 dL_law_674 dL_law_675 dL_law_676 dL_law_677 ?_
  refine g_i2l F dL_law_678 ?_
  refine g_bipush (v := 32) F dL_law_679 (by decide) ?_
  refine g_lshl F dL_law_681 ?_
  refine g_scr (k := 2) F C ei (by omega) rfl rfl (by decide) rfl dL_law_682 dL_law_683 dL_law_684 dL_law_685 dL_law_686 ?_
  refine g_i2l F dL_law_687 ?_
  refine g_ldc2 F mCN_L_81 dL_law_688 ?_
  refine g_land F dL_law_691 ?_
  refine g_lor F dL_law_692 ?_
  refine g_callIv (na := 1) F 16 _ c2 (by decide) rfl rfl lk_L_87 rfl rfl (by decide +kernel) ⟨rfl, rfl, Nat.le_of_ble_eq_true rfl, Nat.le_of_ble_eq_true rfl, hce, hsl, Nat.le_of_ble_eq_true rfl⟩ dL_law_693 (fun r2 u2 h2 => ?_)
  obtain ⟨e12, S2⟩ := n2 r2 u2 h2
  exact g_icmp_eq F 799 dL_law_696 (by decide) (fun _ => kk _ _ S2) (fun q => absurd e12 q)
set_option maxHeartbeats 1000000 in
theorem la_wipe (F : FX p s m args c cL_law 4 RL G A) (hj : Aj G) (S : SIM I pm) (C : SC s A b L xs) (ei : x = nI (5 * j)) (hk : 5 * j + 5 ≤ L) (hce : ce ≤ room_1.cells) (hsl : sl ≤ room_1.slots) (kk : ∀ I1 pm1, SIM I1 pm1 → GG p l e room_1 s m args below meth c G A 4 ce sl Q I1 pm1 [(0, .ref b), (1, .ref (G.2.2 8 0)), (2, .ref (G.2.2 16 0)), (3, .int x)] 799 []) : GG p l e room_1 s m args below meth c G A 4 ce sl Q I pm [(0, .ref b), (1, .ref (G.2.2 8 0)), (2, .ref (G.2.2 16 0)), (3, .int x)] 701 [] := by
  obtain ⟨P1, c1, n1⟩ := duo_wipe (l := l) (G := G) hj S
  refine g_aload_n F 1 dL_law_701 rfl rfl ?_
  refine g_callIv (na := 0) F 8 _ c1 (by decide) rfl rfl lk_L_88 rfl rfl (by decide +kernel) ⟨rfl, rfl, Nat.le_of_ble_eq_true rfl, Nat.le_of_ble_eq_true rfl, hce, hsl, Nat.le_of_ble_eq_true rfl⟩ dL_law_702 (fun r1 u1 h1 => ?_)
  obtain ⟨P2, c2, n2⟩ := n1 r1 u1 h1
  refine g_aload_n F 2 dL_law_705 rfl rfl ?_
  refine g_callIv (na := 0) F 16 _ c2 (by decide) rfl rfl lk_L_92 rfl rfl (by decide +kernel) ⟨rfl, rfl, Nat.le_of_ble_eq_true rfl, Nat.le_of_ble_eq_true rfl, hce, hsl, Nat.le_of_ble_eq_true rfl⟩ dL_law_706 (fun r2 u2 h2 => ?_)
  obtain ⟨e12, S2⟩ := n2 r2 u2 h2
  exact g_icmp_eq F 799 dL_law_709 (by decide) (fun _ => kk _ _ S2) (fun q => absurd e12 q)
set_option maxHeartbeats 1000000 in
theorem la_fault (F : FX p s m args c cL_law 4 RL G A) (hj : Aj G) (S : SIM I pm) (C : SC s A b L xs) (ei : x = nI (5 * j)) (hk : 5 * j + 5 ≤ L) (hce : ce ≤ room_1.cells) (hsl : sl ≤ room_1.slots) (kk : ∀ I1 pm1, SIM I1 pm1 → GG p l e room_1 s m args below meth c G A 4 ce sl Q I1 pm1 [(0, .ref b), (1, .ref (G.2.2 8 0)), (2, .ref (G.2.2 16 0)), (3, .int x)] 799 []) : GG p l e room_1 s m args below meth c G A 4 ce sl Q I pm [(0, .ref b), (1, .ref (G.2.2 8 0)), (2, .ref (G.2.2 16 0)), (3, .int x)] 714 [] := by
  obtain ⟨P1, c1, n1⟩ := duo_fault (l := l) (G := G) hj S
  refine g_aload_n F 1 dL_law_714 rfl rfl ?_
  refine g_callIv (na := 0) F 8 _ c1 (by decide) rfl rfl lk_L_93 rfl rfl (by decide +kernel) ⟨rfl, rfl, Nat.le_of_ble_eq_true rfl, Nat.le_of_ble_eq_true rfl, hce, hsl, Nat.le_of_ble_eq_true rfl⟩ dL_law_715 (fun r1 u1 h1 => ?_)
  obtain ⟨P2, c2, n2⟩ := n1 r1 u1 h1
  refine g_aload_n F 2 dL_law_718 rfl rfl ?_
  refine g_callIv (na := 0) F 16 _ c2 (by decide) rfl rfl lk_L_96 rfl rfl (by decide +kernel) ⟨rfl, rfl, Nat.le_of_ble_eq_true rfl, Nat.le_of_ble_eq_true rfl, hce, hsl, Nat.le_of_ble_eq_true rfl⟩ dL_law_719 (fun r2 u2 h2 => ?_)
  obtain ⟨e12, S2⟩ := n2 r2 u2 h2
  exact g_icmp_eq F 799 dL_law_722 (by decide) (fun _ => kk _ _ S2) (fun q => absurd e12 q)
set_option maxHeartbeats 1000000 in
theorem la_carryOut (F : FX p s m args c cL_law 4 RL G A) (hj : Aj G) (S : SIM I pm) (C : SC s A b L xs) (ei : x = nI (5 * j)) (hk : 5 * j + 5 ≤ L) (hce : ce ≤ room_1.cells) (hsl : sl ≤ room_1.slots) (kk : ∀ I1 pm1, SIM I1 pm1 → GG p l e room_1 s m args below meth c G A 4 ce sl Q I1 pm1 [(0, .ref b), (1, .ref (G.2.2 8 0)), (2, .ref (G.2.2 16 0)), (3, .int x)] 799 []) : GG p l e room_1 s m args below meth c G A 4 ce sl Q I pm [(0, .ref b), (1, .ref (G.2.2 8 0)), (2, .ref (G.2.2 16 0)), (3, .int x)] 727 [] := by
  obtain ⟨P1, c1, n1⟩ := duo_carryOut (l := l) (G := G) hj S
  refine g_aload_n F 1 dL_law_727 rfl rfl ?_
  refine g_callIv (na := 0) F 8 _ c1 (by decide) rfl rfl lk_L_97 rfl rfl (by decide +kernel) ⟨rfl, rfl, Nat.le_of_ble_eq_true rfl, Nat.le_of_ble_eq_true rfl, hce, hsl, Nat.le_of_ble_eq_true rfl⟩ dL_law_728 (fun r1 u1 h1 => ?_)
  obtain ⟨P2, c2, n2⟩ := n1 r1 u1 h1
  refine g_aload_n F 2 dL_law_731 rfl rfl ?_
  refine g_callIv (na := 0) F 16 _ c2 (by decide) rfl rfl lk_L_100 rfl rfl (by decide +kernel) ⟨rfl, rfl, Nat.le_of_ble_eq_true rfl, Nat.le_of_ble_eq_true rfl, hce, hsl, Nat.le_of_ble_eq_true rfl⟩ dL_law_732 (fun r2 u2 h2 => ?_)
  obtain ⟨e12, S2⟩ := n2 r2 u2 h2
  exact g_icmp_eq F 799 dL_law_735 (by decide) (fun _ => kk _ _ S2) (fun q => absurd e12 q)
set_option maxHeartbeats 1000000 in
theorem la_undo (F : FX p s m args c cL_law 4 RL G A) (hj : Aj G) (S : SIM I pm) (C : SC s A b L xs) (ei : x = nI (5 * j)) (hk : 5 * j + 5 ≤ L) (hce : ce ≤ room_1.cells) (hsl : sl ≤ room_1.slots) (kk : ∀ I1 pm1, SIM I1 pm1 → GG p l e room_1 s m args below meth c G A 4 ce sl Q I1 pm1 [(0, .ref b), (1, .ref (G.2.2 8 0)), (2, .ref (G.2.2 16 0)), (3, .int x)] 799 []) : GG p l e room_1 s m args below meth c G A 4 ce sl Q I pm [(0, .ref b), (1, .ref (G.2.2 8 0)), (2, .ref (G.2.2 16 0)), (3, .int x)] 740 [] := by
  obtain ⟨P1, c1, n1⟩ := duo_undo (l := l) (G := G) hj S
  refine g_aload_n F 1 dL_law_740 rfl rfl ?_
  refine g_callIv (na := 0) F 8 _ c1 (by decide) rfl rfl lk_L_101 rfl rfl (by decide +kernel) ⟨rfl, rfl, Nat.le_of_ble_eq_true rfl, Nat.le_of_ble_eq_true rfl, hce, hsl, Nat.le_of_ble_eq_true rfl⟩ dL_law_741 (fun r1 u1 h1 => ?_)
  obtain ⟨P2, c2, n2⟩ := n1 r1 u1 h1
  refine g_aload_n F 2 dL_law_744 rfl rfl ?_
  refine g_callIv (na := 0) F 16 _ c2 (by decide) rfl rfl lk_L_104 rfl rfl (by decide +kernel) ⟨rfl, rfl, Nat.le_of_ble_eq_true rfl, Nat.le_of_ble_eq_true rfl, hce, hsl, Nat.le_of_ble_eq_true rfl⟩ dL_law_745 (fun r2 u2 h2 => ?_)
  obtain ⟨e12, S2⟩ := n2 r2 u2 h2
  exact g_icmp_eq F 799 dL_law_748 (by decide) (fun _ => kk _ _ S2) (fun q => absurd e12 q)
set_option maxHeartbeats 1000000 in
theorem la_save (F : FX p s m args c cL_law 4 RL G A) (hj : Aj G) (S : SIM I pm) (C : SC s A b L xs) (ei : x = nI (5 * j)) (hk : 5 * j + 5 ≤ L) (hce : ce ≤ room_1.cells) (hsl : sl ≤ room_1.slots) (kk : ∀ I1 pm1, SIM I1 pm1 → GG p l e room_1 s m args below meth c G A 4 ce sl Q I1 pm1 [(0, .ref b), (1, .ref (G.2.2 8 0)), (2, .ref (G.2.2 16 0)), (3, .int x)] 799 []) : GG p l e room_1 s m args below meth c G A 4 ce sl Q I pm [(0, .ref b), (1, .ref (G.2.2 8 0)), (2, .ref (G.2.2 16 0)), (3, .int x)] 753 [] := by
  obtain ⟨P1, c1, n1⟩ := duo_save (l := l) (G := G) hj S (x := xs (5 * j + 1))
  refine g_aload_n F 1 dL_law_753 rfl rfl ?_
  refine g_scr (k := 1) F C ei (by omega) rfl rfl (by decide) rfl dL_law_754 dL_law_755 dL_law_756 dL_law_757 dL_law_758 ?_
  refine g_callIv (na := 1) F 8 _ c1 (by decide) rfl rfl lk_L_105 rfl rfl (by decide +kernel) ⟨rfl, rfl, Nat.le_of_ble_eq_true rfl, Nat.le_of_ble_eq_true rfl, hce, hsl, Nat.le_of_ble_eq_true rfl⟩ dL_law_759 (fun r1 u1 h1 => ?_)
  obtain ⟨P2, c2, n2⟩ := n1 r1 u1 h1
  refine g_aload_n F 2 dL_law_762 rfl rfl ?_
  refine g_scr (k := 1) F C ei (by omega) rfl rfl (by decide) rfl dL_law_763 dL_law_764 dL_law_765 dL_law_766 dL_law_767 ?_
  refine g_callIv (na := 1) F 16 _ c2 (by decide) rfl rfl lk_L_108 rfl rfl (by decide +kernel) ⟨rfl, rfl, Nat.le_of_ble_eq_true rfl, Nat.le_of_ble_eq_true rfl, hce, hsl, Nat.le_of_ble_eq_true rfl⟩ dL_law_768 (fun r2 u2 h2 => ?_)
  obtain ⟨e12, S2⟩ := n2 r2 u2 h2
  exact g_icmp_eq F 799 dL_law_771 (by decide) (fun _ => kk _ _ S2) (fun q => absurd e12 q)
set_option maxHeartbeats 1000000 in
theorem la_restore (F : FX p s m args c cL_law 4 RL G A) (hj : Aj G) (S : SIM I pm) (C : SC s A b L xs) (ei : x = nI (5 * j)) (hk : 5 * j + 5 ≤ L) (hce : ce ≤ room_1.cells) (hsl : sl ≤ room_1.slots) (kk : ∀ I1 pm1, SIM I1 pm1 → GG p l e room_1 s m args below meth c G A 4 ce sl Q I1 pm1 [(0, .ref b), (1, .ref (G.2.2 8 0)), (2, .ref (G.2.2 16 0)), (3, .int x)] 799 []) : GG p l e room_1 s m args below meth c G A 4 ce sl Q I pm [(0, .ref b), (1, .ref (G.2.2 8 0)), (2, .ref (G.2.2 16 0)), (3, .int x)] 776 [] := by
  obtain ⟨P1, c1, n1⟩ := duo_restore (l := l) (G := G) hj S (x := xs (5 * j + 1))
  refine g_aload_n F 1 dL_law_776 rfl rfl ?_
  refine g_scr (k := 1) F C ei (by omega) rfl rfl (by decide) rfl dL_law_777 dL_law_778 dL_law_779 dL_law_780 dL_law_781 ?_
  refine g_callIv (na := 1) F 8 _ c1 (by decide) rfl rfl lk_L_109 rfl rfl (by decide +kernel) ⟨rfl, rfl, Nat.le_of_ble_eq_true rfl, Nat.le_of_ble_eq_true rfl, hce, hsl, Nat.le_of_ble_eq_true rfl⟩ dL_law_782 (fun r1 u1 h1 => ?_)
  obtain ⟨P2, c2, n2⟩ := n1 r1 u1 h1
  refine g_aload_n F 2 dL_law_785 rfl rfl ?_
  refine g_scr (k := 1) F C ei (by omega) rfl rfl (by decide) rfl dL_law_786 dL_law_787 dL_law_788 dL_law_789 dL_law_790 ?_
  refine g_callIv (na := 1) F 16 _ c2 (by decide) rfl rfl lk_L_112 rfl rfl (by decide +kernel) ⟨rfl, rfl, Nat.le_of_ble_eq_true rfl, Nat.le_of_ble_eq_true rfl, hce, hsl, Nat.le_of_ble_eq_true rfl⟩ dL_law_791 (fun r2 u2 h2 => ?_)
  obtain ⟨e12, S2⟩ := n2 r2 u2 h2
  exact g_icmp_eq F 799 dL_law_794 (by decide) (fun _ => kk _ _ S2) (fun q => absurd e12 q)
end LCASE
