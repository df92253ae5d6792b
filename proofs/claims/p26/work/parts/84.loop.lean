/-! PART 84: the law -/
set_option maxHeartbeats 8000000 in
set_option maxRecDepth 100000 in
theorem law_loop {p : Program} {l : Launch} {e : Env} {s : State} {m : MethodId} {below : List Frame} {meth : Method} {c : Code} {G : Gm} {A : Nat → Prop} {b N : Nat} {xs : Nat → Int32} (F : FX p s m #[Value.ref b] c cL_law 14 RL G A) (hj : Aj G) (SC0 : SC s A b N xs) (hA : ∀ q, A q → s.heap.size ≤ q) (hr : meth.sig.returnType = ret) (hlocks : meth.locks = false) : ∀ j, j ≤ 40 → ∀ xj, xj = nI j → ∀ (I : Ii) (pm : Pm) (y : Int64) (σ : Sg) (hn : Nat) (hist : Nat → Sg) (sv : Nat → Int32) (sl : Nat → Sg) (pl : Nat) (pad : Sg), CR I pm σ hn hist sv sl pl pad → sv 0 = 1 → sv 1 = 0 → Jv (100 * j) σ → Jv (100 * j) (sl 0) → y = tolS (sl 0) → GG p l e room_1 s m #[Value.ref b] below meth c G A 14 173 2067 (lw_Z below #[Value.ref b] s) I pm [(0, .ref b), (1, .ref (G.2.2 8 0)), (2, .long y), (4, .int xj)] 45 [] := by
  refine dn_ind ?_
  intro j hjl ih xj ej I pm y σ hn hist sv sl pl pad C1 h0 h1 J J0 ey
  have n0 : (0 : Int32).toInt.toNat = 0 := rfl
  have K299 : j < 40 → ∀ (v : Int32) (I2 : Ii) (pm2 : Pm) (σ2 : Sg) (hn2 : Nat) (hist2 : Nat → Sg), CR I2 pm2 σ2 hn2 hist2 sv sl pl pad → Jv (100 * j + 100) σ2 → ∀ yh : Int64, yh = tolS σ2 → GG p l e room_1 s m #[Value.ref b] below meth c G A 14 173 2067 (lw_Z below #[Value.ref b] s) I2 pm2 [(0, .ref b), (1, .ref (G.2.2 8 0)), (2, .long y), (4, .int xj), (5, .int v), (11, .long yh)] 299 [] := by
    intro hj4 v I2 pm2 σ2 hn2 hist2 C2 J2 yh eh
    refine g_iload F 4 dL_law_299 rfl ?_
    refine g_bipush (v := 9) F dL_law_301 (by decide) ?_
    refine g_ishr F dL_law_303 ?_
    refine g_bipush (v := 7) F dL_law_304 (by decide) ?_
    refine g_iand F dL_law_306 ?_
    refine g_if_ne F 319 dL_law_307 (by decide) (fun c_307 => ?_) (fun c_307 => ?_)
    · refine g_iincC (q := 1) (L' := [(4, _), (0, _), (1, _), (2, _), (5, _), (11, _)]) F 3 dL_law_319 (by decide) rfl (by decide) rfl ?_
      refine g_goto F 45 dL_law_322 (by decide) ?_
      refine g_sub [1, 2, 3, 0] rfl ?_
      first
      | exact ih hj4 _ (nx_add ej rfl) _ _ _ _ _ _ _ _ _ _ C2 h0 h1 J2 (J0.up (by omega)) ey
      | exact ih hj4 _ (nx_add ej rfl) _ _ _ _ _ _ _ _ _ _ C3 (if_pos rfl) h1 J2 J2 eh
    · refine g_aload_n F 1 dL_law_310 rfl rfl ?_
      refine g_iconst (v := 0) F dL_law_311 (by decide) ?_
      refine g_callIv (na := 1) F 8 _ (c_X5_save hj C2) (by decide) rfl rfl lk_L_73 rfl rfl (by decide +kernel) ⟨rfl, rfl, Nat.le_of_ble_eq_true rfl, Nat.le_of_ble_eq_true rfl, Nat.le_of_ble_eq_true rfl, Nat.le_of_ble_eq_true rfl, Nat.le_of_ble_eq_true rfl⟩ dL_law_312 (fun r_312 u_312 h_312 => ?_)
      rcases h_312 with ⟨z, -⟩ | ⟨-, -, C3, -⟩
      · exact absurd (by decide) z
      rw [n0] at C3
      refine g_pop F dL_law_315 rfl ?_
      refine g_lload F 5 dL_law_316 rfl ?_
      refine g_lstore_n (L' := [(2, _), (0, _), (1, _), (4, _), (5, _), (11, _)]) F dL_law_318 rfl (by decide) rfl ?_
      refine g_iincC (q := 1) (L' := [(4, _), (2, _), (0, _), (1, _), (5, _), (11, _)]) F 3 dL_law_319 (by decide) rfl (by decide) rfl ?_
      refine g_goto F 45 dL_law_322 (by decide) ?_
      refine g_sub [2, 3, 1, 0] rfl ?_
      first
      | exact ih hj4 _ (nx_add ej rfl) _ _ _ _ _ _ _ _ _ _ C2 h0 h1 J2 (J0.up (by omega)) ey
      | exact ih hj4 _ (nx_add ej rfl) _ _ _ _ _ _ _ _ _ _ C3 (if_pos rfl) h1 J2 J2 eh
  have K251 : j < 40 → ∀ (v w : Int32) (I2 : Ii) (pm2 : Pm) (σ2 : Sg) (hn2 : Nat) (hist2 : Nat → Sg), CR I2 pm2 σ2 hn2 hist2 sv sl pl pad → Jv (100 * j + 100) σ2 → ∀ yh : Int64, yh = tolS σ2 → GG p l e room_1 s m #[Value.ref b] below meth c G A 14 173 2067 (lw_Z below #[Value.ref b] s) I2 pm2 [(0, .ref b), (1, .ref (G.2.2 8 0)), (2, .long y), (4, .int xj), (5, .int v), (6, .int w), (11, .long yh)] 251 [] := by
    intro hj4 v w I2 pm2 σ2 hn2 hist2 C2 J2 yh eh
    have e6 : σ2 6 = nI (nof σ2) := J2.1.1
    have h8 : nof σ2 ≤ 8 := J2.1.2.1
    refine g_aload_n F 1 dL_law_251 rfl rfl ?_
    refine g_callIs (na := 1) F (c_L_holds hj C2 J2) lk_L_88 rfl rfl (by decide +kernel) ⟨rfl, rfl, Nat.le_of_ble_eq_true rfl, Nat.le_of_ble_eq_true rfl, Nat.le_of_ble_eq_true rfl, Nat.le_of_ble_eq_true rfl, Nat.le_of_ble_eq_true rfl⟩ dL_law_252 (fun r_252 u_252 h_252 => ?_)
    obtain ⟨rfl, C3⟩ := h_252
    refine g_if_eq F 297 dL_law_255 (by decide) (fun c_255 => ?_) (fun c_255 => ?_)
    · exact absurd c_255 (by decide)
    · refine g_aload_n F 1 dL_law_258 rfl rfl ?_
      refine g_iconst (v := 1) F dL_law_259 (by decide) ?_
      refine g_callIv (na := 1) F 8 _ (c_X5_count hj C3) (by decide) rfl rfl lk_L_12 rfl rfl (by decide +kernel) ⟨rfl, rfl, Nat.le_of_ble_eq_true rfl, Nat.le_of_ble_eq_true rfl, Nat.le_of_ble_eq_true rfl, Nat.le_of_ble_eq_true rfl, Nat.le_of_ble_eq_true rfl⟩ dL_law_260 (fun r_260 u_260 h_260 => ?_)
      obtain ⟨rfl, rfl⟩ := h_260
      try dsimp only
      rw [cnt_1]
      refine g_if_le F 287 dL_law_263 (by decide) (fun c_263 => ?_) (fun c_263 => ?_)
      · 
        refine g_aload_n F 1 dL_law_287 rfl rfl ?_
        refine g_callLs (na := 1) F (by first | exact c_L_told hj C4 | exact c_L_told hj C3) lk_L_76 rfl rfl (by decide +kernel) ⟨rfl, rfl, Nat.le_of_ble_eq_true rfl, Nat.le_of_ble_eq_true rfl, Nat.le_of_ble_eq_true rfl, Nat.le_of_ble_eq_true rfl, Nat.le_of_ble_eq_true rfl⟩ dL_law_288 (fun r_288 u_288 h_288 => ?_)
        obtain ⟨rfl, rfl⟩ := h_288
        try dsimp only
        refine g_lload F 6 dL_law_291 rfl ?_
        refine g_lcmp F dL_law_293 ?_
        refine g_if_eq F 299 dL_law_294 (by decide) (fun c_294 => ?_) (fun c_294 => ?_)
        · refine g_sub [0, 1, 2, 3, 4, 6] rfl ?_
          first
          | exact K299 hj4 _ _ _ _ _ _ C4 J2 _ eh
          | exact K299 hj4 _ _ _ _ _ _ C3 J2 _ eh
        · exact absurd (by rw [eh]; exact lcmp_self _) c_294
      · have hp : 0 < nof σ2 := Nat.pos_of_ne_zero fun z => c_263 (by rw [e6, z]; decide)
        obtain ⟨r0, hr0, el0⟩ := low_nI w (n := nof σ2) hp (by omega)
        have el : lowF w (σ2 6) = nI r0 := by rw [e6]; exact el0
        refine g_aload_n F 1 dL_law_266 rfl rfl ?_
        refine g_aload_n F 1 dL_law_267 rfl rfl ?_
        refine g_iload F 5 dL_law_268 rfl ?_
        refine g_aload_n F 1 dL_law_270 rfl rfl ?_
        refine g_iconst (v := 1) F dL_law_271 (by decide) ?_
        refine g_callIv (na := 1) F 8 _ (c_X5_count hj C3) (by decide) rfl rfl lk_L_12 rfl rfl (by decide +kernel) ⟨rfl, rfl, Nat.le_of_ble_eq_true rfl, Nat.le_of_ble_eq_true rfl, Nat.le_of_ble_eq_true rfl, Nat.le_of_ble_eq_true rfl, Nat.le_of_ble_eq_true rfl⟩ dL_law_272 (fun r_272 u_272 h_272 => ?_)
        obtain ⟨rfl, rfl⟩ := h_272
        try dsimp only
        rw [cnt_1]
        refine g_callIs (na := 2) F (c_L_low hj (fun q => c_263 (by rw [q]; decide))) lk_L_31 rfl rfl (by decide +kernel) ⟨rfl, rfl, Nat.le_of_ble_eq_true rfl, Nat.le_of_ble_eq_true rfl, Nat.le_of_ble_eq_true rfl, Nat.le_of_ble_eq_true rfl, Nat.le_of_ble_eq_true rfl⟩ dL_law_275 (fun r_275 u_275 h_275 => ?_)
        obtain ⟨rfl, rfl⟩ := h_275
        try dsimp only
        rw [el]
        refine g_callIv (na := 1) F 8 _ (c_X5_address hj C3) (by decide) rfl rfl lk_L_18 rfl rfl (by decide +kernel) ⟨rfl, rfl, Nat.le_of_ble_eq_true rfl, Nat.le_of_ble_eq_true rfl, Nat.le_of_ble_eq_true rfl, Nat.le_of_ble_eq_true rfl, Nat.le_of_ble_eq_true rfl⟩ dL_law_278 (fun r_278 u_278 h_278 => ?_)
        obtain ⟨rfl, rfl⟩ := h_278
        try dsimp only
        rw [adr_at hr0 h8]
        refine g_callIs (na := 2) F (c_L_goes hj C3 J2 (by omega) hr0 rfl) lk_L_92 rfl rfl (by decide +kernel) ⟨rfl, rfl, Nat.le_of_ble_eq_true rfl, Nat.le_of_ble_eq_true rfl, Nat.le_of_ble_eq_true rfl, Nat.le_of_ble_eq_true rfl, Nat.le_of_ble_eq_true rfl⟩ dL_law_281 (fun r_281 u_281 h_281 => ?_)
        obtain ⟨rfl, hn4, hist4, C4⟩ := h_281
        refine g_if_eq F 297 dL_law_284 (by decide) (fun c_284 => ?_) (fun c_284 => ?_)
        · exact absurd c_284 (by decide)
        · 
          refine g_aload_n F 1 dL_law_287 rfl rfl ?_
          refine g_callLs (na := 1) F (by first | exact c_L_told hj C4 | exact c_L_told hj C3) lk_L_76 rfl rfl (by decide +kernel) ⟨rfl, rfl, Nat.le_of_ble_eq_true rfl, Nat.le_of_ble_eq_true rfl, Nat.le_of_ble_eq_true rfl, Nat.le_of_ble_eq_true rfl, Nat.le_of_ble_eq_true rfl⟩ dL_law_288 (fun r_288 u_288 h_288 => ?_)
          obtain ⟨rfl, rfl⟩ := h_288
          try dsimp only
          refine g_lload F 6 dL_law_291 rfl ?_
          refine g_lcmp F dL_law_293 ?_
          refine g_if_eq F 299 dL_law_294 (by decide) (fun c_294 => ?_) (fun c_294 => ?_)
          · refine g_sub [0, 1, 2, 3, 4, 6] rfl ?_
            first
            | exact K299 hj4 _ _ _ _ _ _ C4 J2 _ eh
            | exact K299 hj4 _ _ _ _ _ _ C3 J2 _ eh
          · exact absurd (by rw [eh]; exact lcmp_self _) c_294
  have K182 : j < 40 → ∀ (v w : Int32) (q : Int32 × Sg), actR v w σ (sl 0) q → ¬ q.1 < 0 → ∀ (I2 : Ii) (pm2 : Pm), CR I2 pm2 q.2 (pushN hn) (pushH hn hist σ) sv sl pl pad → ∀ yb : Int64, yb = tolS σ → ∀ xg : Int32, xg = q.1 → ∀ yh : Int64, yh = tolS q.2 → GG p l e room_1 s m #[Value.ref b] below meth c G A 14 173 2067 (lw_Z below #[Value.ref b] s) I2 pm2 [(0, .ref b), (1, .ref (G.2.2 8 0)), (2, .long y), (4, .int xj), (5, .int v), (6, .int w), (7, .long yb), (10, .int xg), (11, .long yh)] 182 [] := by
    intro hj4 v w q hq hq0 I2 pm2 C2 yb eb xg eg yh eh
    have J2 : Jv (100 * j + 100) q.2 := actR.J J J0 (by omega) hq
    obtain ⟨p1, p2⟩ := push_top (hist := hist) (σ := σ) C1.2.2.2.1
    refine g_iload F 7 dL_law_182 rfl ?_
    refine g_if_lt F 251 dL_law_184 (by decide) (fun c_184 => ?_) (fun c_184 => ?_)
    · exact absurd (by rw [← eg]; exact c_184) hq0
    · refine g_iload F 4 dL_law_187 rfl ?_
      refine g_bipush (v := 8) F dL_law_189 (by decide) ?_
      refine g_ishr F dL_law_191 ?_
      refine g_iconst (v := 1) F dL_law_192 (by decide) ?_
      refine g_iand F dL_law_193 ?_
      refine g_if_ne F 251 dL_law_194 (by decide) (fun c_194 => ?_) (fun c_194 => ?_)
      · refine g_sub [0, 1, 2, 3, 4, 5, 8] rfl ?_
        first
        | exact K251 hj4 _ _ _ _ _ _ _ C4 J2 _ eh
        | exact K251 hj4 _ _ _ _ _ _ _ C2 J2 _ eh
      · refine g_aload_n F 1 dL_law_197 rfl rfl ?_
        refine g_bipush (v := 11) F dL_law_198 (by decide) ?_
        refine g_callIv (na := 1) F 8 _ (c_X5_count hj C2) (by decide) rfl rfl lk_L_12 rfl rfl (by decide +kernel) ⟨rfl, rfl, Nat.le_of_ble_eq_true rfl, Nat.le_of_ble_eq_true rfl, Nat.le_of_ble_eq_true rfl, Nat.le_of_ble_eq_true rfl, Nat.le_of_ble_eq_true rfl⟩ dL_law_200 (fun r_200 u_200 h_200 => ?_)
        obtain ⟨rfl, rfl⟩ := h_200
        try dsimp only
        rw [cnt_11]
        refine g_iconst (v := 1) F dL_law_203 (by decide) ?_
        refine g_isub F dL_law_204 ?_
        refine g_topi (fun x13_205 ex13_205 => ?_)
        refine g_istore (L' := [(13, _), (0, _), (1, _), (2, _), (4, _), (5, _), (6, _), (7, _), (10, _), (11, _)]) F dL_law_205 (by decide) rfl ?_
        refine g_aload_n F 2 dL_law_207 rfl rfl ?_
        refine g_callIv (na := 0) F 8 _ (c_X5_undo hj C2) (by decide) rfl rfl lk_L_68 rfl rfl (by decide +kernel) ⟨rfl, rfl, Nat.le_of_ble_eq_true rfl, Nat.le_of_ble_eq_true rfl, Nat.le_of_ble_eq_true rfl, Nat.le_of_ble_eq_true rfl, Nat.le_of_ble_eq_true rfl⟩ dL_law_208 (fun r_208 u_208 h_208 => ?_)
        have C3 : CR u_208.1 u_208.2 σ (pushN hn - 1) (pushH hn hist σ) sv sl pl pad ∧ r_208 = nI (pushN hn - 1) := by
          rcases h_208 with ⟨z, -⟩ | ⟨-, z1, z, -⟩
          · omega
          · rw [p2] at z
            exact ⟨z, z1⟩
        obtain ⟨C3, rfl⟩ := C3
        refine g_iload F 0 dL_law_211 rfl ?_
        refine g_icmp_ne F 249 dL_law_213 (by decide) (fun c_213 => ?_) (fun c_213 => ?_)
        · exact absurd (by rw [ex13_205]; exact (nx_sub rfl (b := 1) rfl p1).symm) c_213
        · refine g_aload_n F 2 dL_law_216 rfl rfl ?_
          refine g_callLs (na := 1) F (c_L_told hj C3) lk_L_76 rfl rfl (by decide +kernel) ⟨rfl, rfl, Nat.le_of_ble_eq_true rfl, Nat.le_of_ble_eq_true rfl, Nat.le_of_ble_eq_true rfl, Nat.le_of_ble_eq_true rfl, Nat.le_of_ble_eq_true rfl⟩ dL_law_217 (fun r_217 u_217 h_217 => ?_)
          obtain ⟨rfl, rfl⟩ := h_217
          try dsimp only
          refine g_lload F 7 dL_law_220 rfl ?_
          refine g_lcmp F dL_law_222 ?_
          refine g_if_ne F 249 dL_law_223 (by decide) (fun c_223 => ?_) (fun c_223 => ?_)
          · exact absurd (by rw [eb]; exact lcmp_self _) c_223
          · refine g_aload_n F 2 dL_law_226 rfl rfl ?_
            refine g_iload F 5 dL_law_227 rfl ?_
            refine g_iload F 6 dL_law_229 rfl ?_
            refine g_callIs (na := 3) F (c_L_act hj C3 h0 h1) lk_L_84 rfl rfl (by decide +kernel) ⟨rfl, rfl, Nat.le_of_ble_eq_true rfl, Nat.le_of_ble_eq_true rfl, Nat.le_of_ble_eq_true rfl, Nat.le_of_ble_eq_true rfl, Nat.le_of_ble_eq_true rfl⟩ dL_law_231 (fun r_231 u_231 h_231 => ?_)
            obtain ⟨q', hq', rfl, hCH, -⟩ := h_231
            obtain rfl := actR.fn hq hq'
            have C4 : CR u_231.1 u_231.2 q.2 (pushN (pushN hn - 1)) (pushH (pushN hn - 1) (pushH hn hist σ) σ) sv sl pl pad := by
              rcases hCH with ⟨z, -⟩ | ⟨-, z⟩
              · exact absurd z hq0
              · exact z
            refine g_iload F 8 dL_law_234 rfl ?_
            refine g_icmp_ne F 249 dL_law_236 (by decide) (fun c_236 => ?_) (fun c_236 => ?_)
            · exact absurd eg.symm c_236
            · refine g_aload_n F 2 dL_law_239 rfl rfl ?_
              refine g_callLs (na := 1) F (c_L_told hj C4) lk_L_76 rfl rfl (by decide +kernel) ⟨rfl, rfl, Nat.le_of_ble_eq_true rfl, Nat.le_of_ble_eq_true rfl, Nat.le_of_ble_eq_true rfl, Nat.le_of_ble_eq_true rfl, Nat.le_of_ble_eq_true rfl⟩ dL_law_240 (fun r_240 u_240 h_240 => ?_)
              obtain ⟨rfl, rfl⟩ := h_240
              try dsimp only
              refine g_lload F 9 dL_law_243 rfl ?_
              refine g_lcmp F dL_law_245 ?_
              refine g_if_eq F 251 dL_law_246 (by decide) (fun c_246 => ?_) (fun c_246 => ?_)
              · refine g_sub [1, 2, 3, 4, 5, 6, 9] rfl ?_
                first
                | exact K251 hj4 _ _ _ _ _ _ _ C4 J2 _ eh
                | exact K251 hj4 _ _ _ _ _ _ _ C2 J2 _ eh
              · exact absurd (by rw [eh]; exact lcmp_self _) c_246
  have K158 : j < 40 → ∀ (v w : Int32) (q : Int32 × Sg), actR v w σ (sl 0) q → ¬ q.1 < 0 → ∀ (I2 : Ii) (pm2 : Pm), CR I2 pm2 q.2 (pushN hn) (pushH hn hist σ) sv sl pl pad → ∀ yb : Int64, yb = tolS σ → ∀ xg : Int32, xg = q.1 → ∀ yh : Int64, yh = tolS q.2 → GG p l e room_1 s m #[Value.ref b] below meth c G A 14 173 2067 (lw_Z below #[Value.ref b] s) I2 pm2 [(0, .ref b), (1, .ref (G.2.2 8 0)), (2, .long y), (4, .int xj), (5, .int v), (6, .int w), (7, .long yb), (10, .int xg), (11, .long yh)] 158 [] := by
    intro hj4 v w q hq hq0 I2 pm2 C2 yb eb xg eg yh eh
    refine g_iload F 7 dL_law_158 rfl ?_
    refine g_if_lt F 182 dL_law_160 (by decide) (fun c_160 => ?_) (fun c_160 => ?_)
    · exact absurd (by rw [← eg]; exact c_160) hq0
    · refine g_iload F 4 dL_law_163 rfl ?_
      refine g_bipush (v := 15) F dL_law_165 (by decide) ?_
      refine g_iand F dL_law_167 ?_
      refine g_bipush (v := 10) F dL_law_168 (by decide) ?_
      refine g_icmp_ne F 182 dL_law_170 (by decide) (fun c_170 => ?_) (fun c_170 => ?_)
      · refine g_sub [0, 1, 2, 3, 4, 5, 6, 7, 8] rfl ?_
        exact K182 hj4 _ _ _ hq hq0 _ _ C2 _ eb _ eg _ eh
      · refine g_lload F 8 dL_law_173 rfl ?_
        refine g_lload_n F 2 dL_law_175 rfl rfl ?_
        refine g_lcmp F dL_law_176 ?_
        refine g_if_eq F 182 dL_law_177 (by decide) (fun c_177 => ?_) (fun c_177 => ?_)
        · refine g_sub [0, 1, 2, 3, 4, 5, 6, 7, 8] rfl ?_
          exact K182 hj4 _ _ _ hq hq0 _ _ C2 _ eb _ eg _ eh
        · exact absurd (by rw [eh, actR.res hq c_170 hq0, ey]; exact lcmp_self _) c_177
  have K96p : j < 40 → ∀ (v w : Int32) (q : Int32 × Sg), actR v w σ (sl 0) q → ¬ q.1 < 0 → ∀ (I2 : Ii) (pm2 : Pm), CR I2 pm2 q.2 (pushN hn) (pushH hn hist σ) sv sl pl pad → ∀ yb : Int64, yb = tolS σ → ∀ xc : Int32, xc = nI hn → GG p l e room_1 s m #[Value.ref b] below meth c G A 14 173 2067 (lw_Z below #[Value.ref b] s) I2 pm2 [(0, .ref b), (1, .ref (G.2.2 8 0)), (2, .long y), (4, .int xj), (5, .int v), (6, .int w), (7, .long yb), (9, .int xc)] 96 [.int q.1] := by
    intro hj4 v w q hq hq0 I2 pm2 C2 yb eb xc ec
    have hh6 : hn ≤ 6 := C1.2.2.2.1
    refine g_istore (L' := [(10, _), (0, _), (1, _), (2, _), (4, _), (5, _), (6, _), (7, _), (9, _)]) F dL_law_96 (by decide) rfl ?_
    refine g_aload_n F 2 dL_law_98 rfl rfl ?_
    refine g_callLs (na := 1) F (c_L_told hj C2) lk_L_76 rfl rfl (by decide +kernel) ⟨rfl, rfl, Nat.le_of_ble_eq_true rfl, Nat.le_of_ble_eq_true rfl, Nat.le_of_ble_eq_true rfl, Nat.le_of_ble_eq_true rfl, Nat.le_of_ble_eq_true rfl⟩ dL_law_99 (fun r_99 u_99 h_99 => ?_)
    obtain ⟨rfl, rfl⟩ := h_99
    try dsimp only
    refine g_lstore (L' := [(11, _), (10, _), (0, _), (1, _), (2, _), (4, _), (5, _), (6, _), (7, _), (9, _)]) F dL_law_102 (by decide) rfl ?_
    refine g_iload F 1 dL_law_104 rfl ?_
    refine g_if_ge F 131 dL_law_106 (by decide) (fun c_106 => ?_) (fun c_106 => ?_)
    · refine g_aload_n F 3 dL_law_131 rfl rfl ?_
      refine g_bipush (v := 11) F dL_law_132 (by decide) ?_
      refine g_callIv (na := 1) F 8 _ (c_X5_count hj C2) (by decide) rfl rfl lk_L_12 rfl rfl (by decide +kernel) ⟨rfl, rfl, Nat.le_of_ble_eq_true rfl, Nat.le_of_ble_eq_true rfl, Nat.le_of_ble_eq_true rfl, Nat.le_of_ble_eq_true rfl, Nat.le_of_ble_eq_true rfl⟩ dL_law_134 (fun r_134 u_134 h_134 => ?_)
      obtain ⟨rfl, rfl⟩ := h_134
      try dsimp only
      rw [cnt_11]
      refine g_iload F 9 dL_law_137 rfl ?_
      refine g_bipush (v := 6) F dL_law_139 (by decide) ?_
      refine g_icmp_ge F 151 dL_law_141 (by decide) (fun c_141 => ?_) (fun c_141 => ?_)
      · refine g_bipush (v := 6) F dL_law_151 (by decide) ?_
        refine g_icmp_eq F 158 dL_law_153 (by decide) (fun c_153 => ?_) (fun c_153 => ?_)
        · refine g_sub [2, 3, 4, 5, 6, 7, 8, 1, 0] rfl ?_
          exact K158 hj4 _ _ _ hq hq0 _ _ C2 _ eb _ rfl _ rfl
        · exact absurd (by
            unfold pushN
            first
            | (have z := nx_get (a := hn) (b := 6) ec rfl (by omega) (by decide) c_141; rw [if_neg (by omega)]; rfl)
            | (have z := nx_gef (a := hn) (b := 6) ec rfl (by omega) (by decide) c_141; rw [if_pos z]; exact (nx_add ec rfl).symm)) c_153
      · refine g_iload F 9 dL_law_144 rfl ?_
        refine g_iconst (v := 1) F dL_law_146 (by decide) ?_
        refine g_iadd F dL_law_147 ?_
        refine g_goto F 153 dL_law_148 (by decide) ?_
        refine g_icmp_eq F 158 dL_law_153 (by decide) (fun c_153 => ?_) (fun c_153 => ?_)
        · refine g_sub [2, 3, 4, 5, 6, 7, 8, 1, 0] rfl ?_
          exact K158 hj4 _ _ _ hq hq0 _ _ C2 _ eb _ rfl _ rfl
        · exact absurd (by
            unfold pushN
            first
            | (have z := nx_get (a := hn) (b := 6) ec rfl (by omega) (by decide) c_141; rw [if_neg (by omega)]; rfl)
            | (have z := nx_gef (a := hn) (b := 6) ec rfl (by omega) (by decide) c_141; rw [if_pos z]; exact (nx_add ec rfl).symm)) c_153
    · exact absurd (Int32.not_le.mp c_106) hq0
  have K96n : j < 40 → ∀ (v w : Int32) (r : Int32), r < 0 → ∀ (I2 : Ii) (pm2 : Pm), CR I2 pm2 σ hn hist sv sl pl pad → ∀ yb : Int64, yb = tolS σ → ∀ xc : Int32, xc = nI hn → GG p l e room_1 s m #[Value.ref b] below meth c G A 14 173 2067 (lw_Z below #[Value.ref b] s) I2 pm2 [(0, .ref b), (1, .ref (G.2.2 8 0)), (2, .long y), (4, .int xj), (5, .int v), (6, .int w), (7, .long yb), (9, .int xc)] 96 [.int r] := by
    intro hj4 v w r hr0 I2 pm2 C2 yb eb xc ec
    refine g_istore (L' := [(10, _), (0, _), (1, _), (2, _), (4, _), (5, _), (6, _), (7, _), (9, _)]) F dL_law_96 (by decide) rfl ?_
    refine g_aload_n F 2 dL_law_98 rfl rfl ?_
    refine g_callLs (na := 1) F (c_L_told hj C2) lk_L_76 rfl rfl (by decide +kernel) ⟨rfl, rfl, Nat.le_of_ble_eq_true rfl, Nat.le_of_ble_eq_true rfl, Nat.le_of_ble_eq_true rfl, Nat.le_of_ble_eq_true rfl, Nat.le_of_ble_eq_true rfl⟩ dL_law_99 (fun r_99 u_99 h_99 => ?_)
    obtain ⟨rfl, rfl⟩ := h_99
    try dsimp only
    refine g_lstore (L' := [(11, _), (10, _), (0, _), (1, _), (2, _), (4, _), (5, _), (6, _), (7, _), (9, _)]) F dL_law_102 (by decide) rfl ?_
    refine g_iload F 1 dL_law_104 rfl ?_
    refine g_if_ge F 131 dL_law_106 (by decide) (fun c_106 => ?_) (fun c_106 => ?_)
    · exact absurd hr0 (Int32.not_lt.mpr c_106)
    · refine g_lload F 0 dL_law_109 rfl ?_
      refine g_lload F 8 dL_law_111 rfl ?_
      refine g_lcmp F dL_law_113 ?_
      refine g_if_ne F 156 dL_law_114 (by decide) (fun c_114 => ?_) (fun c_114 => ?_)
      · exact absurd (by rw [eb]; exact lcmp_self _) c_114
      · refine g_aload_n F 3 dL_law_117 rfl rfl ?_
        refine g_bipush (v := 11) F dL_law_118 (by decide) ?_
        refine g_callIv (na := 1) F 8 _ (c_X5_count hj C2) (by decide) rfl rfl lk_L_12 rfl rfl (by decide +kernel) ⟨rfl, rfl, Nat.le_of_ble_eq_true rfl, Nat.le_of_ble_eq_true rfl, Nat.le_of_ble_eq_true rfl, Nat.le_of_ble_eq_true rfl, Nat.le_of_ble_eq_true rfl⟩ dL_law_120 (fun r_120 u_120 h_120 => ?_)
        obtain ⟨rfl, rfl⟩ := h_120
        try dsimp only
        rw [cnt_11]
        refine g_iload F 9 dL_law_123 rfl ?_
        refine g_icmp_eq F 158 dL_law_125 (by decide) (fun c_125 => ?_) (fun c_125 => ?_)
        · refine g_iload F 1 dL_law_158 rfl ?_
          refine g_if_lt F 182 dL_law_160 (by decide) (fun c_160 => ?_) (fun c_160 => ?_)
          · refine g_iload F 1 dL_law_182 rfl ?_
            refine g_if_lt F 251 dL_law_184 (by decide) (fun c_184 => ?_) (fun c_184 => ?_)
            · refine g_sub [2, 3, 4, 5, 6, 7, 0] rfl ?_
              exact K251 hj4 _ _ _ _ _ _ _ C2 (J.up (by omega)) _ rfl
            · exact absurd hr0 c_184
          · exact absurd hr0 c_160
        · exact absurd ec.symm c_125
  refine g_iload F 3 dL_law_45 rfl ?_
  refine g_bipush (v := 40) F dL_law_47 (by decide) ?_
  refine g_icmp_ge F 325 dL_law_49 (by decide) (fun c_49 => ?_) (fun c_49 => ?_)
  · have n_49 := nx_get (a := j) (b := 40) ej rfl (by omega) (by omega) c_49
    refine g_aload_n F 1 dL_law_325 rfl rfl ?_
    refine g_iconst (v := 0) F dL_law_326 (by decide) ?_
    refine g_callIv (na := 1) F 8 _ (c_X5_restore hj C1) (by decide) rfl rfl lk_L_56 rfl rfl (by decide +kernel) ⟨rfl, rfl, Nat.le_of_ble_eq_true rfl, Nat.le_of_ble_eq_true rfl, Nat.le_of_ble_eq_true rfl, Nat.le_of_ble_eq_true rfl, Nat.le_of_ble_eq_true rfl⟩ dL_law_327 (fun r_327 u_327 h_327 => ?_)
    have C2 : r_327 = sl 0 6 ∧ CR u_327.1 u_327.2 (sl 0) (pushN hn) (pushH hn hist σ) sv sl pl pad := by
      rcases h_327 with ⟨z, -⟩ | ⟨-, z, -⟩ | ⟨-, -, z1, z2, -⟩
      · exact absurd (by decide) z
      · rw [n0, h0] at z
        exact absurd z (by decide)
      · rw [n0] at z1 z2
        exact ⟨z1, z2⟩
    obtain ⟨rfl, C2⟩ := C2
    refine g_aload_n F 1 dL_law_330 rfl rfl ?_
    refine g_iconst (v := 1) F dL_law_331 (by decide) ?_
    refine g_callIv (na := 1) F 8 _ (c_X5_count hj C2) (by decide) rfl rfl lk_L_12 rfl rfl (by decide +kernel) ⟨rfl, rfl, Nat.le_of_ble_eq_true rfl, Nat.le_of_ble_eq_true rfl, Nat.le_of_ble_eq_true rfl, Nat.le_of_ble_eq_true rfl, Nat.le_of_ble_eq_true rfl⟩ dL_law_332 (fun r_332 u_332 h_332 => ?_)
    obtain ⟨rfl, rfl⟩ := h_332
    try dsimp only
    rw [cnt_1]
    refine g_icmp_ne F 351 dL_law_335 (by decide) (fun c_335 => ?_) (fun c_335 => ?_)
    · exact absurd rfl c_335
    · refine g_aload_n F 1 dL_law_338 rfl rfl ?_
      refine g_callLs (na := 1) F (c_L_told hj C2) lk_L_76 rfl rfl (by decide +kernel) ⟨rfl, rfl, Nat.le_of_ble_eq_true rfl, Nat.le_of_ble_eq_true rfl, Nat.le_of_ble_eq_true rfl, Nat.le_of_ble_eq_true rfl, Nat.le_of_ble_eq_true rfl⟩ dL_law_339 (fun r_339 u_339 h_339 => ?_)
      obtain ⟨rfl, rfl⟩ := h_339
      try dsimp only
      refine g_lload_n F 2 dL_law_342 rfl rfl ?_
      refine g_lcmp F dL_law_343 ?_
      refine g_if_ne F 351 dL_law_344 (by decide) (fun c_344 => ?_) (fun c_344 => ?_)
      · exact absurd (by rw [ey]; exact lcmp_self _) c_344
      · refine g_iconst (v := 1) F dL_law_347 (by decide) ?_
        refine g_goto F 352 dL_law_348 (by decide) ?_
        exact fun H locs ls h1 h2 h3 => va_forget (fun q hq => hA _ (h2.2.2 q hq)) (W.widen (Nat.le_of_ble_eq_true rfl) (Nat.le_of_ble_eq_true rfl) (lw_ret F.1.1 F.1.2.1 hr hlocks dL_law_352))
  · have n_49 := nx_gef (a := j) (b := 40) ej rfl (by omega) (by omega) c_49
    refine g_aload_n F 0 dL_law_52 rfl rfl ?_
    refine g_iconst (v := 2) F dL_law_53 (by decide) ?_
    refine g_iload F 3 dL_law_54 rfl ?_
    refine g_imul F dL_law_56 ?_
    refine g_callSs (na := 2) F SC0 (c_L_cell hj (k := 2 * j) (nx_mul (a := 2) rfl ej) (by omega)) lk_L_80 rfl rfl (by decide +kernel) ⟨rfl, rfl, Nat.le_of_ble_eq_true rfl, Nat.le_of_ble_eq_true rfl, Nat.le_of_ble_eq_true rfl, Nat.le_of_ble_eq_true rfl, Nat.le_of_ble_eq_true rfl⟩ dL_law_57 (fun r_57 u_57 h_57 => ?_)
    obtain rfl := h_57
    try dsimp only
    refine g_topi (fun x5_60 ex5_60 => ?_)
    refine g_istore (L' := [(5, _), (0, _), (1, _), (2, _), (4, _)]) F dL_law_60 (by decide) rfl ?_
    refine g_aload_n F 1 dL_law_62 rfl rfl ?_
    refine g_iconst (v := 2) F dL_law_63 (by decide) ?_
    refine g_iload F 4 dL_law_64 rfl ?_
    refine g_imul F dL_law_66 ?_
    refine g_iconst (v := 1) F dL_law_67 (by decide) ?_
    refine g_iadd F dL_law_68 ?_
    refine g_callSs (na := 2) F SC0 (c_L_cell hj (k := 2 * j + 1) (nx_add (nx_mul (a := 2) rfl ej) rfl) (by omega)) lk_L_80 rfl rfl (by decide +kernel) ⟨rfl, rfl, Nat.le_of_ble_eq_true rfl, Nat.le_of_ble_eq_true rfl, Nat.le_of_ble_eq_true rfl, Nat.le_of_ble_eq_true rfl, Nat.le_of_ble_eq_true rfl⟩ dL_law_69 (fun r_69 u_69 h_69 => ?_)
    obtain rfl := h_69
    try dsimp only
    refine g_topi (fun x6_72 ex6_72 => ?_)
    refine g_istore (L' := [(6, _), (5, _), (0, _), (1, _), (2, _), (4, _)]) F dL_law_72 (by decide) rfl ?_
    refine g_aload_n F 3 dL_law_74 rfl rfl ?_
    refine g_callLs (na := 1) F (c_L_told hj C1) lk_L_76 rfl rfl (by decide +kernel) ⟨rfl, rfl, Nat.le_of_ble_eq_true rfl, Nat.le_of_ble_eq_true rfl, Nat.le_of_ble_eq_true rfl, Nat.le_of_ble_eq_true rfl, Nat.le_of_ble_eq_true rfl⟩ dL_law_75 (fun r_75 u_75 h_75 => ?_)
    obtain ⟨rfl, rfl⟩ := h_75
    try dsimp only
    refine g_lstore (L' := [(7, _), (6, _), (5, _), (0, _), (1, _), (2, _), (4, _)]) F dL_law_78 (by decide) rfl ?_
    refine g_aload_n F 4 dL_law_80 rfl rfl ?_
    refine g_bipush (v := 11) F dL_law_81 (by decide) ?_
    refine g_callIv (na := 1) F 8 _ (c_X5_count hj C1) (by decide) rfl rfl lk_L_12 rfl rfl (by decide +kernel) ⟨rfl, rfl, Nat.le_of_ble_eq_true rfl, Nat.le_of_ble_eq_true rfl, Nat.le_of_ble_eq_true rfl, Nat.le_of_ble_eq_true rfl, Nat.le_of_ble_eq_true rfl⟩ dL_law_83 (fun r_83 u_83 h_83 => ?_)
    obtain ⟨rfl, rfl⟩ := h_83
    try dsimp only
    rw [cnt_11]
    refine g_topi (fun x9_86 ex9_86 => ?_)
    refine g_istore (L' := [(9, _), (7, _), (6, _), (5, _), (0, _), (1, _), (2, _), (4, _)]) F dL_law_86 (by decide) rfl ?_
    refine g_aload_n F 5 dL_law_88 rfl rfl ?_
    refine g_iload F 3 dL_law_89 rfl ?_
    refine g_iload F 2 dL_law_91 rfl ?_
    refine g_callIs (na := 3) F (c_L_act hj C1 h0 h1) lk_L_84 rfl rfl (by decide +kernel) ⟨rfl, rfl, Nat.le_of_ble_eq_true rfl, Nat.le_of_ble_eq_true rfl, Nat.le_of_ble_eq_true rfl, Nat.le_of_ble_eq_true rfl, Nat.le_of_ble_eq_true rfl⟩ dL_law_93 (fun r_93 u_93 h_93 => ?_)
    obtain ⟨q, hq, rfl, hCH, -⟩ := h_93
    refine g_sub [4, 5, 6, 7, 3, 2, 1, 0] rfl ?_
    rcases hCH with ⟨hq0, C2⟩ | ⟨hq0, C2⟩
    · exact K96n n_49 _ _ _ hq0 _ _ C2 _ rfl _ ex9_86
    · exact K96p n_49 _ _ _ hq hq0 _ _ C2 _ rfl _ ex9_86
