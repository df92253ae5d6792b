/-! PART 77: holds -/
theorem tld_0 {σ : Sg} {r : Nat} : tldS σ r 0 = σ (16 + 11 * r + 1) := by unfold tldS; rw [if_pos rfl]
theorem tld_2 {σ : Sg} {r : Nat} : tldS σ r 2 = σ (16 + 11 * r + 3) := by unfold tldS; rw [if_neg (by decide), if_neg (by decide), if_pos rfl]
theorem tld_3 {σ : Sg} {r : Nat} : tldS σ r 3 = σ (16 + 11 * r + 4) := by unfold tldS; rw [if_neg (by decide), if_neg (by decide), if_neg (by decide), if_pos rfl]
theorem tld_4 {σ : Sg} {r : Nat} : tldS σ r 4 = σ (16 + 11 * r + 5) + 1000 := by unfold tldS; rw [if_neg (by decide), if_neg (by decide), if_neg (by decide), if_neg (by decide), if_pos rfl]
theorem tld_5 {σ : Sg} {r : Nat} : tldS σ r 5 = dueS σ r + 1000 := by unfold tldS; rw [if_neg (by decide), if_neg (by decide), if_neg (by decide), if_neg (by decide), if_neg (by decide), if_pos rfl]
theorem tld_9 {σ : Sg} {r : Nat} : tldS σ r 9 = σ (16 + 11 * r + 3) / 100 := by unfold tldS; rw [if_neg (by decide), if_neg (by decide), if_neg (by decide), if_neg (by decide), if_neg (by decide), if_neg (by decide), if_neg (by decide), if_neg (by decide), if_neg (by decide), if_pos rfl]
theorem tld_11 {σ : Sg} {r : Nat} : tldS σ r 11 = σ (16 + 11 * r + 10) + 1000 := by unfold tldS; rw [if_neg (by decide), if_neg (by decide), if_neg (by decide), if_neg (by decide), if_neg (by decide), if_neg (by decide), if_neg (by decide), if_neg (by decide), if_neg (by decide), if_neg (by decide), if_neg (by decide), if_pos rfl]
def farS (σ : Sg) (r : Nat) : Int32 := if dueS σ r - σ (16 + 11 * r + 5) < 0 then -(dueS σ r - σ (16 + 11 * r + 5)) else dueS σ r - σ (16 + 11 * r + 5)
theorem far_at {σ : Sg} {r : Nat} (L : LcOk σ r) : (¬ dueS σ r ≤ σ (16 + 11 * r + 5) → dueS σ r - σ (16 + 11 * r + 5) = farS σ r) ∧ (dueS σ r ≤ σ (16 + 11 * r + 5) → σ (16 + 11 * r + 5) - dueS σ r = farS σ r) := by
  obtain ⟨l1, l2, l3, l4, l5, l6, l7⟩ := L
  have hd : -280 ≤ (dueS σ r).toInt ∧ (dueS σ r).toInt ≤ 280 := due_bd l2.1 l2.2 l6.1 l6.2
  have e0 : (0 : Int32).toInt = 0 := rfl
  have h1 : (dueS σ r - σ (16 + 11 * r + 5)).toInt = (dueS σ r).toInt - (σ (16 + 11 * r + 5)).toInt := Kit.i32_sub (by omega) (by omega)
  have h2 : (σ (16 + 11 * r + 5) - dueS σ r).toInt = (σ (16 + 11 * r + 5)).toInt - (dueS σ r).toInt := Kit.i32_sub (by omega) (by omega)
  have h3 : (-(dueS σ r - σ (16 + 11 * r + 5))).toInt = -(dueS σ r - σ (16 + 11 * r + 5)).toInt := Kit.i32_neg (by omega)
  unfold farS
  refine ⟨fun c => ?_, fun c => ?_⟩
  · have d := i_lt.mp (Int32.not_le.mp c)
    rw [if_neg (fun q => by have := i_lt.mp q; omega)]
  · have d := i_le.mp c
    by_cases q : dueS σ r - σ (16 + 11 * r + 5) < 0
    · rw [if_pos q]
      exact i_eq.mpr (by omega)
    · rw [if_neg q]
      have := i_le.mp (Int32.not_lt.mp q)
      exact i_eq.mpr (by omega)
set_option maxHeartbeats 4000000 in
set_option maxRecDepth 100000 in
theorem c_L_holds {l : Launch} {G : Gm} (hj : Aj G) {I : Ii} {pm : Pm} {k0 : Nat} {σ : Sg} {hn : Nat} {hist : Nat → Sg} {sv : Nat → Int32} {sl : Nat → Sg} {pl : Nat} {pad : Sg} (C : CR I pm σ hn hist sv sl pl pad) (J : Jv k0 σ) : CI l G yL_holds (wz yL_holds cL_holds 11 (some .boolean)) (rmL 6) [.ref (G.2.2 8 0)] I pm (fun r u => r = 1 ∧ CR u.1 u.2 σ hn hist sv sl pl pad) := by
  refine CI.walk hj (by decide +kernel) (by show _ ≤ 11; exact Nat.le_of_ble_eq_true rfl) ?_
  intro p e s m args below meth c F hr hlk
  obtain ⟨V, S, U, T1, T2, T3, T4, T5, T6⟩ := J
  have hn8 : nof σ ≤ 8 := V.2.1
  have hh20 : hof σ ≤ 20 := V.2.2.2.1
  have e6 : σ 6 = nI (nof σ) := V.1
  have e7 : σ 7 = nI (hof σ) := V.2.2.1
  have L3 : ∀ j, j ≤ hof σ → ∀ xj, xj = nI j → ∀ xu : Int32, (∀ r, j ≤ r → r < hof σ → (σ (106 + 3 * r)).toInt ≤ xu.toInt) → ∀ xi, xi = nI (nof σ) → ∀ xs, xs = ssS σ (nof σ) → ∀ xl, xl = nI (nof σ) → ∀ I2 pm2, CR I2 pm2 σ hn hist sv sl pl pad → GG p l e (rmL 6) s m args below meth c G (AA G) 11 0 0 (MQ below (va_Qi (fun (r : Int32) (u : Ii × Pm) => r = 1 ∧ CR u.1 u.2 σ hn hist sv sl pl pad) (fun (u : Ii × Pm) t => Wd G u.1 u.2 t.heap) (AA G)) args s 0 0 (AA G)) I2 pm2 [(0, .ref (G.2.2 8 0)), (1, .int xl), (2, .int xs), (4, .int xi), (5, .int xu), (6, .int xj)] 292 [] := by
    refine dn_ind ?_
    intro j hjl ih xj ej xu hu xi ei xs es xl el I2 pm2 C2
    refine g_iload F 5 dL_holds_292 rfl ?_
    refine g_aload_n F 0 dL_holds_294 rfl rfl ?_
    refine g_iconst (v := 2) F dL_holds_295 (by decide) ?_
    refine g_callIv (na := 1) F 8 _ (c_X5_count hj C2) (by decide) rfl rfl lk_L_12 rfl rfl (by decide +kernel) ⟨rfl, rfl, Nat.le_of_ble_eq_true rfl, Nat.le_of_ble_eq_true rfl, Nat.le_of_ble_eq_true rfl, Nat.le_of_ble_eq_true rfl, Nat.le_of_ble_eq_true rfl⟩ dL_holds_296 (fun r_296 u_296 h_296 => ?_)
    obtain ⟨rfl, rfl⟩ := h_296
    try dsimp only
    rw [cnt_2]
    refine g_icmp_ge F 331 dL_holds_299 (by decide) (fun c_299 => ?_) (fun c_299 => ?_)
    · have n_299 := nx_get (a := j) (b := hof σ) ej e7 (by omega) (by omega) c_299
      refine g_iload F 3 dL_holds_331 rfl ?_
      refine g_iload_n F 1 dL_holds_333 rfl rfl ?_
      refine g_icmp_ne F 382 dL_holds_334 (by decide) (fun c_334 => ?_) (fun c_334 => ?_)
      · exact absurd (ei.trans el.symm) c_334
      · refine g_iload_n F 2 dL_holds_337 rfl rfl ?_
        refine g_aload_n F 0 dL_holds_338 rfl rfl ?_
        refine g_bipush (v := 9) F dL_holds_339 (by decide) ?_
        refine g_callIv (na := 1) F 8 _ (c_X5_count hj C2) (by decide) rfl rfl lk_L_12 rfl rfl (by decide +kernel) ⟨rfl, rfl, Nat.le_of_ble_eq_true rfl, Nat.le_of_ble_eq_true rfl, Nat.le_of_ble_eq_true rfl, Nat.le_of_ble_eq_true rfl, Nat.le_of_ble_eq_true rfl⟩ dL_holds_341 (fun r_341 u_341 h_341 => ?_)
        obtain ⟨rfl, rfl⟩ := h_341
        try dsimp only
        rw [cnt_9]
        refine g_sipush (v := 10000) F dL_holds_344 (by decide) ?_
        refine g_isub F dL_holds_347 ?_
        refine g_icmp_ne F 382 dL_holds_348 (by decide) (fun c_348 => ?_) (fun c_348 => ?_)
        · exact absurd (by rw [es, back2]) c_348
        · refine g_aload_n F 0 dL_holds_351 rfl rfl ?_
          refine g_bipush (v := 6) F dL_holds_352 (by decide) ?_
          refine g_callIv (na := 1) F 8 _ (c_X5_count hj C2) (by decide) rfl rfl lk_L_12 rfl rfl (by decide +kernel) ⟨rfl, rfl, Nat.le_of_ble_eq_true rfl, Nat.le_of_ble_eq_true rfl, Nat.le_of_ble_eq_true rfl, Nat.le_of_ble_eq_true rfl, Nat.le_of_ble_eq_true rfl⟩ dL_holds_354 (fun r_354 u_354 h_354 => ?_)
          obtain ⟨rfl, rfl⟩ := h_354
          try dsimp only
          rw [cnt_6]
          refine g_aload_n F 0 dL_holds_357 rfl rfl ?_
          refine g_iconst (v := 5) F dL_holds_358 (by decide) ?_
          refine g_callIv (na := 1) F 8 _ (c_X5_count hj C2) (by decide) rfl rfl lk_L_12 rfl rfl (by decide +kernel) ⟨rfl, rfl, Nat.le_of_ble_eq_true rfl, Nat.le_of_ble_eq_true rfl, Nat.le_of_ble_eq_true rfl, Nat.le_of_ble_eq_true rfl, Nat.le_of_ble_eq_true rfl⟩ dL_holds_359 (fun r_359 u_359 h_359 => ?_)
          obtain ⟨rfl, rfl⟩ := h_359
          try dsimp only
          rw [cnt_5]
          refine g_icmp_gt F 382 dL_holds_362 (by decide) (fun c_362 => ?_) (fun c_362 => ?_)
          · exact absurd (i_lt.mp c_362) (by omega)
          · refine g_aload_n F 0 dL_holds_365 rfl rfl ?_
            refine g_iconst (v := 5) F dL_holds_366 (by decide) ?_
            refine g_callIv (na := 1) F 8 _ (c_X5_count hj C2) (by decide) rfl rfl lk_L_12 rfl rfl (by decide +kernel) ⟨rfl, rfl, Nat.le_of_ble_eq_true rfl, Nat.le_of_ble_eq_true rfl, Nat.le_of_ble_eq_true rfl, Nat.le_of_ble_eq_true rfl, Nat.le_of_ble_eq_true rfl⟩ dL_holds_367 (fun r_367 u_367 h_367 => ?_)
            obtain ⟨rfl, rfl⟩ := h_367
            try dsimp only
            rw [cnt_5]
            refine g_aload_n F 0 dL_holds_370 rfl rfl ?_
            refine g_iconst (v := 4) F dL_holds_371 (by decide) ?_
            refine g_callIv (na := 1) F 8 _ (c_X5_count hj C2) (by decide) rfl rfl lk_L_12 rfl rfl (by decide +kernel) ⟨rfl, rfl, Nat.le_of_ble_eq_true rfl, Nat.le_of_ble_eq_true rfl, Nat.le_of_ble_eq_true rfl, Nat.le_of_ble_eq_true rfl, Nat.le_of_ble_eq_true rfl⟩ dL_holds_372 (fun r_372 u_372 h_372 => ?_)
            obtain ⟨rfl, rfl⟩ := h_372
            try dsimp only
            rw [cnt_4]
            refine g_icmp_gt F 382 dL_holds_375 (by decide) (fun c_375 => ?_) (fun c_375 => ?_)
            · exact absurd (i_lt.mp c_375) (by omega)
            · refine g_iconst (v := 1) F dL_holds_378 (by decide) ?_
              refine g_goto F 383 dL_holds_379 (by decide) ?_
              refine g_iret F hr hlk rfl dL_holds_383 ?_
              exact ⟨rfl, C2⟩
    · have n_299 := nx_gef (a := j) (b := hof σ) ej e7 (by omega) (by omega) c_299
      have wt : waitS (hof σ) σ xj 2 = σ (106 + 3 * j) := by rw [ej]; exact wait_at n_299 hh20
      refine g_aload_n F 0 dL_holds_302 rfl rfl ?_
      refine g_iload F 5 dL_holds_303 rfl ?_
      refine g_iconst (v := 2) F dL_holds_305 (by decide) ?_
      refine g_callIv (na := 2) F 8 _ (c_X5_waiting hj C2) (by decide) rfl rfl lk_L_25 rfl rfl (by decide +kernel) ⟨rfl, rfl, Nat.le_of_ble_eq_true rfl, Nat.le_of_ble_eq_true rfl, Nat.le_of_ble_eq_true rfl, Nat.le_of_ble_eq_true rfl, Nat.le_of_ble_eq_true rfl⟩ dL_holds_306 (fun r_306 u_306 h_306 => ?_)
      obtain ⟨rfl, rfl⟩ := h_306
      try dsimp only
      rw [wt]
      refine g_iload F 4 dL_holds_309 rfl ?_
      refine g_icmp_le F 316 dL_holds_311 (by decide) (fun c_311 => ?_) (fun c_311 => ?_)
      · refine g_aload_n F 0 dL_holds_316 rfl rfl ?_
        refine g_iload F 5 dL_holds_317 rfl ?_
        refine g_iconst (v := 2) F dL_holds_319 (by decide) ?_
        refine g_callIv (na := 2) F 8 _ (c_X5_waiting hj C2) (by decide) rfl rfl lk_L_25 rfl rfl (by decide +kernel) ⟨rfl, rfl, Nat.le_of_ble_eq_true rfl, Nat.le_of_ble_eq_true rfl, Nat.le_of_ble_eq_true rfl, Nat.le_of_ble_eq_true rfl, Nat.le_of_ble_eq_true rfl⟩ dL_holds_320 (fun r_320 u_320 h_320 => ?_)
        obtain ⟨rfl, rfl⟩ := h_320
        try dsimp only
        rw [wt]
        refine g_topi (fun x5_323 ex5_323 => ?_)
        refine g_istore (L' := [(5, _), (0, _), (1, _), (2, _), (4, _), (6, _)]) F dL_holds_323 (by decide) rfl ?_
        refine g_iincC (q := 1) (L' := [(6, _), (5, _), (0, _), (1, _), (2, _), (4, _)]) F 5 dL_holds_325 (by decide) rfl (by decide) rfl ?_
        refine g_goto F 292 dL_holds_328 (by decide) ?_
        refine g_sub [2, 3, 4, 5, 1, 0] rfl ?_
        exact ih (by omega) _ (nx_add ej rfl) _ (fun r h1 h2 => by rw [ex5_323]; exact U.2 j r (by omega) h2) _ ei _ es _ el _ _ C2
      · exact absurd (i_le.mpr (hu j (Nat.le_refl _) n_299)) c_311
  have L2 : ∀ b, b ≤ 8 → ∀ xb, xb = nI b → ∀ xi, xi = sumB σ (nof σ) b → ∀ xs, xs = ssS σ (nof σ) → ∀ xl, xl = nI (nof σ) → ∀ I2 pm2, CR I2 pm2 σ hn hist sv sl pl pad → GG p l e (rmL 6) s m args below meth c G (AA G) 11 0 0 (MQ below (va_Qi (fun (r : Int32) (u : Ii × Pm) => r = 1 ∧ CR u.1 u.2 σ hn hist sv sl pl pad) (fun (u : Ii × Pm) t => Wd G u.1 u.2 t.heap) (AA G)) args s 0 0 (AA G)) I2 pm2 [(0, .ref (G.2.2 8 0)), (1, .int xl), (2, .int xs), (4, .int xi), (5, .int xb)] 261 [] := by
    refine dn_ind ?_
    intro b hbl ih xb eb xi ei xs es xl el I2 pm2 C2
    refine g_iload F 4 dL_holds_261 rfl ?_
    refine g_bipush (v := 8) F dL_holds_263 (by decide) ?_
    refine g_icmp_ge F 286 dL_holds_265 (by decide) (fun c_265 => ?_) (fun c_265 => ?_)
    · have n_265 := nx_get (a := b) (b := 8) eb rfl (by omega) (by omega) c_265
      obtain rfl : b = 8 := by omega
      refine g_iconst (v := 3) F dL_holds_286 (by decide) ?_
      refine g_istore (L' := [(5, _), (0, _), (1, _), (2, _), (4, _)]) F dL_holds_287 (by decide) rfl ?_
      refine g_iconst (v := 0) F dL_holds_289 (by decide) ?_
      refine g_istore (L' := [(6, _), (5, _), (0, _), (1, _), (2, _), (4, _)]) F dL_holds_290 (by decide) rfl ?_
      refine g_sub [2, 3, 4, 5, 1, 0] rfl ?_
      exact L3 0 (Nat.zero_le _) _ rfl (3 : Int32) (fun r _ h2 => U.1 r h2) _ (by rw [ei]; exact sumB_n _ V.2.2.2.2.1) _ es _ el _ _ C2
    · have n_265 := nx_gef (a := b) (b := 8) eb rfl (by omega) (by omega) c_265
      have bt : blockS σ xb 1 = lcS σ xb (nof σ) := by rw [eb, blk_at n_265, if_neg (by decide), if_pos rfl]
      refine g_iload F 3 dL_holds_268 rfl ?_
      refine g_aload_n F 0 dL_holds_270 rfl rfl ?_
      refine g_iload F 4 dL_holds_271 rfl ?_
      refine g_iconst (v := 1) F dL_holds_273 (by decide) ?_
      refine g_callIv (na := 2) F 8 _ (c_X5_block hj C2) (by decide) rfl rfl lk_L_28 rfl rfl (by decide +kernel) ⟨rfl, rfl, Nat.le_of_ble_eq_true rfl, Nat.le_of_ble_eq_true rfl, Nat.le_of_ble_eq_true rfl, Nat.le_of_ble_eq_true rfl, Nat.le_of_ble_eq_true rfl⟩ dL_holds_274 (fun r_274 u_274 h_274 => ?_)
      obtain ⟨rfl, rfl⟩ := h_274
      try dsimp only
      rw [bt]
      refine g_iadd F dL_holds_277 ?_
      refine g_topi (fun x4_278 ex4_278 => ?_)
      refine g_istore (L' := [(4, _), (0, _), (1, _), (2, _), (5, _)]) F dL_holds_278 (by decide) rfl ?_
      refine g_iincC (q := 1) (L' := [(5, _), (4, _), (0, _), (1, _), (2, _)]) F 4 dL_holds_280 (by decide) rfl (by decide) rfl ?_
      refine g_goto F 261 dL_holds_283 (by decide) ?_
      refine g_sub [2, 3, 4, 1, 0] rfl ?_
      exact ih (by omega) _ (nx_add eb rfl) _ (by rw [ex4_278, ei, eb]; rfl) _ es _ el _ _ C2
  have L1 : ∀ k, k ≤ nof σ → ∀ xk, xk = nI k → ∀ xb : Int32, (∀ r, k ≤ r → r < nof σ → xb.toInt < (σ (16 + 11 * r)).toInt) → ∀ xs, xs = ssS σ k → ∀ xl, xl = nI (nof σ) → ∀ I2 pm2, CR I2 pm2 σ hn hist sv sl pl pad → GG p l e (rmL 6) s m args below meth c G (AA G) 11 0 0 (MQ below (va_Qi (fun (r : Int32) (u : Ii × Pm) => r = 1 ∧ CR u.1 u.2 σ hn hist sv sl pl pad) (fun (u : Ii × Pm) t => Wd G u.1 u.2 t.heap) (AA G)) args s 0 0 (AA G)) I2 pm2 [(0, .ref (G.2.2 8 0)), (1, .int xl), (2, .int xs), (3, .int xb), (4, .int xk)] 13 [] := by
    refine dn_ind ?_
    intro k hkl ih xk ek xb hb xs es xl el I2 pm2 C2
    have K85 : k < nof σ → ∀ xa, xa = σ (16 + 11 * k) → ∀ x6, x6 = σ (16 + 11 * k + 5) → ∀ x7, x7 = dueS σ k → ∀ x8, x8 = 60 / σ (16 + 11 * k + 1) → ∀ xf, xf = farS σ k → GG p l e (rmL 6) s m args below meth c G (AA G) 11 0 0 (MQ below (va_Qi (fun (r : Int32) (u : Ii × Pm) => r = 1 ∧ CR u.1 u.2 σ hn hist sv sl pl pad) (fun (u : Ii × Pm) t => Wd G u.1 u.2 t.heap) (AA G)) args s 0 0 (AA G)) I2 pm2 [(0, .ref (G.2.2 8 0)), (1, .int xl), (2, .int xs), (3, .int xb), (4, .int xk), (5, .int xa), (6, .int x6), (7, .int x7), (8, .int x8)] 85 [.int xf] := by
      intro hk xa ea x6 h6 x7 h7 x8 h8 xf hf
      have L := V.2.2.2.2.1 k hk
      obtain ⟨l1, l2, l3, l4, l5, l6, l7⟩ := id L
      have hd : -280 ≤ (dueS σ k).toInt ∧ (dueS σ k).toInt ≤ 280 := due_bd l2.1 l2.2 l6.1 l6.2
      have hg := gain_bd l1.1 l1.2
      have e280 : (280 : Int32).toInt = 280 := rfl
      have m280 : (-280 : Int32).toInt = -280 := by decide
      have z0 : (0 : Int32).toInt = 0 := rfl
      have z10 : (10 : Int32).toInt = 10 := rfl
      have z800 : (800 : Int32).toInt = 800 := rfl
      have hx8 : ¬ x8 = 0 := fun q => by rw [← h8, q] at hg; omega
      have stt : settS σ xa = stlS σ k := by rw [ea]; exact stl_at hk S
      have oft : ∀ w, ofS σ xa w = tldS σ k w := fun w => by rw [ea]; exact of_at hk S w
      refine g_istore (L' := [(9, _), (0, _), (1, _), (2, _), (3, _), (4, _), (5, _), (6, _), (7, _), (8, _)]) F dL_holds_85 (by decide) rfl ?_
      refine g_iload_n F 3 dL_holds_87 rfl rfl ?_
      refine g_iload F 7 dL_holds_88 rfl ?_
      refine g_iadd F dL_holds_90 ?_
      refine g_topi (fun x2_91 ex2_91 => ?_)
      refine g_istore_n (L' := [(2, _), (9, _), (0, _), (1, _), (3, _), (4, _), (5, _), (6, _), (7, _), (8, _)]) F dL_holds_91 rfl (by decide) rfl ?_
      refine g_iload F 7 dL_holds_92 rfl ?_
      refine g_sipush (v := -280) F dL_holds_94 (by decide) ?_
      refine g_icmp_lt F 173 dL_holds_97 (by decide) (fun c_97 => ?_) (fun c_97 => ?_)
      · exact absurd (i_lt.mp c_97) (by rw [h6]; omega)
      · refine g_iload F 7 dL_holds_100 rfl ?_
        refine g_sipush (v := 280) F dL_holds_102 (by decide) ?_
        refine g_icmp_gt F 173 dL_holds_105 (by decide) (fun c_105 => ?_) (fun c_105 => ?_)
        · exact absurd (i_lt.mp c_105) (by rw [h6]; omega)
        · refine g_iload F 8 dL_holds_108 rfl ?_
          refine g_sipush (v := -280) F dL_holds_110 (by decide) ?_
          refine g_icmp_lt F 173 dL_holds_113 (by decide) (fun c_113 => ?_) (fun c_113 => ?_)
          · exact absurd (i_lt.mp c_113) (by rw [h7]; omega)
          · refine g_iload F 8 dL_holds_116 rfl ?_
            refine g_sipush (v := 280) F dL_holds_118 (by decide) ?_
            refine g_icmp_gt F 173 dL_holds_121 (by decide) (fun c_121 => ?_) (fun c_121 => ?_)
            · exact absurd (i_lt.mp c_121) (by rw [h7]; omega)
            · refine g_aload_n F 2 dL_holds_124 rfl rfl ?_
              refine g_iload F 6 dL_holds_125 rfl ?_
              refine g_iconst (v := 3) F dL_holds_127 (by decide) ?_
              refine g_callIv (na := 2) F 8 _ (c_X5_of hj C2) (by decide) rfl rfl lk_L_21 rfl rfl (by decide +kernel) ⟨rfl, rfl, Nat.le_of_ble_eq_true rfl, Nat.le_of_ble_eq_true rfl, Nat.le_of_ble_eq_true rfl, Nat.le_of_ble_eq_true rfl, Nat.le_of_ble_eq_true rfl⟩ dL_holds_128 (fun r_128 u_128 h_128 => ?_)
              obtain ⟨rfl, rfl⟩ := h_128
              try dsimp only
              rw [oft, tld_3]
              refine g_if_lt F 173 dL_holds_131 (by decide) (fun c_131 => ?_) (fun c_131 => ?_)
              · exact absurd (i_lt.mp c_131) (by omega)
              · refine g_aload_n F 2 dL_holds_134 rfl rfl ?_
                refine g_iload F 6 dL_holds_135 rfl ?_
                refine g_iconst (v := 3) F dL_holds_137 (by decide) ?_
                refine g_callIv (na := 2) F 8 _ (c_X5_of hj C2) (by decide) rfl rfl lk_L_21 rfl rfl (by decide +kernel) ⟨rfl, rfl, Nat.le_of_ble_eq_true rfl, Nat.le_of_ble_eq_true rfl, Nat.le_of_ble_eq_true rfl, Nat.le_of_ble_eq_true rfl, Nat.le_of_ble_eq_true rfl⟩ dL_holds_138 (fun r_138 u_138 h_138 => ?_)
                obtain ⟨rfl, rfl⟩ := h_138
                try dsimp only
                rw [oft, tld_3]
                refine g_bipush (v := 10) F dL_holds_141 (by decide) ?_
                refine g_icmp_ge F 173 dL_holds_143 (by decide) (fun c_143 => ?_) (fun c_143 => ?_)
                · exact absurd (i_le.mp c_143) (by omega)
                · refine g_aload_n F 2 dL_holds_146 rfl rfl ?_
                  refine g_iload F 6 dL_holds_147 rfl ?_
                  refine g_iconst (v := 2) F dL_holds_149 (by decide) ?_
                  refine g_callIv (na := 2) F 8 _ (c_X5_of hj C2) (by decide) rfl rfl lk_L_21 rfl rfl (by decide +kernel) ⟨rfl, rfl, Nat.le_of_ble_eq_true rfl, Nat.le_of_ble_eq_true rfl, Nat.le_of_ble_eq_true rfl, Nat.le_of_ble_eq_true rfl, Nat.le_of_ble_eq_true rfl⟩ dL_holds_150 (fun r_150 u_150 h_150 => ?_)
                  obtain ⟨rfl, rfl⟩ := h_150
                  try dsimp only
                  rw [oft, tld_2]
                  refine g_if_lt F 173 dL_holds_153 (by decide) (fun c_153 => ?_) (fun c_153 => ?_)
                  · exact absurd (i_lt.mp c_153) (by omega)
                  · refine g_aload_n F 2 dL_holds_156 rfl rfl ?_
                    refine g_iload F 6 dL_holds_157 rfl ?_
                    refine g_iconst (v := 2) F dL_holds_159 (by decide) ?_
                    refine g_callIv (na := 2) F 8 _ (c_X5_of hj C2) (by decide) rfl rfl lk_L_21 rfl rfl (by decide +kernel) ⟨rfl, rfl, Nat.le_of_ble_eq_true rfl, Nat.le_of_ble_eq_true rfl, Nat.le_of_ble_eq_true rfl, Nat.le_of_ble_eq_true rfl, Nat.le_of_ble_eq_true rfl⟩ dL_holds_160 (fun r_160 u_160 h_160 => ?_)
                    obtain ⟨rfl, rfl⟩ := h_160
                    try dsimp only
                    rw [oft, tld_2]
                    refine g_sipush (v := 800) F dL_holds_163 (by decide) ?_
                    refine g_icmp_ge F 173 dL_holds_166 (by decide) (fun c_166 => ?_) (fun c_166 => ?_)
                    · exact absurd (i_le.mp c_166) (by omega)
                    · refine g_iconst (v := 1) F dL_holds_169 (by decide) ?_
                      refine g_goto F 174 dL_holds_170 (by decide) ?_
                      refine g_istore (L' := [(10, _), (2, _), (9, _), (0, _), (1, _), (3, _), (4, _), (5, _), (6, _), (7, _), (8, _)]) F dL_holds_174 (by decide) rfl ?_
                      refine g_iload F 0 dL_holds_176 rfl ?_
                      refine g_if_eq F 244 dL_holds_178 (by decide) (fun c_178 => ?_) (fun c_178 => ?_)
                      · have n_178 := nx_eqt (a := 1) (b := 0) rfl rfl (by omega) (by omega) c_178
                        exact absurd c_178 (by decide)
                      · have n_178 := nx_eqf (a := 1) (b := 0) rfl rfl (by omega) (by omega) c_178
                        refine g_iload F 7 dL_holds_181 rfl ?_
                        refine g_iload_n F 5 dL_holds_183 rfl rfl ?_
                        refine g_icmp_le F 244 dL_holds_184 (by decide) (fun c_184 => ?_) (fun c_184 => ?_)
                        · exact absurd (i_le.mp c_184) (by rw [ea]; have := hb k (Nat.le_refl _) hk; omega)
                        · refine g_aload_n F 3 dL_holds_187 rfl rfl ?_
                          refine g_iload F 7 dL_holds_188 rfl ?_
                          refine g_bipush (v := 9) F dL_holds_190 (by decide) ?_
                          refine g_callIv (na := 2) F 8 _ (c_X5_of hj C2) (by decide) rfl rfl lk_L_21 rfl rfl (by decide +kernel) ⟨rfl, rfl, Nat.le_of_ble_eq_true rfl, Nat.le_of_ble_eq_true rfl, Nat.le_of_ble_eq_true rfl, Nat.le_of_ble_eq_true rfl, Nat.le_of_ble_eq_true rfl⟩ dL_holds_192 (fun r_192 u_192 h_192 => ?_)
                          obtain ⟨rfl, rfl⟩ := h_192
                          try dsimp only
                          rw [oft, tld_9]
                          refine g_aload_n F 3 dL_holds_195 rfl rfl ?_
                          refine g_iload F 7 dL_holds_196 rfl ?_
                          refine g_iconst (v := 2) F dL_holds_198 (by decide) ?_
                          refine g_callIv (na := 2) F 8 _ (c_X5_of hj C2) (by decide) rfl rfl lk_L_21 rfl rfl (by decide +kernel) ⟨rfl, rfl, Nat.le_of_ble_eq_true rfl, Nat.le_of_ble_eq_true rfl, Nat.le_of_ble_eq_true rfl, Nat.le_of_ble_eq_true rfl, Nat.le_of_ble_eq_true rfl⟩ dL_holds_199 (fun r_199 u_199 h_199 => ?_)
                          obtain ⟨rfl, rfl⟩ := h_199
                          try dsimp only
                          rw [oft, tld_2]
                          refine g_bipush (v := 100) F dL_holds_202 (by decide) ?_
                          refine g_idiv F dL_holds_204 (by decide) ?_
                          refine g_icmp_ne F 244 dL_holds_205 (by decide) (fun c_205 => ?_) (fun c_205 => ?_)
                          · exact absurd rfl c_205
                          · refine g_aload_n F 3 dL_holds_208 rfl rfl ?_
                            refine g_iload F 7 dL_holds_209 rfl ?_
                            refine g_callIv (na := 1) F 8 _ (c_X5_settles hj C2) (by decide) rfl rfl lk_L_62 rfl rfl (by decide +kernel) ⟨rfl, rfl, Nat.le_of_ble_eq_true rfl, Nat.le_of_ble_eq_true rfl, Nat.le_of_ble_eq_true rfl, Nat.le_of_ble_eq_true rfl, Nat.le_of_ble_eq_true rfl⟩ dL_holds_211 (fun r_211 u_211 h_211 => ?_)
                            obtain ⟨rfl, rfl⟩ := h_211
                            try dsimp only
                            rw [stt]
                            refine g_iload F 2 dL_holds_214 rfl ?_
                            refine g_iload F 10 dL_holds_216 rfl ?_
                            refine g_iadd F dL_holds_218 ?_
                            refine g_iconst (v := 1) F dL_holds_219 (by decide) ?_
                            refine g_isub F dL_holds_220 ?_
                            refine g_iload F 10 dL_holds_221 rfl ?_
                            refine g_idiv F dL_holds_223 hx8 ?_
                            refine g_icmp_ne F 244 dL_holds_224 (by decide) (fun c_224 => ?_) (fun c_224 => ?_)
                            · exact absurd (by rw [h8, hf]; rfl) c_224
                            · refine g_aload_n F 3 dL_holds_227 rfl rfl ?_
                              refine g_iload F 7 dL_holds_228 rfl ?_
                              refine g_aload_n F 3 dL_holds_230 rfl rfl ?_
                              refine g_iload F 7 dL_holds_231 rfl ?_
                              refine g_bipush (v := 9) F dL_holds_233 (by decide) ?_
                              refine g_callIv (na := 2) F 8 _ (c_X5_of hj C2) (by decide) rfl rfl lk_L_21 rfl rfl (by decide +kernel) ⟨rfl, rfl, Nat.le_of_ble_eq_true rfl, Nat.le_of_ble_eq_true rfl, Nat.le_of_ble_eq_true rfl, Nat.le_of_ble_eq_true rfl, Nat.le_of_ble_eq_true rfl⟩ dL_holds_235 (fun r_235 u_235 h_235 => ?_)
                              obtain ⟨rfl, rfl⟩ := h_235
                              try dsimp only
                              rw [oft, tld_9]
                              refine g_callIv (na := 2) F 8 _ (c_X5_reaches hj C2) (by decide) rfl rfl lk_L_65 rfl rfl (by decide +kernel) ⟨rfl, rfl, Nat.le_of_ble_eq_true rfl, Nat.le_of_ble_eq_true rfl, Nat.le_of_ble_eq_true rfl, Nat.le_of_ble_eq_true rfl, Nat.le_of_ble_eq_true rfl⟩ dL_holds_238 (fun r_238 u_238 h_238 => ?_)
                              obtain ⟨h_r, C3, -⟩ := h_238
                              obtain rfl : r_238 = 0 := h_r.trans (by rw [ea]; exact rch_at hk S L)
                              refine g_if_eq F 246 dL_holds_241 (by decide) (fun c_241 => ?_) (fun c_241 => ?_)
                              · refine g_iload F 7 dL_holds_246 rfl ?_
                                refine g_istore_n (L' := [(3, _), (10, _), (2, _), (9, _), (0, _), (1, _), (4, _), (5, _), (6, _), (7, _), (8, _)]) F dL_holds_248 rfl (by decide) rfl ?_
                                refine g_iincC (q := 1) (L' := [(4, _), (3, _), (10, _), (2, _), (9, _), (0, _), (1, _), (5, _), (6, _), (7, _), (8, _)]) F 6 dL_holds_249 (by decide) rfl (by decide) rfl ?_
                                refine g_goto F 13 dL_holds_252 (by decide) ?_
                                refine g_sub [5, 6, 3, 1, 0] rfl ?_
                                exact ih (by omega) _ (nx_add ek rfl) _ (fun r h1 h2 => by rw [ea]; exact S.2 k r (by omega) h2) _ (by rw [ex2_91, es, h6]; rfl) _ el _ _ C3
                              · exact absurd rfl c_241
    refine g_iload F 4 dL_holds_13 rfl ?_
    refine g_iload_n F 1 dL_holds_15 rfl rfl ?_
    refine g_icmp_ge F 255 dL_holds_16 (by decide) (fun c_16 => ?_) (fun c_16 => ?_)
    · have n_16 := nx_get (a := k) (b := nof σ) ek el (by omega) (by omega) c_16
      obtain rfl : k = nof σ := by omega
      refine g_iconst (v := 0) F dL_holds_255 (by decide) ?_
      refine g_istore (L' := [(4, _), (0, _), (1, _), (2, _), (3, _)]) F dL_holds_256 (by decide) rfl ?_
      refine g_iconst (v := 0) F dL_holds_258 (by decide) ?_
      refine g_istore (L' := [(5, _), (4, _), (0, _), (1, _), (2, _), (3, _)]) F dL_holds_259 (by decide) rfl ?_
      refine g_sub [2, 3, 4, 1, 0] rfl ?_
      exact L2 0 (Nat.zero_le _) _ rfl _ rfl _ es _ el _ _ C2
    · have n_16 := nx_gef (a := k) (b := nof σ) ek el (by omega) (by omega) c_16
      have ad : adrS σ xk = σ (16 + 11 * k) := by rw [ek]; exact adr_at n_16 hn8
      refine g_aload_n F 0 dL_holds_19 rfl rfl ?_
      refine g_iload F 4 dL_holds_20 rfl ?_
      refine g_callIv (na := 1) F 8 _ (c_X5_address hj C2) (by decide) rfl rfl lk_L_18 rfl rfl (by decide +kernel) ⟨rfl, rfl, Nat.le_of_ble_eq_true rfl, Nat.le_of_ble_eq_true rfl, Nat.le_of_ble_eq_true rfl, Nat.le_of_ble_eq_true rfl, Nat.le_of_ble_eq_true rfl⟩ dL_holds_22 (fun r_22 u_22 h_22 => ?_)
      obtain ⟨rfl, rfl⟩ := h_22
      try dsimp only
      rw [ad]
      refine g_topi (fun x5_25 ex5_25 => ?_)
      refine g_istore (L' := [(5, _), (0, _), (1, _), (2, _), (3, _), (4, _)]) F dL_holds_25 (by decide) rfl ?_
      have oft : ∀ w, ofS σ x5_25 w = tldS σ k w := fun w => by rw [ex5_25]; exact of_at n_16 S w
      refine g_aload_n F 1 dL_holds_27 rfl rfl ?_
      refine g_iload F 0 dL_holds_28 rfl ?_
      refine g_iconst (v := 4) F dL_holds_30 (by decide) ?_
      refine g_callIv (na := 2) F 8 _ (c_X5_of hj C2) (by decide) rfl rfl lk_L_21 rfl rfl (by decide +kernel) ⟨rfl, rfl, Nat.le_of_ble_eq_true rfl, Nat.le_of_ble_eq_true rfl, Nat.le_of_ble_eq_true rfl, Nat.le_of_ble_eq_true rfl, Nat.le_of_ble_eq_true rfl⟩ dL_holds_31 (fun r_31 u_31 h_31 => ?_)
      obtain ⟨rfl, rfl⟩ := h_31
      try dsimp only
      rw [oft, tld_4]
      refine g_sipush (v := 1000) F dL_holds_34 (by decide) ?_
      refine g_isub F dL_holds_37 ?_
      refine g_topi (fun x6_38 ex6_38 => ?_)
      refine g_istore (L' := [(6, _), (5, _), (0, _), (1, _), (2, _), (3, _), (4, _)]) F dL_holds_38 (by decide) rfl ?_
      refine g_aload_n F 2 dL_holds_40 rfl rfl ?_
      refine g_iload F 1 dL_holds_41 rfl ?_
      refine g_iconst (v := 5) F dL_holds_43 (by decide) ?_
      refine g_callIv (na := 2) F 8 _ (c_X5_of hj C2) (by decide) rfl rfl lk_L_21 rfl rfl (by decide +kernel) ⟨rfl, rfl, Nat.le_of_ble_eq_true rfl, Nat.le_of_ble_eq_true rfl, Nat.le_of_ble_eq_true rfl, Nat.le_of_ble_eq_true rfl, Nat.le_of_ble_eq_true rfl⟩ dL_holds_44 (fun r_44 u_44 h_44 => ?_)
      obtain ⟨rfl, rfl⟩ := h_44
      try dsimp only
      rw [oft, tld_5]
      refine g_sipush (v := 1000) F dL_holds_47 (by decide) ?_
      refine g_isub F dL_holds_50 ?_
      refine g_topi (fun x7_51 ex7_51 => ?_)
      refine g_istore (L' := [(7, _), (6, _), (5, _), (0, _), (1, _), (2, _), (3, _), (4, _)]) F dL_holds_51 (by decide) rfl ?_
      refine g_bipush (v := 60) F dL_holds_53 (by decide) ?_
      refine g_aload_n F 3 dL_holds_55 rfl rfl ?_
      refine g_iload F 2 dL_holds_56 rfl ?_
      refine g_iconst (v := 0) F dL_holds_58 (by decide) ?_
      refine g_callIv (na := 2) F 8 _ (c_X5_of hj C2) (by decide) rfl rfl lk_L_21 rfl rfl (by decide +kernel) ⟨rfl, rfl, Nat.le_of_ble_eq_true rfl, Nat.le_of_ble_eq_true rfl, Nat.le_of_ble_eq_true rfl, Nat.le_of_ble_eq_true rfl, Nat.le_of_ble_eq_true rfl⟩ dL_holds_59 (fun r_59 u_59 h_59 => ?_)
      obtain ⟨rfl, rfl⟩ := h_59
      try dsimp only
      rw [oft, tld_0]
      refine g_idiv F dL_holds_62 (fun q => by have h0 := (V.2.2.2.2.1 k n_16).1.1; rw [q] at h0; exact absurd h0 (by decide)) ?_
      refine g_topi (fun x8_63 ex8_63 => ?_)
      refine g_istore (L' := [(8, _), (7, _), (6, _), (5, _), (0, _), (1, _), (2, _), (3, _), (4, _)]) F dL_holds_63 (by decide) rfl ?_
      refine g_iload F 1 dL_holds_65 rfl ?_
      refine g_iload F 2 dL_holds_67 rfl ?_
      refine g_icmp_le F 80 dL_holds_69 (by decide) (fun c_69 => ?_) (fun c_69 => ?_)
      · refine g_iload F 2 dL_holds_80 rfl ?_
        refine g_iload F 1 dL_holds_82 rfl ?_
        refine g_isub F dL_holds_84 ?_
        refine g_sub [4, 5, 6, 7, 8, 3, 2, 1, 0] rfl ?_
        first
        | exact K85 n_16 _ ex5_25 _ (by rw [ex6_38, back1]) _ (by rw [ex7_51, back1]) _ ex8_63 _ (by rw [ex7_51, ex6_38, back1, back1] at c_69 ⊢; exact (far_at (V.2.2.2.2.1 k n_16)).1 c_69)
        | exact K85 n_16 _ ex5_25 _ (by rw [ex6_38, back1]) _ (by rw [ex7_51, back1]) _ ex8_63 _ (by rw [ex7_51, ex6_38, back1, back1] at c_69 ⊢; exact (far_at (V.2.2.2.2.1 k n_16)).2 c_69)
      · refine g_iload F 1 dL_holds_72 rfl ?_
        refine g_iload F 2 dL_holds_74 rfl ?_
        refine g_isub F dL_holds_76 ?_
        refine g_goto F 85 dL_holds_77 (by decide) ?_
        refine g_sub [4, 5, 6, 7, 8, 3, 2, 1, 0] rfl ?_
        first
        | exact K85 n_16 _ ex5_25 _ (by rw [ex6_38, back1]) _ (by rw [ex7_51, back1]) _ ex8_63 _ (by rw [ex7_51, ex6_38, back1, back1] at c_69 ⊢; exact (far_at (V.2.2.2.2.1 k n_16)).1 c_69)
        | exact K85 n_16 _ ex5_25 _ (by rw [ex6_38, back1]) _ (by rw [ex7_51, back1]) _ ex8_63 _ (by rw [ex7_51, ex6_38, back1, back1] at c_69 ⊢; exact (far_at (V.2.2.2.2.1 k n_16)).2 c_69)
  refine g_aload_n F 0 dL_holds_0 rfl rfl ?_
  refine g_iconst (v := 1) F dL_holds_1 (by decide) ?_
  refine g_callIv (na := 1) F 8 _ (c_X5_count hj C) (by decide) rfl rfl lk_L_12 rfl rfl (by decide +kernel) ⟨rfl, rfl, Nat.le_of_ble_eq_true rfl, Nat.le_of_ble_eq_true rfl, Nat.le_of_ble_eq_true rfl, Nat.le_of_ble_eq_true rfl, Nat.le_of_ble_eq_true rfl⟩ dL_holds_2 (fun r_2 u_2 h_2 => ?_)
  obtain ⟨rfl, rfl⟩ := h_2
  try dsimp only
  rw [cnt_1]
  refine g_topi (fun x1_5 ex1_5 => ?_)
  refine g_istore_n (L' := [(1, _), (0, _)]) F dL_holds_5 rfl (by decide) rfl ?_
  refine g_iconst (v := 0) F dL_holds_6 (by decide) ?_
  refine g_istore_n (L' := [(2, _), (1, _), (0, _)]) F dL_holds_7 rfl (by decide) rfl ?_
  refine g_iconst (v := 0) F dL_holds_8 (by decide) ?_
  refine g_istore_n (L' := [(3, _), (2, _), (1, _), (0, _)]) F dL_holds_9 rfl (by decide) rfl ?_
  refine g_iconst (v := 0) F dL_holds_10 (by decide) ?_
  refine g_istore (L' := [(4, _), (3, _), (2, _), (1, _), (0, _)]) F dL_holds_11 (by decide) rfl ?_
  refine g_sub [4, 3, 2, 1, 0] rfl ?_
  exact L1 0 (Nat.zero_le _) _ rfl (0 : Int32) (fun r _ h2 => by have := S.1 r h2; have e0 : (0 : Int32).toInt = 0 := rfl; omega) _ rfl _ (by first | exact ex1_5.trans e6 | exact e6) _ _ C
