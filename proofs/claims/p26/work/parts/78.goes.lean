/-! PART 78: goesBySpeed -/
theorem pas_one {k : Nat} {σ : Sg} {q : Int32 × Sg} (J : Jv k σ) (hk : k < 99999) (H : pasR 1 σ q) : q.2 = tickS (nof σ) (hof σ) σ ∧ ¬ q.1 < 0 := by
  have d5 := J.2.2.2.2.2.2.2.1
  have d6 := J.2.2.2.2.2.2.2.2
  have e1 : (1 : Int32).toInt = 1 := rfl
  have e9 : (99999 : Int32).toInt = 99999 := rfl
  have en : (1 : Int32).toInt.toNat = 1 := rfl
  have a0 : (σ 0 + 1).toInt = (σ 0).toInt + 1 := Kit.i32_add (by omega) (by omega)
  rcases H with ⟨a, -⟩ | ⟨-, a, -⟩ | ⟨-, -, rfl⟩
  · exact absurd (by decide) a
  · have := i_lt.mp a
    omega
  · rw [en]
    obtain ⟨m, hm, e⟩ := it_cnt (nof σ) (hof σ) σ 1
    exact ⟨rfl, by show ¬ (itS (nof σ) (hof σ) σ 1).2 < 0; rw [e]; exact nneg (by omega)⟩
theorem push_top {hn : Nat} {hist : Nat → Sg} {σ : Sg} (h : hn ≤ 6) : 0 < pushN hn ∧ pushH hn hist σ (pushN hn - 1) = σ := by
  unfold pushN pushH
  by_cases c : hn < 6
  · rw [if_pos c, if_pos c]
    exact ⟨by omega, if_pos (by omega)⟩
  · rw [if_neg c, if_neg c]
    exact ⟨by decide, if_pos rfl⟩
set_option maxHeartbeats 4000000 in
set_option maxRecDepth 100000 in
theorem c_L_goes {l : Launch} {G : Gm} (hj : Aj G) {I : Ii} {pm : Pm} {k0 r0 : Nat} {a : Int32} {σ : Sg} {hn : Nat} {hist : Nat → Sg} {sv : Nat → Int32} {sl : Nat → Sg} {pl : Nat} {pad : Sg} (C : CR I pm σ hn hist sv sl pl pad) (J : Jv k0 σ) (hk : k0 < 99999) (hr0 : r0 < nof σ) (ha : a = σ (16 + 11 * r0)) : CI l G yL_goesBySpeed (wz yL_goesBySpeed cL_goesBySpeed 11 (some .boolean)) (rmL 7) [.ref (G.2.2 8 0), .int a] I pm (fun r u => r = 1 ∧ ∃ hn' hist', CR u.1 u.2 σ hn' hist' sv sl pl pad) := by
  refine CI.walk hj (by decide +kernel) (by show _ ≤ 11; exact Nat.le_of_ble_eq_true rfl) ?_
  intro p e s m args below meth c F hr hlk
  have V := J.1
  have S := J.2.1
  have e7 : σ 7 = nI (hof σ) := V.2.2.1
  have hh20 : hof σ ≤ 20 := V.2.2.2.1
  have L := V.2.2.2.2.1 r0 hr0
  obtain ⟨l1, l2, l3, l4, l5, l6, l7⟩ := id L
  have J2 : Jw (nof σ) (hof σ - 1) (k0 + 1) (tickS (nof σ) (hof σ) σ) := Jw.tick J (by omega)
  have hn2 : nof (tickS (nof σ) (hof σ) σ) = nof σ := J2.1.nofe
  have ha2 : a = (tickS (nof σ) (hof σ) σ) (16 + 11 * r0) := by rw [tick_0 V hr0]; exact ha
  have oft : ∀ w, ofS σ a w = tldS σ r0 w := fun w => by rw [ha]; exact of_at hr0 S w
  have oft2 : ∀ w, ofS (tickS (nof σ) (hof σ) σ) a w = tldS (tickS (nof σ) (hof σ) σ) r0 w := fun w => by rw [ha2]; exact of_at (by rw [hn2]; exact hr0) (by rw [hn2]; exact J2.2.1) w
  have bt : blockS σ (σ (16 + 11 * r0 + 3) / 100) 0 = σ (8 + blkS σ r0) := by rw [blk_eq L, blk_at (blk_lt L), if_pos rfl]
  have hg := gain_bd l1.1 l1.2
  have hm0 : ¬ σ (16 + 11 * r0 + 1) = 0 := fun q => by rw [q] at l1; exact absurd l1.1 (by decide)
  have hh6 : hn ≤ 6 := C.2.2.2.1
  have K235 : ∀ I2 pm2, CR I2 pm2 (tickS (nof σ) (hof σ) σ) (pushN hn) (pushH hn hist σ) sv sl pl pad → GG p l e (rmL 7) s m args below meth c G (AA G) 11 0 0 (MQ below (va_Qi (fun (r : Int32) (u : Ii × Pm) => r = 1 ∧ ∃ hn' hist', CR u.1 u.2 σ hn' hist' sv sl pl pad) (fun (u : Ii × Pm) t => Wd G u.1 u.2 t.heap) (AA G)) args s 0 0 (AA G)) I2 pm2 [(0, .ref (G.2.2 8 0))] 235 [] := by
    intro I2 pm2 C2
    refine g_iconst (v := 1) F dL_goesBySpeed_235 (by decide) ?_
    refine g_goto F 240 dL_goesBySpeed_236 (by decide) ?_
    refine g_istore (L' := [(9, _), (0, _)]) F dL_goesBySpeed_240 (by decide) rfl ?_
    refine g_aload_n F 1 dL_goesBySpeed_242 rfl rfl ?_
    refine g_callIv (na := 0) F 8 _ (c_X5_undo hj C2) (by decide) rfl rfl lk_L_68 rfl rfl (by decide +kernel) ⟨rfl, rfl, Nat.le_of_ble_eq_true rfl, Nat.le_of_ble_eq_true rfl, Nat.le_of_ble_eq_true rfl, Nat.le_of_ble_eq_true rfl, Nat.le_of_ble_eq_true rfl⟩ dL_goesBySpeed_243 (fun r_243 u_243 h_243 => ?_)
    obtain ⟨p1, p2⟩ := push_top (hist := hist) (σ := σ) hh6
    have C3 : CR u_243.1 u_243.2 σ (pushN hn - 1) (pushH hn hist σ) sv sl pl pad := by
      rcases h_243 with ⟨z, -⟩ | ⟨-, -, z, -⟩
      · omega
      · rw [p2] at z
        exact z
    refine g_pop F dL_goesBySpeed_246 rfl ?_
    refine g_iload F 0 dL_goesBySpeed_247 rfl ?_
    refine g_iret F hr hlk rfl dL_goesBySpeed_249 ?_
    exact ⟨rfl, _, _, C3⟩
  refine g_bipush (v := 10) F dL_goesBySpeed_0 (by decide) ?_
  refine g_aload_n F 0 dL_goesBySpeed_2 rfl rfl ?_
  refine g_iload_n F 1 dL_goesBySpeed_3 rfl rfl ?_
  refine g_iconst (v := 2) F dL_goesBySpeed_4 (by decide) ?_
  refine g_callIv (na := 2) F 8 _ (c_X5_of hj C) (by decide) rfl rfl lk_L_21 rfl rfl (by decide +kernel) ⟨rfl, rfl, Nat.le_of_ble_eq_true rfl, Nat.le_of_ble_eq_true rfl, Nat.le_of_ble_eq_true rfl, Nat.le_of_ble_eq_true rfl, Nat.le_of_ble_eq_true rfl⟩ dL_goesBySpeed_5 (fun r_5 u_5 h_5 => ?_)
  obtain ⟨rfl, rfl⟩ := h_5
  try dsimp only
  rw [oft, tld_2]
  refine g_imul F dL_goesBySpeed_8 ?_
  refine g_aload_n F 0 dL_goesBySpeed_9 rfl rfl ?_
  refine g_iload_n F 1 dL_goesBySpeed_10 rfl rfl ?_
  refine g_iconst (v := 3) F dL_goesBySpeed_11 (by decide) ?_
  refine g_callIv (na := 2) F 8 _ (c_X5_of hj C) (by decide) rfl rfl lk_L_21 rfl rfl (by decide +kernel) ⟨rfl, rfl, Nat.le_of_ble_eq_true rfl, Nat.le_of_ble_eq_true rfl, Nat.le_of_ble_eq_true rfl, Nat.le_of_ble_eq_true rfl, Nat.le_of_ble_eq_true rfl⟩ dL_goesBySpeed_12 (fun r_12 u_12 h_12 => ?_)
  obtain ⟨rfl, rfl⟩ := h_12
  try dsimp only
  rw [oft, tld_3]
  refine g_iadd F dL_goesBySpeed_15 ?_
  refine g_sipush (v := 8000) F dL_goesBySpeed_16 (by decide) ?_
  refine g_aload_n F 0 dL_goesBySpeed_19 rfl rfl ?_
  refine g_iload_n F 1 dL_goesBySpeed_20 rfl rfl ?_
  refine g_bipush (v := 11) F dL_goesBySpeed_21 (by decide) ?_
  refine g_callIv (na := 2) F 8 _ (c_X5_of hj C) (by decide) rfl rfl lk_L_21 rfl rfl (by decide +kernel) ⟨rfl, rfl, Nat.le_of_ble_eq_true rfl, Nat.le_of_ble_eq_true rfl, Nat.le_of_ble_eq_true rfl, Nat.le_of_ble_eq_true rfl, Nat.le_of_ble_eq_true rfl⟩ dL_goesBySpeed_23 (fun r_23 u_23 h_23 => ?_)
  obtain ⟨rfl, rfl⟩ := h_23
  try dsimp only
  rw [oft, tld_11]
  refine g_sipush (v := 1000) F dL_goesBySpeed_26 (by decide) ?_
  refine g_isub F dL_goesBySpeed_29 ?_
  refine g_imul F dL_goesBySpeed_30 ?_
  refine g_iadd F dL_goesBySpeed_31 ?_
  refine g_topi (fun x2_32 ex2_32 => ?_)
  refine g_istore_n (L' := [(2, _), (0, _), (1, _)]) F dL_goesBySpeed_32 rfl (by decide) rfl ?_
  refine g_aload_n F 1 dL_goesBySpeed_33 rfl rfl ?_
  refine g_iload_n F 2 dL_goesBySpeed_34 rfl rfl ?_
  refine g_iconst (v := 4) F dL_goesBySpeed_35 (by decide) ?_
  refine g_callIv (na := 2) F 8 _ (c_X5_of hj C) (by decide) rfl rfl lk_L_21 rfl rfl (by decide +kernel) ⟨rfl, rfl, Nat.le_of_ble_eq_true rfl, Nat.le_of_ble_eq_true rfl, Nat.le_of_ble_eq_true rfl, Nat.le_of_ble_eq_true rfl, Nat.le_of_ble_eq_true rfl⟩ dL_goesBySpeed_36 (fun r_36 u_36 h_36 => ?_)
  obtain ⟨rfl, rfl⟩ := h_36
  try dsimp only
  rw [oft, tld_4]
  refine g_topi (fun x3_39 ex3_39 => ?_)
  refine g_istore_n (L' := [(3, _), (2, _), (0, _), (1, _)]) F dL_goesBySpeed_39 rfl (by decide) rfl ?_
  refine g_aload_n F 2 dL_goesBySpeed_40 rfl rfl ?_
  refine g_aload_n F 2 dL_goesBySpeed_41 rfl rfl ?_
  refine g_iload_n F 3 dL_goesBySpeed_42 rfl rfl ?_
  refine g_bipush (v := 9) F dL_goesBySpeed_43 (by decide) ?_
  refine g_callIv (na := 2) F 8 _ (c_X5_of hj C) (by decide) rfl rfl lk_L_21 rfl rfl (by decide +kernel) ⟨rfl, rfl, Nat.le_of_ble_eq_true rfl, Nat.le_of_ble_eq_true rfl, Nat.le_of_ble_eq_true rfl, Nat.le_of_ble_eq_true rfl, Nat.le_of_ble_eq_true rfl⟩ dL_goesBySpeed_45 (fun r_45 u_45 h_45 => ?_)
  obtain ⟨rfl, rfl⟩ := h_45
  try dsimp only
  rw [oft, tld_9]
  refine g_iconst (v := 0) F dL_goesBySpeed_48 (by decide) ?_
  refine g_callIv (na := 2) F 8 _ (c_X5_block hj C) (by decide) rfl rfl lk_L_28 rfl rfl (by decide +kernel) ⟨rfl, rfl, Nat.le_of_ble_eq_true rfl, Nat.le_of_ble_eq_true rfl, Nat.le_of_ble_eq_true rfl, Nat.le_of_ble_eq_true rfl, Nat.le_of_ble_eq_true rfl⟩ dL_goesBySpeed_49 (fun r_49 u_49 h_49 => ?_)
  obtain ⟨rfl, rfl⟩ := h_49
  try dsimp only
  rw [bt]
  refine g_tif_le (0) (1) 60 (fun kt kf => ?_) ?_
  · refine g_if_le F 59 dL_goesBySpeed_52 (by decide) (fun q => ?_) (fun q => ?_)
    · refine g_iconst (v := 0) F dL_goesBySpeed_59 (by decide) ?_
      exact kt q
    · refine g_iconst (v := 1) F dL_goesBySpeed_55 (by decide) ?_
      refine g_goto F 60 dL_goesBySpeed_56 (by decide) ?_
      exact kf (by first | exact q | exact not_not_intro q)
  refine g_topi (fun x4_60 ex4_60 => ?_)
  refine g_istore (L' := [(4, _), (3, _), (2, _), (0, _), (1, _)]) F dL_goesBySpeed_60 (by decide) rfl ?_
  refine g_aload_n F 3 dL_goesBySpeed_62 rfl rfl ?_
  refine g_iconst (v := 2) F dL_goesBySpeed_63 (by decide) ?_
  refine g_callIv (na := 1) F 8 _ (c_X5_count hj C) (by decide) rfl rfl lk_L_12 rfl rfl (by decide +kernel) ⟨rfl, rfl, Nat.le_of_ble_eq_true rfl, Nat.le_of_ble_eq_true rfl, Nat.le_of_ble_eq_true rfl, Nat.le_of_ble_eq_true rfl, Nat.le_of_ble_eq_true rfl⟩ dL_goesBySpeed_64 (fun r_64 u_64 h_64 => ?_)
  obtain ⟨rfl, rfl⟩ := h_64
  try dsimp only
  rw [cnt_2]
  refine g_tif_ne (0) (1) 75 (fun kt kf => ?_) ?_
  · refine g_if_ne F 74 dL_goesBySpeed_67 (by decide) (fun q => ?_) (fun q => ?_)
    · refine g_iconst (v := 0) F dL_goesBySpeed_74 (by decide) ?_
      exact kt q
    · refine g_iconst (v := 1) F dL_goesBySpeed_70 (by decide) ?_
      refine g_goto F 75 dL_goesBySpeed_71 (by decide) ?_
      exact kf (by first | exact q | exact not_not_intro q)
  refine g_topi (fun x5_75 ex5_75 => ?_)
  refine g_istore (L' := [(5, _), (4, _), (3, _), (2, _), (0, _), (1, _)]) F dL_goesBySpeed_75 (by decide) rfl ?_
  refine g_aload_n F 4 dL_goesBySpeed_77 rfl rfl ?_
  refine g_iload_n F 5 dL_goesBySpeed_78 rfl rfl ?_
  refine g_iconst (v := 5) F dL_goesBySpeed_79 (by decide) ?_
  refine g_callIv (na := 2) F 8 _ (c_X5_of hj C) (by decide) rfl rfl lk_L_21 rfl rfl (by decide +kernel) ⟨rfl, rfl, Nat.le_of_ble_eq_true rfl, Nat.le_of_ble_eq_true rfl, Nat.le_of_ble_eq_true rfl, Nat.le_of_ble_eq_true rfl, Nat.le_of_ble_eq_true rfl⟩ dL_goesBySpeed_80 (fun r_80 u_80 h_80 => ?_)
  obtain ⟨rfl, rfl⟩ := h_80
  try dsimp only
  rw [oft, tld_5]
  refine g_topi (fun x6_83 ex6_83 => ?_)
  refine g_istore (L' := [(6, _), (5, _), (4, _), (3, _), (2, _), (0, _), (1, _)]) F dL_goesBySpeed_83 (by decide) rfl ?_
  refine g_aload_n F 5 dL_goesBySpeed_85 rfl rfl ?_
  refine g_iconst (v := 1) F dL_goesBySpeed_86 (by decide) ?_
  refine g_callIv (na := 1) F 8 _ (c_X5_pass hj C) (by decide) rfl rfl lk_L_59 rfl rfl (by decide +kernel) ⟨rfl, rfl, Nat.le_of_ble_eq_true rfl, Nat.le_of_ble_eq_true rfl, Nat.le_of_ble_eq_true rfl, Nat.le_of_ble_eq_true rfl, Nat.le_of_ble_eq_true rfl⟩ dL_goesBySpeed_87 (fun r_87 u_87 h_87 => ?_)
  obtain ⟨q, hq, -, hCH, -⟩ := h_87
  have hτ := pas_one J hk hq
  have C2 : CR u_87.1 u_87.2 (tickS (nof σ) (hof σ) σ) (pushN hn) (pushH hn hist σ) sv sl pl pad := by
    rcases hCH with ⟨b, -⟩ | ⟨-, b⟩
    · exact absurd b hτ.2
    · rw [← hτ.1]
      exact b
  refine g_pop F dL_goesBySpeed_90 rfl ?_
  refine g_bipush (v := 10) F dL_goesBySpeed_91 (by decide) ?_
  refine g_aload_n F 5 dL_goesBySpeed_93 rfl rfl ?_
  refine g_iload_n F 6 dL_goesBySpeed_94 rfl rfl ?_
  refine g_iconst (v := 2) F dL_goesBySpeed_95 (by decide) ?_
  refine g_callIv (na := 2) F 8 _ (c_X5_of hj C2) (by decide) rfl rfl lk_L_21 rfl rfl (by decide +kernel) ⟨rfl, rfl, Nat.le_of_ble_eq_true rfl, Nat.le_of_ble_eq_true rfl, Nat.le_of_ble_eq_true rfl, Nat.le_of_ble_eq_true rfl, Nat.le_of_ble_eq_true rfl⟩ dL_goesBySpeed_96 (fun r_96 u_96 h_96 => ?_)
  obtain ⟨rfl, rfl⟩ := h_96
  try dsimp only
  rw [oft2, tld_2]
  refine g_imul F dL_goesBySpeed_99 ?_
  refine g_aload_n F 5 dL_goesBySpeed_100 rfl rfl ?_
  refine g_iload_n F 6 dL_goesBySpeed_101 rfl rfl ?_
  refine g_iconst (v := 3) F dL_goesBySpeed_102 (by decide) ?_
  refine g_callIv (na := 2) F 8 _ (c_X5_of hj C2) (by decide) rfl rfl lk_L_21 rfl rfl (by decide +kernel) ⟨rfl, rfl, Nat.le_of_ble_eq_true rfl, Nat.le_of_ble_eq_true rfl, Nat.le_of_ble_eq_true rfl, Nat.le_of_ble_eq_true rfl, Nat.le_of_ble_eq_true rfl⟩ dL_goesBySpeed_103 (fun r_103 u_103 h_103 => ?_)
  obtain ⟨rfl, rfl⟩ := h_103
  try dsimp only
  rw [oft2, tld_3]
  refine g_iadd F dL_goesBySpeed_106 ?_
  refine g_sipush (v := 8000) F dL_goesBySpeed_107 (by decide) ?_
  refine g_aload_n F 5 dL_goesBySpeed_110 rfl rfl ?_
  refine g_iload_n F 6 dL_goesBySpeed_111 rfl rfl ?_
  refine g_bipush (v := 11) F dL_goesBySpeed_112 (by decide) ?_
  refine g_callIv (na := 2) F 8 _ (c_X5_of hj C2) (by decide) rfl rfl lk_L_21 rfl rfl (by decide +kernel) ⟨rfl, rfl, Nat.le_of_ble_eq_true rfl, Nat.le_of_ble_eq_true rfl, Nat.le_of_ble_eq_true rfl, Nat.le_of_ble_eq_true rfl, Nat.le_of_ble_eq_true rfl⟩ dL_goesBySpeed_114 (fun r_114 u_114 h_114 => ?_)
  obtain ⟨rfl, rfl⟩ := h_114
  try dsimp only
  rw [oft2, tld_11]
  refine g_sipush (v := 1000) F dL_goesBySpeed_117 (by decide) ?_
  refine g_isub F dL_goesBySpeed_120 ?_
  refine g_imul F dL_goesBySpeed_121 ?_
  refine g_iadd F dL_goesBySpeed_122 ?_
  refine g_topi (fun x7_123 ex7_123 => ?_)
  refine g_istore (L' := [(7, _), (6, _), (5, _), (4, _), (3, _), (2, _), (0, _), (1, _)]) F dL_goesBySpeed_123 (by decide) rfl ?_
  refine g_aload_n F 6 dL_goesBySpeed_125 rfl rfl ?_
  refine g_iload_n F 7 dL_goesBySpeed_126 rfl rfl ?_
  refine g_iconst (v := 4) F dL_goesBySpeed_127 (by decide) ?_
  refine g_callIv (na := 2) F 8 _ (c_X5_of hj C2) (by decide) rfl rfl lk_L_21 rfl rfl (by decide +kernel) ⟨rfl, rfl, Nat.le_of_ble_eq_true rfl, Nat.le_of_ble_eq_true rfl, Nat.le_of_ble_eq_true rfl, Nat.le_of_ble_eq_true rfl, Nat.le_of_ble_eq_true rfl⟩ dL_goesBySpeed_128 (fun r_128 u_128 h_128 => ?_)
  obtain ⟨rfl, rfl⟩ := h_128
  try dsimp only
  rw [oft2, tld_4]
  refine g_topi (fun x8_131 ex8_131 => ?_)
  refine g_istore (L' := [(8, _), (7, _), (6, _), (5, _), (4, _), (3, _), (2, _), (0, _), (1, _)]) F dL_goesBySpeed_131 (by decide) rfl ?_
  refine g_iload F 1 dL_goesBySpeed_133 rfl ?_
  refine g_iload_n F 6 dL_goesBySpeed_135 rfl rfl ?_
  refine g_isub F dL_goesBySpeed_136 ?_
  refine g_iload F 0 dL_goesBySpeed_137 rfl ?_
  refine g_sipush (v := 1000) F dL_goesBySpeed_139 (by decide) ?_
  refine g_isub F dL_goesBySpeed_142 ?_
  refine g_icmp_ne F 163 dL_goesBySpeed_143 (by decide) (fun c_143 => ?_) (fun c_143 => ?_)
  · exact absurd (by rw [ex7_123, ex2_32, ex8_131]; exact tick_go V hr0) c_143
  · refine g_iload F 4 dL_goesBySpeed_146 rfl ?_
    refine g_if_eq F 159 dL_goesBySpeed_148 (by decide) (fun c_148 => ?_) (fun c_148 => ?_)
    · refine g_iconst (v := 1) F dL_goesBySpeed_159 (by decide) ?_
      refine g_goto F 164 dL_goesBySpeed_160 (by decide) ?_
      refine g_istore (L' := [(9, _), (8, _), (7, _), (6, _), (5, _), (4, _), (3, _), (2, _), (0, _), (1, _)]) F dL_goesBySpeed_164 (by decide) rfl ?_
      refine g_bipush (v := 60) F dL_goesBySpeed_166 (by decide) ?_
      refine g_aload_n F 8 dL_goesBySpeed_168 rfl rfl ?_
      refine g_iload_n F 9 dL_goesBySpeed_169 rfl rfl ?_
      refine g_iconst (v := 0) F dL_goesBySpeed_170 (by decide) ?_
      refine g_callIv (na := 2) F 8 _ (c_X5_of hj C2) (by decide) rfl rfl lk_L_21 rfl rfl (by decide +kernel) ⟨rfl, rfl, Nat.le_of_ble_eq_true rfl, Nat.le_of_ble_eq_true rfl, Nat.le_of_ble_eq_true rfl, Nat.le_of_ble_eq_true rfl, Nat.le_of_ble_eq_true rfl⟩ dL_goesBySpeed_171 (fun r_171 u_171 h_171 => ?_)
      obtain ⟨rfl, rfl⟩ := h_171
      try dsimp only
      rw [oft2, tld_0, tick_1 V hr0]
      refine g_idiv F dL_goesBySpeed_174 hm0 ?_
      refine g_topi (fun x10_175 ex10_175 => ?_)
      refine g_istore (L' := [(10, _), (9, _), (8, _), (7, _), (6, _), (5, _), (4, _), (3, _), (2, _), (0, _), (1, _)]) F dL_goesBySpeed_175 (by decide) rfl ?_
      have SPK : x4_60 = 0 → ¬ x5_75 = 0 → (x8_131 - x3_39 ≤ x10_175) ∧ (x3_39 - x8_131 ≤ x10_175) ∧ (x8_131 = x6_83 ∨ x8_131 - x3_39 = x10_175 ∨ x3_39 - x8_131 = x10_175) := by
        intro h4 h5
        have hd : ¬ 0 < σ (8 + blkS σ r0) := fun q => by rw [ex4_60, if_neg (Int32.not_le.mpr q)] at h4; exact absurd h4 (by decide)
        have hh : hof σ = 0 := by
          by_cases z : σ 7 = 0
          · rw [e7] at z
            exact (nI_eq (a := hof σ) (b := 0) (by omega) (by decide)).mp z
          · rw [ex5_75, if_pos z] at h5
            exact absurd rfl h5
        have hq5 : tickS (nof σ) (hof σ) σ (16 + 11 * r0 + 5) = spdM (σ (16 + 11 * r0 + 1)) (σ (16 + 11 * r0 + 2)) (σ (16 + 11 * r0 + 6)) (σ (16 + 11 * r0 + 7)) (σ (16 + 11 * r0 + 5)) := by rw [hh]; exact tick_quiet hr0 hd
        rw [ex8_131, ex3_39, ex10_175, ex6_83]
        exact spd_ok l1.1 l1.2 l2.1 l2.2 l6.1 l6.2 l5.1 l5.2 hq5
      refine g_iload F 1 dL_goesBySpeed_177 rfl ?_
      refine g_if_eq F 239 dL_goesBySpeed_179 (by decide) (fun c_179 => ?_) (fun c_179 => ?_)
      · have n_179 := nx_eqt (a := 1) (b := 0) rfl rfl (by omega) (by omega) c_179
        exact absurd c_179 (by decide)
      · have n_179 := nx_eqf (a := 1) (b := 0) rfl rfl (by omega) (by omega) c_179
        refine g_iload F 6 dL_goesBySpeed_182 rfl ?_
        refine g_if_ne F 235 dL_goesBySpeed_184 (by decide) (fun c_184 => ?_) (fun c_184 => ?_)
        · refine g_sub [9] rfl ?_
          exact K235 _ _ C2
        · refine g_iload F 5 dL_goesBySpeed_187 rfl ?_
          refine g_if_eq F 235 dL_goesBySpeed_189 (by decide) (fun c_189 => ?_) (fun c_189 => ?_)
          · refine g_sub [9] rfl ?_
            exact K235 _ _ C2
          · refine g_iload F 2 dL_goesBySpeed_192 rfl ?_
            refine g_iload_n F 7 dL_goesBySpeed_194 rfl rfl ?_
            refine g_isub F dL_goesBySpeed_195 ?_
            refine g_iload F 0 dL_goesBySpeed_196 rfl ?_
            refine g_icmp_gt F 239 dL_goesBySpeed_198 (by decide) (fun c_198 => ?_) (fun c_198 => ?_)
            · exact absurd c_198 (Int32.not_lt.mpr (SPK c_184 c_189).1)
            · refine g_iload_n F 7 dL_goesBySpeed_201 rfl rfl ?_
              refine g_iload F 2 dL_goesBySpeed_202 rfl ?_
              refine g_isub F dL_goesBySpeed_204 ?_
              refine g_iload F 0 dL_goesBySpeed_205 rfl ?_
              refine g_icmp_gt F 239 dL_goesBySpeed_207 (by decide) (fun c_207 => ?_) (fun c_207 => ?_)
              · exact absurd c_207 (Int32.not_lt.mpr (SPK c_184 c_189).2.1)
              · refine g_iload F 2 dL_goesBySpeed_210 rfl ?_
                refine g_iload F 4 dL_goesBySpeed_212 rfl ?_
                refine g_icmp_eq F 235 dL_goesBySpeed_214 (by decide) (fun c_214 => ?_) (fun c_214 => ?_)
                · refine g_sub [9] rfl ?_
                  exact K235 _ _ C2
                · refine g_iload F 2 dL_goesBySpeed_217 rfl ?_
                  refine g_iload_n F 7 dL_goesBySpeed_219 rfl rfl ?_
                  refine g_isub F dL_goesBySpeed_220 ?_
                  refine g_iload F 0 dL_goesBySpeed_221 rfl ?_
                  refine g_icmp_eq F 235 dL_goesBySpeed_223 (by decide) (fun c_223 => ?_) (fun c_223 => ?_)
                  · refine g_sub [9] rfl ?_
                    exact K235 _ _ C2
                  · refine g_iload_n F 7 dL_goesBySpeed_226 rfl rfl ?_
                    refine g_iload F 2 dL_goesBySpeed_227 rfl ?_
                    refine g_isub F dL_goesBySpeed_229 ?_
                    refine g_iload F 0 dL_goesBySpeed_230 rfl ?_
                    refine g_icmp_ne F 239 dL_goesBySpeed_232 (by decide) (fun c_232 => ?_) (fun c_232 => ?_)
                    · exact ((SPK c_184 c_189).2.2.elim c_214 (fun z => z.elim c_223 c_232)).elim
                    · refine g_sub [9] rfl ?_
                      exact K235 _ _ C2
    · refine g_iload F 0 dL_goesBySpeed_151 rfl ?_
      refine g_sipush (v := 1000) F dL_goesBySpeed_153 (by decide) ?_
      refine g_icmp_ne F 163 dL_goesBySpeed_156 (by decide) (fun c_156 => ?_) (fun c_156 => ?_)
      · exact absurd (by
          have hd : 0 < σ (8 + blkS σ r0) := Decidable.by_contra fun q => c_148 (by rw [ex4_60, if_pos (Int32.not_lt.mp q)])
          rw [ex8_131, tick_dark V hr0 hd]; decide) c_156
      · refine g_iconst (v := 1) F dL_goesBySpeed_159 (by decide) ?_
        refine g_goto F 164 dL_goesBySpeed_160 (by decide) ?_
        refine g_istore (L' := [(9, _), (8, _), (7, _), (6, _), (5, _), (4, _), (3, _), (2, _), (0, _), (1, _)]) F dL_goesBySpeed_164 (by decide) rfl ?_
        refine g_bipush (v := 60) F dL_goesBySpeed_166 (by decide) ?_
        refine g_aload_n F 8 dL_goesBySpeed_168 rfl rfl ?_
        refine g_iload_n F 9 dL_goesBySpeed_169 rfl rfl ?_
        refine g_iconst (v := 0) F dL_goesBySpeed_170 (by decide) ?_
        refine g_callIv (na := 2) F 8 _ (c_X5_of hj C2) (by decide) rfl rfl lk_L_21 rfl rfl (by decide +kernel) ⟨rfl, rfl, Nat.le_of_ble_eq_true rfl, Nat.le_of_ble_eq_true rfl, Nat.le_of_ble_eq_true rfl, Nat.le_of_ble_eq_true rfl, Nat.le_of_ble_eq_true rfl⟩ dL_goesBySpeed_171 (fun r_171 u_171 h_171 => ?_)
        obtain ⟨rfl, rfl⟩ := h_171
        try dsimp only
        rw [oft2, tld_0, tick_1 V hr0]
        refine g_idiv F dL_goesBySpeed_174 hm0 ?_
        refine g_topi (fun x10_175 ex10_175 => ?_)
        refine g_istore (L' := [(10, _), (9, _), (8, _), (7, _), (6, _), (5, _), (4, _), (3, _), (2, _), (0, _), (1, _)]) F dL_goesBySpeed_175 (by decide) rfl ?_
        have SPK : x4_60 = 0 → ¬ x5_75 = 0 → (x8_131 - x3_39 ≤ x10_175) ∧ (x3_39 - x8_131 ≤ x10_175) ∧ (x8_131 = x6_83 ∨ x8_131 - x3_39 = x10_175 ∨ x3_39 - x8_131 = x10_175) := by
          intro h4 h5
          have hd : ¬ 0 < σ (8 + blkS σ r0) := fun q => by rw [ex4_60, if_neg (Int32.not_le.mpr q)] at h4; exact absurd h4 (by decide)
          have hh : hof σ = 0 := by
            by_cases z : σ 7 = 0
            · rw [e7] at z
              exact (nI_eq (a := hof σ) (b := 0) (by omega) (by decide)).mp z
            · rw [ex5_75, if_pos z] at h5
              exact absurd rfl h5
          have hq5 : tickS (nof σ) (hof σ) σ (16 + 11 * r0 + 5) = spdM (σ (16 + 11 * r0 + 1)) (σ (16 + 11 * r0 + 2)) (σ (16 + 11 * r0 + 6)) (σ (16 + 11 * r0 + 7)) (σ (16 + 11 * r0 + 5)) := by rw [hh]; exact tick_quiet hr0 hd
          rw [ex8_131, ex3_39, ex10_175, ex6_83]
          exact spd_ok l1.1 l1.2 l2.1 l2.2 l6.1 l6.2 l5.1 l5.2 hq5
        refine g_iload F 1 dL_goesBySpeed_177 rfl ?_
        refine g_if_eq F 239 dL_goesBySpeed_179 (by decide) (fun c_179 => ?_) (fun c_179 => ?_)
        · have n_179 := nx_eqt (a := 1) (b := 0) rfl rfl (by omega) (by omega) c_179
          exact absurd c_179 (by decide)
        · have n_179 := nx_eqf (a := 1) (b := 0) rfl rfl (by omega) (by omega) c_179
          refine g_iload F 6 dL_goesBySpeed_182 rfl ?_
          refine g_if_ne F 235 dL_goesBySpeed_184 (by decide) (fun c_184 => ?_) (fun c_184 => ?_)
          · refine g_sub [9] rfl ?_
            exact K235 _ _ C2
          · refine g_iload F 5 dL_goesBySpeed_187 rfl ?_
            refine g_if_eq F 235 dL_goesBySpeed_189 (by decide) (fun c_189 => ?_) (fun c_189 => ?_)
            · refine g_sub [9] rfl ?_
              exact K235 _ _ C2
            · refine g_iload F 2 dL_goesBySpeed_192 rfl ?_
              refine g_iload_n F 7 dL_goesBySpeed_194 rfl rfl ?_
              refine g_isub F dL_goesBySpeed_195 ?_
              refine g_iload F 0 dL_goesBySpeed_196 rfl ?_
              refine g_icmp_gt F 239 dL_goesBySpeed_198 (by decide) (fun c_198 => ?_) (fun c_198 => ?_)
              · exact absurd c_198 (Int32.not_lt.mpr (SPK c_184 c_189).1)
              · refine g_iload_n F 7 dL_goesBySpeed_201 rfl rfl ?_
                refine g_iload F 2 dL_goesBySpeed_202 rfl ?_
                refine g_isub F dL_goesBySpeed_204 ?_
                refine g_iload F 0 dL_goesBySpeed_205 rfl ?_
                refine g_icmp_gt F 239 dL_goesBySpeed_207 (by decide) (fun c_207 => ?_) (fun c_207 => ?_)
                · exact absurd c_207 (Int32.not_lt.mpr (SPK c_184 c_189).2.1)
                · refine g_iload F 2 dL_goesBySpeed_210 rfl ?_
                  refine g_iload F 4 dL_goesBySpeed_212 rfl ?_
                  refine g_icmp_eq F 235 dL_goesBySpeed_214 (by decide) (fun c_214 => ?_) (fun c_214 => ?_)
                  · refine g_sub [9] rfl ?_
                    exact K235 _ _ C2
                  · refine g_iload F 2 dL_goesBySpeed_217 rfl ?_
                    refine g_iload_n F 7 dL_goesBySpeed_219 rfl rfl ?_
                    refine g_isub F dL_goesBySpeed_220 ?_
                    refine g_iload F 0 dL_goesBySpeed_221 rfl ?_
                    refine g_icmp_eq F 235 dL_goesBySpeed_223 (by decide) (fun c_223 => ?_) (fun c_223 => ?_)
                    · refine g_sub [9] rfl ?_
                      exact K235 _ _ C2
                    · refine g_iload_n F 7 dL_goesBySpeed_226 rfl rfl ?_
                      refine g_iload F 2 dL_goesBySpeed_227 rfl ?_
                      refine g_isub F dL_goesBySpeed_229 ?_
                      refine g_iload F 0 dL_goesBySpeed_230 rfl ?_
                      refine g_icmp_ne F 239 dL_goesBySpeed_232 (by decide) (fun c_232 => ?_) (fun c_232 => ?_)
                      · exact ((SPK c_184 c_189).2.2.elim c_214 (fun z => z.elim c_223 c_232)).elim
                      · refine g_sub [9] rfl ?_
                        exact K235 _ _ C2
