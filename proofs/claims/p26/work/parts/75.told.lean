/-! PART 75: low, cell, told -/
set_option maxHeartbeats 4000000 in
set_option maxRecDepth 100000 in
theorem c_L_low {l : Launch} {G : Gm} (hj : Aj G) {I : Ii} {pm : Pm} {x n : Int32} (hn : ¬ n = 0) : CI l G yL_low (wz yL_low cL_low 2 (some .int)) (rmL 0) [.int x, .int n] I pm (fun r u => r = lowF x n ∧ u = (I, pm)) := by
  refine CI.walk hj (by decide +kernel) (by show _ ≤ 2; exact Nat.le_of_ble_eq_true rfl) ?_
  intro p e s m args below meth c F hr hlk
  refine g_iload_n F 0 dL_low_0 rfl rfl ?_
  refine g_ldc F mCN_L_7 dL_low_1 ?_
  refine g_iand F dL_low_3 ?_
  refine g_iload_n F 1 dL_low_4 rfl rfl ?_
  refine g_irem F dL_low_5 hn ?_
  refine g_iret F hr hlk rfl dL_low_6 ?_
  exact ⟨rfl, rfl⟩
set_option maxHeartbeats 4000000 in
theorem c_L_cell {l : Launch} {G : Gm} (hj : Aj G) {I : Ii} {pm : Pm} {b N k : Nat} {xs : Nat → Int32} {x : Int32} (ex : x = nI k) (hk : k < 1000) : CS l G yL_cell (wz yL_cell cL_cell 2 (some .int)) (rmL 0) [.ref b, .int x] I pm b N xs (fun _ u => u = (I, pm)) := by
  refine CS.walk hj (by decide +kernel) (by show _ ≤ 2; exact Nat.le_of_ble_eq_true rfl) ?_
  intro p e s m args below meth c F C hr hlk
  refine g_iload_n F 1 dL_cell_0 rfl rfl ?_
  refine g_aload_n F 0 dL_cell_1 rfl rfl ?_
  refine g_slen F C dL_cell_2 ?_
  refine g_icmp_ge F 12 dL_cell_3 (by decide) (fun c_3 => ?_) (fun c_3 => ?_)
  · have n1 := nx_get (a := k) (b := N) ex rfl (by omega) (by have := C.2.2.2; omega) c_3
    refine g_sipush (v := 7919) F dL_cell_12 (by decide) ?_
    refine g_iload_n F 1 dL_cell_15 rfl rfl ?_
    refine g_iconst (v := 3) F dL_cell_16 (by decide) ?_
    refine g_iadd F dL_cell_17 ?_
    refine g_imul F dL_cell_18 ?_
    refine g_iload_n F 1 dL_cell_19 rfl rfl ?_
    refine g_bipush (v := 11) F dL_cell_20 (by decide) ?_
    refine g_iadd F dL_cell_22 ?_
    refine g_imul F dL_cell_23 ?_
    refine g_iret F hr hlk rfl dL_cell_24 ?_
    exact rfl
  · have n1 := nx_gef (a := k) (b := N) ex rfl (by omega) (by have := C.2.2.2; omega) c_3
    refine g_aload_n F 0 dL_cell_6 rfl rfl ?_
    refine g_iload_n F 1 dL_cell_7 rfl rfl ?_
    refine g_sld F C ex n1 dL_cell_8 ?_
    refine g_goto F 24 dL_cell_9 (by decide) ?_
    exact g_iret F hr hlk rfl dL_cell_24 rfl
set_option maxHeartbeats 4000000 in
set_option maxRecDepth 100000 in
theorem c_L_told {l : Launch} {G : Gm} (hj : Aj G) {I : Ii} {pm : Pm} {σ : Sg} {hn : Nat} {hist : Nat → Sg} {sv : Nat → Int32} {sl : Nat → Sg} {pl : Nat} {pad : Sg} (C : CR I pm σ hn hist sv sl pl pad) : CL l G yL_told (wz yL_told cL_told 6 (some .long)) (rmL 4) [.ref (G.2.2 8 0)] I pm (fun r u => r = tolS σ ∧ u = (I, pm)) := by
  refine CL.walk hj (by decide +kernel) (by show _ ≤ 6; exact Nat.le_of_ble_eq_true rfl) ?_
  intro p e s m args below meth c F hr hlk
  obtain ⟨n, h, R, V⟩ := id C.1
  have hn8 : nof σ ≤ 8 := by rw [V.nofe]; exact V.2.1
  have hh20 : hof σ ≤ 20 := by rw [V.hofe]; exact V.2.2.2.1
  have e6 : σ 6 = nI (nof σ) := by rw [V.nofe]; exact V.1
  have e7 : σ 7 = nI (hof σ) := by rw [V.hofe]; exact V.2.2.1
  have L5 : ∀ j, j ≤ 8 → ∀ xj, xj = nI j → ∀ y : Int64, y = fo (fun b => blockS σ (nI b) 0) j (tl3 σ) → GG p l e (rmL 4) s m args below meth c G (AA G) 6 0 0 (MQ below (va_Ql (fun (r : Int64) (u : Ii × Pm) => r = tolS σ ∧ u = (I, pm)) (fun (u : Ii × Pm) t => Wd G u.1 u.2 t.heap) (AA G)) args s 0 0 (AA G)) I pm [(0, .ref (G.2.2 8 0)), (1, .long y), (3, .int xj)] 146 [] := by
    refine dn_ind ?_
    intro j hjl ih xj ej y ey
    refine g_iload_n F 2 dL_told_146 rfl rfl ?_
    refine g_bipush (v := 8) F dL_told_147 (by decide) ?_
    refine g_icmp_ge F 172 dL_told_149 (by decide) (fun c_149 => ?_) (fun c_149 => ?_)
    · have n_149 := nx_get (a := j) (b := 8) ej rfl (by omega) (by omega) c_149
      refine g_lload_n F 1 dL_told_172 rfl rfl ?_
      refine g_lret F hr hlk dL_told_173 ?_
      obtain rfl : j = 8 := by omega
      exact ⟨ey, rfl⟩
    · have n_149 := nx_gef (a := j) (b := 8) ej rfl (by omega) (by omega) c_149
      refine g_ldc2 F mCN_L_10 dL_told_152 ?_
      refine g_lload_n F 1 dL_told_155 rfl rfl ?_
      refine g_lmul F dL_told_156 ?_
      refine g_aload_n F 0 dL_told_157 rfl rfl ?_
      refine g_iload_n F 2 dL_told_158 rfl rfl ?_
      refine g_iconst (v := 0) F dL_told_159 (by decide) ?_
      refine g_callIv (na := 2) F 8 _ (c_X5_block hj C) (by decide) rfl rfl lk_L_28 rfl rfl (by decide +kernel) ⟨rfl, rfl, Nat.le_of_ble_eq_true rfl, Nat.le_of_ble_eq_true rfl, Nat.le_of_ble_eq_true rfl, Nat.le_of_ble_eq_true rfl, Nat.le_of_ble_eq_true rfl⟩ dL_told_160 (fun r_160 u_160 h_160 => ?_)
      obtain ⟨rfl, rfl⟩ := h_160
      try dsimp only
      refine g_i2l F dL_told_163 ?_
      refine g_ladd F dL_told_164 ?_
      refine g_lstore_n (L' := [(1, _), (0, _), (3, _)]) F dL_told_165 rfl (by decide) rfl ?_
      refine g_iincC (q := 1) (L' := [(3, _), (1, _), (0, _)]) F 2 dL_told_166 (by decide) rfl (by decide) rfl ?_
      refine g_goto F 146 dL_told_169 (by decide) ?_
      refine g_sub [2, 1, 0] rfl ?_
      exact ih (by omega) _ (nx_add ej rfl) _ (by rw [ey, ej]; rfl)
  have L4 : ∀ k, k ≤ hof σ → ∀ xk, xk = nI k → ∀ y : Int64, y = fl (tl3f σ) k (tl2 σ) → GG p l e (rmL 4) s m args below meth c G (AA G) 6 0 0 (MQ below (va_Ql (fun (r : Int64) (u : Ii × Pm) => r = tolS σ ∧ u = (I, pm)) (fun (u : Ii × Pm) t => Wd G u.1 u.2 t.heap) (AA G)) args s 0 0 (AA G)) I pm [(0, .ref (G.2.2 8 0)), (1, .long y), (3, .int xk)] 99 [] := by
    refine dn_ind ?_
    intro k hkl ih xk ek y ey
    have L4i : k < hof σ → ∀ j, j ≤ 3 → ∀ xj, xj = nI j → ∀ z : Int64, z = fo (fun j => waitS (hof σ) σ (nI k) (nI j)) j y → GG p l e (rmL 4) s m args below meth c G (AA G) 6 0 0 (MQ below (va_Ql (fun (r : Int64) (u : Ii × Pm) => r = tolS σ ∧ u = (I, pm)) (fun (u : Ii × Pm) t => Wd G u.1 u.2 t.heap) (AA G)) args s 0 0 (AA G)) I pm [(0, .ref (G.2.2 8 0)), (1, .long z), (3, .int xk), (4, .int xj)] 111 [] := by
      intro hk
      refine dn_ind ?_
      intro j hjl ih2 xj ej z ez
      refine g_iload F 3 dL_told_111 rfl ?_
      refine g_iconst (v := 3) F dL_told_113 (by decide) ?_
      refine g_icmp_ge F 138 dL_told_114 (by decide) (fun c_114 => ?_) (fun c_114 => ?_)
      · have n_114 := nx_get (a := j) (b := 3) ej rfl (by omega) (by omega) c_114
        refine g_iincC (q := 1) (L' := [(3, _), (0, _), (1, _), (4, _)]) F 2 dL_told_138 (by decide) rfl (by decide) rfl ?_
        refine g_goto F 99 dL_told_141 (by decide) ?_
        refine g_sub [1, 2, 0] rfl ?_
        obtain rfl : j = 3 := by omega
        exact ih (by omega) _ (nx_add ek rfl) _ (by rw [ez, ey]; rfl)
      · have n_114 := nx_gef (a := j) (b := 3) ej rfl (by omega) (by omega) c_114
        refine g_ldc2 F mCN_L_10 dL_told_117 ?_
        refine g_lload_n F 1 dL_told_120 rfl rfl ?_
        refine g_lmul F dL_told_121 ?_
        refine g_aload_n F 0 dL_told_122 rfl rfl ?_
        refine g_iload_n F 2 dL_told_123 rfl rfl ?_
        refine g_iload F 3 dL_told_124 rfl ?_
        refine g_callIv (na := 2) F 8 _ (c_X5_waiting hj C) (by decide) rfl rfl lk_L_25 rfl rfl (by decide +kernel) ⟨rfl, rfl, Nat.le_of_ble_eq_true rfl, Nat.le_of_ble_eq_true rfl, Nat.le_of_ble_eq_true rfl, Nat.le_of_ble_eq_true rfl, Nat.le_of_ble_eq_true rfl⟩ dL_told_126 (fun r_126 u_126 h_126 => ?_)
        obtain ⟨rfl, rfl⟩ := h_126
        try dsimp only
        refine g_i2l F dL_told_129 ?_
        refine g_ladd F dL_told_130 ?_
        refine g_lstore_n (L' := [(1, _), (0, _), (3, _), (4, _)]) F dL_told_131 rfl (by decide) rfl ?_
        refine g_iincC (q := 1) (L' := [(4, _), (1, _), (0, _), (3, _)]) F 3 dL_told_132 (by decide) rfl (by decide) rfl ?_
        refine g_goto F 111 dL_told_135 (by decide) ?_
        refine g_sub [2, 1, 3, 0] rfl ?_
        exact ih2 (by omega) _ (nx_add ej rfl) _ (by rw [ez, ej, ek]; rfl)
    refine g_iload_n F 2 dL_told_99 rfl rfl ?_
    refine g_aload_n F 0 dL_told_100 rfl rfl ?_
    refine g_iconst (v := 2) F dL_told_101 (by decide) ?_
    refine g_callIv (na := 1) F 8 _ (c_X5_count hj C) (by decide) rfl rfl lk_L_12 rfl rfl (by decide +kernel) ⟨rfl, rfl, Nat.le_of_ble_eq_true rfl, Nat.le_of_ble_eq_true rfl, Nat.le_of_ble_eq_true rfl, Nat.le_of_ble_eq_true rfl, Nat.le_of_ble_eq_true rfl⟩ dL_told_102 (fun r_102 u_102 h_102 => ?_)
    obtain ⟨rfl, rfl⟩ := h_102
    try dsimp only
    rw [cnt_2]
    refine g_icmp_ge F 144 dL_told_105 (by decide) (fun c_105 => ?_) (fun c_105 => ?_)
    · have n_105 := nx_get (a := k) (b := hof σ) ek e7 (by omega) (by omega) c_105
      refine g_iconst (v := 0) F dL_told_144 (by decide) ?_
      refine g_istore_n (L' := [(3, _), (0, _), (1, _)]) F dL_told_145 rfl (by decide) rfl ?_
      refine g_sub [1, 2, 0] rfl ?_
      obtain rfl : k = hof σ := by omega
      exact L5 0 (by decide) _ rfl _ ey
    · have n_105 := nx_gef (a := k) (b := hof σ) ek e7 (by omega) (by omega) c_105
      refine g_iconst (v := 0) F dL_told_108 (by decide) ?_
      refine g_istore (L' := [(4, _), (0, _), (1, _), (3, _)]) F dL_told_109 (by decide) rfl ?_
      refine g_sub [1, 2, 3, 0] rfl ?_
      exact L4i n_105 0 (by decide) _ rfl _ rfl
  have L2 : ∀ k, k ≤ nof σ → ∀ xk, xk = nI k → ∀ y : Int64, y = fl (tl2f σ) k (tl1 σ) → GG p l e (rmL 4) s m args below meth c G (AA G) 6 0 0 (MQ below (va_Ql (fun (r : Int64) (u : Ii × Pm) => r = tolS σ ∧ u = (I, pm)) (fun (u : Ii × Pm) t => Wd G u.1 u.2 t.heap) (AA G)) args s 0 0 (AA G)) I pm [(0, .ref (G.2.2 8 0)), (1, .long y), (3, .int xk)] 33 [] := by
    refine dn_ind ?_
    intro k hkl ih xk ek y ey
    have L2i : k < nof σ → ∀ xa, xa = adrS σ (nI k) → ∀ j, j ≤ 12 → ∀ xj, xj = nI j → ∀ z : Int64, z = fo (fun j => ofS σ (adrS σ (nI k)) (nI j)) j (31 * y + (adrS σ (nI k)).toInt64) → GG p l e (rmL 4) s m args below meth c G (AA G) 6 0 0 (MQ below (va_Ql (fun (r : Int64) (u : Ii × Pm) => r = tolS σ ∧ u = (I, pm)) (fun (u : Ii × Pm) t => Wd G u.1 u.2 t.heap) (AA G)) args s 0 0 (AA G)) I pm [(0, .ref (G.2.2 8 0)), (1, .long z), (3, .int xk), (4, .int xa), (5, .int xj)] 62 [] := by
      intro hk xa ea
      refine dn_ind ?_
      intro j hjl ih2 xj ej z ez
      refine g_iload F 4 dL_told_62 rfl ?_
      refine g_bipush (v := 12) F dL_told_64 (by decide) ?_
      refine g_icmp_ge F 91 dL_told_66 (by decide) (fun c_66 => ?_) (fun c_66 => ?_)
      · have n_66 := nx_get (a := j) (b := 12) ej rfl (by omega) (by omega) c_66
        refine g_iincC (q := 1) (L' := [(3, _), (0, _), (1, _), (4, _), (5, _)]) F 2 dL_told_91 (by decide) rfl (by decide) rfl ?_
        refine g_goto F 33 dL_told_94 (by decide) ?_
        refine g_sub [1, 2, 0] rfl ?_
        obtain rfl : j = 12 := by omega
        exact ih (by omega) _ (nx_add ek rfl) _ (by rw [ez, ey]; rfl)
      · have n_66 := nx_gef (a := j) (b := 12) ej rfl (by omega) (by omega) c_66
        refine g_ldc2 F mCN_L_10 dL_told_69 ?_
        refine g_lload_n F 1 dL_told_72 rfl rfl ?_
        refine g_lmul F dL_told_73 ?_
        refine g_aload_n F 0 dL_told_74 rfl rfl ?_
        refine g_iload F 3 dL_told_75 rfl ?_
        refine g_iload F 4 dL_told_77 rfl ?_
        refine g_callIv (na := 2) F 8 _ (c_X5_of hj C) (by decide) rfl rfl lk_L_21 rfl rfl (by decide +kernel) ⟨rfl, rfl, Nat.le_of_ble_eq_true rfl, Nat.le_of_ble_eq_true rfl, Nat.le_of_ble_eq_true rfl, Nat.le_of_ble_eq_true rfl, Nat.le_of_ble_eq_true rfl⟩ dL_told_79 (fun r_79 u_79 h_79 => ?_)
        obtain ⟨rfl, rfl⟩ := h_79
        try dsimp only
        refine g_i2l F dL_told_82 ?_
        refine g_ladd F dL_told_83 ?_
        refine g_lstore_n (L' := [(1, _), (0, _), (3, _), (4, _), (5, _)]) F dL_told_84 rfl (by decide) rfl ?_
        refine g_iincC (q := 1) (L' := [(5, _), (1, _), (0, _), (3, _), (4, _)]) F 4 dL_told_85 (by decide) rfl (by decide) rfl ?_
        refine g_goto F 62 dL_told_88 (by decide) ?_
        refine g_sub [2, 1, 3, 4, 0] rfl ?_
        exact ih2 (by omega) _ (nx_add ej rfl) _ (by rw [ez, ej, ea]; rfl)
    refine g_iload_n F 2 dL_told_33 rfl rfl ?_
    refine g_aload_n F 0 dL_told_34 rfl rfl ?_
    refine g_iconst (v := 1) F dL_told_35 (by decide) ?_
    refine g_callIv (na := 1) F 8 _ (c_X5_count hj C) (by decide) rfl rfl lk_L_12 rfl rfl (by decide +kernel) ⟨rfl, rfl, Nat.le_of_ble_eq_true rfl, Nat.le_of_ble_eq_true rfl, Nat.le_of_ble_eq_true rfl, Nat.le_of_ble_eq_true rfl, Nat.le_of_ble_eq_true rfl⟩ dL_told_36 (fun r_36 u_36 h_36 => ?_)
    obtain ⟨rfl, rfl⟩ := h_36
    try dsimp only
    rw [cnt_1]
    refine g_icmp_ge F 97 dL_told_39 (by decide) (fun c_39 => ?_) (fun c_39 => ?_)
    · have n_39 := nx_get (a := k) (b := nof σ) ek e6 (by omega) (by omega) c_39
      refine g_iconst (v := 0) F dL_told_97 (by decide) ?_
      refine g_istore_n (L' := [(3, _), (0, _), (1, _)]) F dL_told_98 rfl (by decide) rfl ?_
      refine g_sub [1, 2, 0] rfl ?_
      obtain rfl : k = nof σ := by omega
      exact L4 0 (Nat.zero_le _) _ rfl _ ey
    · have n_39 := nx_gef (a := k) (b := nof σ) ek e6 (by omega) (by omega) c_39
      refine g_aload_n F 0 dL_told_42 rfl rfl ?_
      refine g_iload_n F 2 dL_told_43 rfl rfl ?_
      refine g_callIv (na := 1) F 8 _ (c_X5_address hj C) (by decide) rfl rfl lk_L_18 rfl rfl (by decide +kernel) ⟨rfl, rfl, Nat.le_of_ble_eq_true rfl, Nat.le_of_ble_eq_true rfl, Nat.le_of_ble_eq_true rfl, Nat.le_of_ble_eq_true rfl, Nat.le_of_ble_eq_true rfl⟩ dL_told_44 (fun r_44 u_44 h_44 => ?_)
      obtain ⟨rfl, rfl⟩ := h_44
      try dsimp only
      refine g_topi (fun x4_47 ex4_47 => ?_)
      refine g_istore (L' := [(4, _), (0, _), (1, _), (3, _)]) F dL_told_47 (by decide) rfl ?_
      refine g_ldc2 F mCN_L_10 dL_told_49 ?_
      refine g_lload_n F 2 dL_told_52 rfl rfl ?_
      refine g_lmul F dL_told_53 ?_
      refine g_iload F 0 dL_told_54 rfl ?_
      refine g_i2l F dL_told_56 ?_
      refine g_ladd F dL_told_57 ?_
      refine g_lstore_n (L' := [(1, _), (4, _), (0, _), (3, _)]) F dL_told_58 rfl (by decide) rfl ?_
      refine g_iconst (v := 0) F dL_told_59 (by decide) ?_
      refine g_istore (L' := [(5, _), (1, _), (4, _), (0, _), (3, _)]) F dL_told_60 (by decide) rfl ?_
      refine g_sub [3, 1, 4, 2, 0] rfl ?_
      exact L2i n_39 _ (by rw [ex4_47, ek]) 0 (by decide) _ rfl _ (by rw [ex4_47, ek]; rfl)
  have L1 : ∀ j, j ≤ 10 → ∀ xj, xj = nI j → ∀ y : Int64, y = fo (fun j => cntS σ 0 0 (nI j)) j 3 → GG p l e (rmL 4) s m args below meth c G (AA G) 6 0 0 (MQ below (va_Ql (fun (r : Int64) (u : Ii × Pm) => r = tolS σ ∧ u = (I, pm)) (fun (u : Ii × Pm) t => Wd G u.1 u.2 t.heap) (AA G)) args s 0 0 (AA G)) I pm [(0, .ref (G.2.2 8 0)), (1, .long y), (3, .int xj)] 6 [] := by
    refine dn_ind ?_
    intro j hjl ih xj ej y ey
    refine g_iload_n F 2 dL_told_6 rfl rfl ?_
    refine g_bipush (v := 10) F dL_told_7 (by decide) ?_
    refine g_icmp_ge F 31 dL_told_9 (by decide) (fun c_9 => ?_) (fun c_9 => ?_)
    · have n_9 := nx_get (a := j) (b := 10) ej rfl (by omega) (by omega) c_9
      refine g_iconst (v := 0) F dL_told_31 (by decide) ?_
      refine g_istore_n (L' := [(3, _), (0, _), (1, _)]) F dL_told_32 rfl (by decide) rfl ?_
      refine g_sub [1, 2, 0] rfl ?_
      obtain rfl : j = 10 := by omega
      exact L2 0 (Nat.zero_le _) _ rfl _ ey
    · have n_9 := nx_gef (a := j) (b := 10) ej rfl (by omega) (by omega) c_9
      refine g_ldc2 F mCN_L_10 dL_told_12 ?_
      refine g_lload_n F 1 dL_told_15 rfl rfl ?_
      refine g_lmul F dL_told_16 ?_
      refine g_aload_n F 0 dL_told_17 rfl rfl ?_
      refine g_iload_n F 2 dL_told_18 rfl rfl ?_
      refine g_callIv (na := 1) F 8 _ (c_X5_count hj C) (by decide) rfl rfl lk_L_12 rfl rfl (by decide +kernel) ⟨rfl, rfl, Nat.le_of_ble_eq_true rfl, Nat.le_of_ble_eq_true rfl, Nat.le_of_ble_eq_true rfl, Nat.le_of_ble_eq_true rfl, Nat.le_of_ble_eq_true rfl⟩ dL_told_19 (fun r_19 u_19 h_19 => ?_)
      obtain ⟨rfl, rfl⟩ := h_19
      try dsimp only
      refine g_i2l F dL_told_22 ?_
      refine g_ladd F dL_told_23 ?_
      refine g_lstore_n (L' := [(1, _), (0, _), (3, _)]) F dL_told_24 rfl (by decide) rfl ?_
      refine g_iincC (q := 1) (L' := [(3, _), (1, _), (0, _)]) F 2 dL_told_25 (by decide) rfl (by decide) rfl ?_
      refine g_goto F 6 dL_told_28 (by decide) ?_
      refine g_sub [2, 1, 0] rfl ?_
      exact ih (by omega) _ (nx_add ej rfl) _ (by rw [ey, ej, cnt_lo n_9]; rfl)
  refine g_ldc2 F mCN_L_8 dL_told_0 ?_
  refine g_lstore_n (L' := [(1, _), (0, _)]) F dL_told_3 rfl (by decide) rfl ?_
  refine g_iconst (v := 0) F dL_told_4 (by decide) ?_
  refine g_istore_n (L' := [(3, _), (1, _), (0, _)]) F dL_told_5 rfl (by decide) rfl ?_
  refine g_sub [2, 1, 0] rfl ?_
  exact L1 0 (Nat.zero_le _) _ rfl _ rfl
