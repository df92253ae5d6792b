/-! PART 31: the reference: a tick, its records -/
def dpA (h : Nat) (σ : Sg) (j : Nat) : Sg := fun i => if i = 7 then nI (h - 1) else if 104 ≤ i ∧ i < 104 + j then σ (i + 3) else σ i
def dpB (h : Nat) (σ : Sg) (j : Nat) : Sg := fun i => if i = 7 then nI (h - 1) else if 104 ≤ i ∧ i < 104 + 3 * (h - 1) then σ (i + 3) else if 104 + 3 * (h - 1) ≤ i ∧ i < 104 + 3 * (h - 1) + j then 0 else σ i
theorem dpA_0 {h : Nat} {σ : Sg} {v : Int32} (e : v = nI (h - 1)) : upd σ 7 v = dpA h σ 0 := by
  funext i
  unfold dpA
  by_cases c : i = 7
  · rw [c, upd_s, if_pos rfl, e]
  · rw [upd_n c, if_neg c, if_neg (by omega)]
theorem dpA_s {h j : Nat} {σ : Sg} : upd (dpA h σ j) (104 + j) (dpA h σ j (104 + j + 3)) = dpA h σ (j + 1) := by
  funext i
  by_cases c : i = 104 + j
  · rw [c, upd_s]
    unfold dpA
    rw [if_neg (by omega), if_neg (by omega), if_neg (by omega), if_pos (by omega)]
  · rw [upd_n c]
    unfold dpA
    by_cases c7 : i = 7
    · rw [if_pos c7, if_pos c7]
    · rw [if_neg c7, if_neg c7]
      by_cases q : 104 ≤ i ∧ i < 104 + j
      · rw [if_pos q, if_pos (by omega)]
      · rw [if_neg q, if_neg (by omega)]
theorem dpB_0 {h : Nat} {σ : Sg} : dpA h σ (3 * (h - 1)) = dpB h σ 0 := by
  funext i
  unfold dpA dpB
  by_cases c7 : i = 7
  · rw [if_pos c7, if_pos c7]
  · rw [if_neg c7, if_neg c7]
    by_cases q : 104 ≤ i ∧ i < 104 + 3 * (h - 1)
    · rw [if_pos q, if_pos q]
    · rw [if_neg q, if_neg q, if_neg (by omega)]
theorem dpB_s {h j : Nat} {σ : Sg} : upd (dpB h σ j) (104 + 3 * (h - 1) + j) 0 = dpB h σ (j + 1) := by
  funext i
  by_cases c : i = 104 + 3 * (h - 1) + j
  · rw [c, upd_s]
    unfold dpB
    rw [if_neg (by omega), if_neg (by omega), if_pos (by omega)]
  · rw [upd_n c]
    unfold dpB
    by_cases c7 : i = 7
    · rw [if_pos c7, if_pos c7]
    · rw [if_neg c7, if_neg c7]
      by_cases q : 104 ≤ i ∧ i < 104 + 3 * (h - 1)
      · rw [if_pos q, if_pos q]
      · rw [if_neg q, if_neg q]
        by_cases z : 104 + 3 * (h - 1) ≤ i ∧ i < 104 + 3 * (h - 1) + j
        · rw [if_pos z, if_pos (by omega)]
        · rw [if_neg z, if_neg (by omega)]
theorem dpB_3 {h : Nat} {σ : Sg} (h1 : 1 ≤ h) : dpB h σ 3 = dropS h σ := by
  funext i
  unfold dpB dropS
  rw [show 104 + 3 * (h - 1) + 3 = 104 + 3 * h by omega]
def goesS (r : Nat) (τ : Sg) : Sg :=
  upd (upd (upd τ (16 + 11 * r + 10) (τ (16 + 11 * r + 10) + rndC (10 * τ (16 + 11 * r + 3) + τ (16 + 11 * r + 4) + τ (16 + 11 * r + 5)))) (16 + 11 * r + 3) ((10 * τ (16 + 11 * r + 3) + τ (16 + 11 * r + 4) + τ (16 + 11 * r + 5) + 8000) % 8000 / 10)) (16 + 11 * r + 4) ((10 * τ (16 + 11 * r + 3) + τ (16 + 11 * r + 4) + τ (16 + 11 * r + 5) + 8000) % 8000 % 10)
def spdJ (j : Nat) (τ : Sg) : Sg := fun i => if 16 ≤ i ∧ i < 16 + 11 * j ∧ (i - 16) % 11 = 5 then spdS τ ((i - 16) / 11) else τ i
theorem spdJ_0 {τ : Sg} : spdJ 0 τ = τ := by
  funext i
  unfold spdJ
  rw [if_neg (by omega)]
theorem spdJ_hi {j i : Nat} {τ : Sg} (h : i < 16 ∨ 16 + 11 * j ≤ i) : spdJ j τ i = τ i := by
  unfold spdJ
  rw [if_neg (by omega)]
theorem spdJ_spd {j : Nat} {τ : Sg} (hj : blkS τ j < 8) : spdS (spdJ j τ) j = spdS τ j := by
  have e : ∀ f, f < 11 → spdJ j τ (16 + 11 * j + f) = τ (16 + 11 * j + f) := fun f hf => spdJ_hi (by omega)
  have eb : blkS (spdJ j τ) j = blkS τ j := by
    unfold blkS
    rw [e 3 (by decide)]
  unfold spdS
  rw [eb, e 1 (by decide), e 2 (by decide), e 5 (by decide), e 6 (by decide), e 7 (by decide), spdJ_hi (i := 8 + blkS τ j) (by omega)]
theorem spdJ_s {j : Nat} {τ : Sg} (hj : blkS τ j < 8) : upd (spdJ j τ) (16 + 11 * j + 5) (spdS (spdJ j τ) j) = spdJ (j + 1) τ := by
  rw [spdJ_spd hj]
  funext i
  by_cases c : i = 16 + 11 * j + 5
  · rw [c, upd_s]
    unfold spdJ
    rw [if_pos (by omega)]
    congr 1
    omega
  · rw [upd_n c]
    unfold spdJ
    by_cases q : 16 ≤ i ∧ i < 16 + 11 * j ∧ (i - 16) % 11 = 5
    · rw [if_pos q, if_pos (by omega)]
    · rw [if_neg q, if_neg (by omega)]
def goJ (n j : Nat) (τ : Sg) : Sg := fun i => if 16 ≤ i ∧ i < 16 + 11 * j then drvS n τ i else spdJ n τ i
theorem goJ_0 {n : Nat} {τ : Sg} : spdJ n τ = goJ n 0 τ := by
  funext i
  unfold goJ
  rw [if_neg (by omega)]
theorem goJ_n {n : Nat} {τ : Sg} : goJ n n τ = drvS n τ := by
  funext i
  unfold goJ
  by_cases c : 16 ≤ i ∧ i < 16 + 11 * n
  · rw [if_pos c]
  · rw [if_neg c, spdJ_hi (by omega), drv_out (by omega)]
theorem goJ_s {n j : Nat} {τ : Sg} (hj : j < n) : goesS j (goJ n j τ) = goJ n (j + 1) τ := by
  have e : ∀ f, f < 11 → f ≠ 5 → goJ n j τ (16 + 11 * j + f) = τ (16 + 11 * j + f) := fun f hf h5 => by
    unfold goJ spdJ
    rw [if_neg (by omega), if_neg (by omega)]
  have e5 : goJ n j τ (16 + 11 * j + 5) = spdS τ j := by
    unfold goJ spdJ
    rw [if_neg (by omega), if_pos (by omega), show (16 + 11 * j + 5 - 16) / 11 = j by omega]
  have ex : 10 * goJ n j τ (16 + 11 * j + 3) + goJ n j τ (16 + 11 * j + 4) + goJ n j τ (16 + 11 * j + 5) = tenS τ j := by
    unfold tenS
    rw [e 3 (by decide) (by decide), e 4 (by decide) (by decide), e5]
  unfold goesS
  rw [ex, e 10 (by decide) (by decide)]
  funext i
  by_cases c : 16 + 11 * j ≤ i ∧ i < 16 + 11 * (j + 1)
  · obtain ⟨f, hf, rfl⟩ : ∃ f, f < 11 ∧ i = 16 + 11 * j + f := ⟨i - (16 + 11 * j), by omega, by omega⟩
    have er : goJ n (j + 1) τ (16 + 11 * j + f) = drvS n τ (16 + 11 * j + f) := if_pos (by omega)
    rw [er, drv_at hj hf]
    by_cases c4 : f = 4
    · rw [c4, upd_s]
      simp
    · rw [upd_n (by omega)]
      by_cases c3 : f = 3
      · rw [c3, upd_s]
        simp
      · rw [upd_n (by omega)]
        by_cases c10 : f = 10
        · rw [c10, upd_s]
          simp
        · rw [upd_n (by omega), if_neg c3, if_neg c4]
          by_cases c5 : f = 5
          · rw [c5, e5]
            simp
          · rw [if_neg c5, if_neg c10, e f hf c5]
  · rw [upd_n (by omega), upd_n (by omega), upd_n (by omega)]
    unfold goJ
    by_cases q : 16 ≤ i ∧ i < 16 + 11 * j
    · rw [if_pos q, if_pos (by omega)]
    · rw [if_neg q, if_neg (by omega)]
theorem ne0 {x : Int32} (h : 1 ≤ x.toInt) : x ≠ 0 := fun q => by
  rw [q] at h
  exact absurd h (by decide)

set_option maxHeartbeats 4000000 in
set_option maxRecDepth 100000 in
theorem c_X6_sends {l : Launch} {G : Gm} (hj : Aj G) {I : Ii} {pm : Pm} {σ : Sg} {n h : Nat} (V : Iv n h σ) : CI l G yX6_sends (wz yX6_sends cX6_sends 5 (some .int)) (rmL 4) [.ref (G.2.2 16 0)] (upR I 17 0 σ) pm (fun r u => r = (sendS n h σ).2 ∧ u = (upR I 17 0 (sendS n h σ).1, pm)) := by
  refine CI.walk hj (by decide +kernel) (by show _ ≤ 5; exact Nat.le_of_ble_eq_true rfl) ?_
  intro p e s m args below meth c F hr hlk
  have hn8 := V.2.1
  have hh20 := V.2.2.2.1
  have e7 := V.2.2.1
  have FIN : 1 ≤ h → ∀ x1 x2 x3, x1 = σ 104 → x2 = σ 105 → x3 = σ 104 ^^^ σ 105 → GG p l e (rmL 4) s m args below meth c G (AA G) 5 0 0 (MQ below (va_Qi (fun (r : Int32) (u : Ii × Pm) => r = (sendS n h σ).2 ∧ u = (upR I 17 0 (sendS n h σ).1, pm)) (fun (u : Ii × Pm) t => Wd G u.1 u.2 t.heap) (AA G)) args s 0 0 (AA G)) (upR I 17 0 (dropS h σ)) pm [(0, .ref (G.2.2 16 0)), (1, .int x1), (2, .int x2), (3, .int x3)] 124 [] := by
    intro h1 x1 x2 x3 e1 e2 e3
    have hb := V.2.2.2.2.2.2.2 0 h1
    have d1 : dropS h σ 1 = σ 1 := drop_lo (by decide) (by decide)
    have d2 : dropS h σ 2 = σ 2 := drop_lo (by decide) (by decide)
    have d5 : dropS h σ 5 = σ 5 := drop_lo (by decide) (by decide)
    have hne : ¬ h = 0 := by omega
    have VS := V.spoil h1
    have HD : 0 ≤ x2.toInt ∧ x2.toInt ≤ 255 := by rw [e2]; exact hb.2
    refine g_aload_n F 0 dX6_sends_124 rfl rfl ?_
    refine gf_16_1 F (by decide) mFL_X6_7 dX6_sends_125 ?_
    refine g_iconst (v := 1) F dX6_sends_128 (by decide) ?_
    refine ga_17 (j := 1) F (by decide) rfl (by omega) dX6_sends_129 ?_
    refine g_eqi rd17 ?_
    refine g_eqi d1 ?_
    refine g_if_le F 173 dX6_sends_130 (by decide) (fun c_130 => ?_) (fun c_130 => ?_)
    · have CC : ¬ (0 < σ 1 ∧ σ 1 ≤ σ 2) := fun q => Int32.not_lt.mpr c_130 q.1
      have ES : dropS h σ = spoilS σ h := by unfold spoilS; rw [if_neg CC]
      have EK : x3 = chkS σ := by rw [e3]; unfold chkS; rw [if_neg CC]
      refine g_I (congrArg (fun z => upR I 17 0 z) ES) ?_
      first
      | skip; have EK2 := EK
      | have ES2 : upd (upd (dropS h σ) 2 0) 5 (σ 5 + 1) = spoilS σ h := by unfold spoilS; rw [if_pos CC]
        have EK2 : x3_155 = chkS σ := by rw [ex3_155, e3]; unfold chkS; rw [if_pos CC]
        refine g_I (congrArg (fun z => upR I 17 0 z) ES2) ?_
      refine g_aload_n F 0 dX6_sends_173 rfl rfl ?_
      refine g_iload_n F 1 dX6_sends_174 rfl rfl ?_
      refine g_iload_n F 2 dX6_sends_175 rfl rfl ?_
      refine g_iload_n F 3 dX6_sends_176 rfl rfl ?_
      refine g_callIv (na := 3) F 16 _ (c_X6_comes hj VS HD) (by decide) rfl rfl lk_X6_66 rfl rfl (by decide +kernel) ⟨rfl, rfl, Nat.le_of_ble_eq_true rfl, Nat.le_of_ble_eq_true rfl, Nat.le_of_ble_eq_true rfl, Nat.le_of_ble_eq_true rfl, Nat.le_of_ble_eq_true rfl⟩ dX6_sends_177 (fun r_177 u_177 h_177 => ?_)
      obtain ⟨rfl, rfl⟩ := h_177
      try dsimp only
      refine g_pop F dX6_sends_180 rfl ?_
      refine g_iconst (v := 1) F dX6_sends_181 (by decide) ?_
      refine g_iret F hr hlk rfl dX6_sends_182 ?_
      unfold sendS
      rw [if_neg hne, EK2, e1, e2]
      exact ⟨rfl, rfl⟩
    · refine g_aload_n F 0 dX6_sends_133 rfl rfl ?_
      refine gf_16_1 F (by decide) mFL_X6_7 dX6_sends_134 ?_
      refine g_iconst (v := 2) F dX6_sends_137 (by decide) ?_
      refine ga_17 (j := 2) F (by decide) rfl (by omega) dX6_sends_138 ?_
      refine g_eqi rd17 ?_
      refine g_eqi d2 ?_
      refine g_aload_n F 0 dX6_sends_139 rfl rfl ?_
      refine gf_16_1 F (by decide) mFL_X6_7 dX6_sends_140 ?_
      refine g_iconst (v := 1) F dX6_sends_143 (by decide) ?_
      refine ga_17 (j := 1) F (by decide) rfl (by omega) dX6_sends_144 ?_
      refine g_eqi rd17 ?_
      refine g_eqi d1 ?_
      refine g_icmp_lt F 173 dX6_sends_145 (by decide) (fun c_145 => ?_) (fun c_145 => ?_)
      · have CC : ¬ (0 < σ 1 ∧ σ 1 ≤ σ 2) := fun q => Int32.not_le.mpr c_145 q.2
        have ES : dropS h σ = spoilS σ h := by unfold spoilS; rw [if_neg CC]
        have EK : x3 = chkS σ := by rw [e3]; unfold chkS; rw [if_neg CC]
        refine g_I (congrArg (fun z => upR I 17 0 z) ES) ?_
        first
        | skip; have EK2 := EK
        | have ES2 : upd (upd (dropS h σ) 2 0) 5 (σ 5 + 1) = spoilS σ h := by unfold spoilS; rw [if_pos CC]
          have EK2 : x3_155 = chkS σ := by rw [ex3_155, e3]; unfold chkS; rw [if_pos CC]
          refine g_I (congrArg (fun z => upR I 17 0 z) ES2) ?_
        refine g_aload_n F 0 dX6_sends_173 rfl rfl ?_
        refine g_iload_n F 1 dX6_sends_174 rfl rfl ?_
        refine g_iload_n F 2 dX6_sends_175 rfl rfl ?_
        refine g_iload_n F 3 dX6_sends_176 rfl rfl ?_
        refine g_callIv (na := 3) F 16 _ (c_X6_comes hj VS HD) (by decide) rfl rfl lk_X6_66 rfl rfl (by decide +kernel) ⟨rfl, rfl, Nat.le_of_ble_eq_true rfl, Nat.le_of_ble_eq_true rfl, Nat.le_of_ble_eq_true rfl, Nat.le_of_ble_eq_true rfl, Nat.le_of_ble_eq_true rfl⟩ dX6_sends_177 (fun r_177 u_177 h_177 => ?_)
        obtain ⟨rfl, rfl⟩ := h_177
        try dsimp only
        refine g_pop F dX6_sends_180 rfl ?_
        refine g_iconst (v := 1) F dX6_sends_181 (by decide) ?_
        refine g_iret F hr hlk rfl dX6_sends_182 ?_
        unfold sendS
        rw [if_neg hne, EK2, e1, e2]
        exact ⟨rfl, rfl⟩
      · have CC : 0 < σ 1 ∧ σ 1 ≤ σ 2 := ⟨Int32.not_le.mp c_130, Int32.not_lt.mp c_145⟩
        refine g_iload_n F 3 dX6_sends_148 rfl rfl ?_
        refine g_iconst (v := 1) F dX6_sends_149 (by decide) ?_
        refine g_iadd F dX6_sends_150 ?_
        refine g_sipush (v := 256) F dX6_sends_151 (by decide) ?_
        refine g_irem F dX6_sends_154 (by decide) ?_
        refine g_topi (fun x3_155 ex3_155 => ?_)
        refine g_istore_n (L' := [(3, _), (0, _), (1, _), (2, _)]) F dX6_sends_155 rfl (by decide) rfl ?_
        refine g_aload_n F 1 dX6_sends_156 rfl rfl ?_
        refine gf_16_1 F (by decide) mFL_X6_7 dX6_sends_157 ?_
        refine g_iconst (v := 2) F dX6_sends_160 (by decide) ?_
        refine g_iconst (v := 0) F dX6_sends_161 (by decide) ?_
        refine gs_17 (j := 2) F (by decide) rfl (by omega) dX6_sends_162 ?_
        refine g_I wr17 ?_
        refine g_aload_n F 1 dX6_sends_163 rfl rfl ?_
        refine gf_16_1 F (by decide) mFL_X6_7 dX6_sends_164 ?_
        refine g_iconst (v := 5) F dX6_sends_167 (by decide) ?_
        refine g_dup2 F dX6_sends_168 rfl rfl ?_
        refine ga_17 (j := 5) F (by decide) rfl (by omega) dX6_sends_169 ?_
        refine g_eqi rd17 ?_
        refine g_eqi ((upd_n (by decide)).trans d5) ?_
        refine g_iconst (v := 1) F dX6_sends_170 (by decide) ?_
        refine g_iadd F dX6_sends_171 ?_
        refine gs_17 (j := 5) F (by decide) rfl (by omega) dX6_sends_172 ?_
        refine g_I wr17 ?_
        first
        | skip; have EK2 := EK
        | have ES2 : upd (upd (dropS h σ) 2 0) 5 (σ 5 + 1) = spoilS σ h := by unfold spoilS; rw [if_pos CC]
          have EK2 : x3_155 = chkS σ := by rw [ex3_155, e3]; unfold chkS; rw [if_pos CC]
          refine g_I (congrArg (fun z => upR I 17 0 z) ES2) ?_
        refine g_aload_n F 1 dX6_sends_173 rfl rfl ?_
        refine g_iload_n F 2 dX6_sends_174 rfl rfl ?_
        refine g_iload_n F 3 dX6_sends_175 rfl rfl ?_
        refine g_iload_n F 0 dX6_sends_176 rfl rfl ?_
        refine g_callIv (na := 3) F 16 _ (c_X6_comes hj VS HD) (by decide) rfl rfl lk_X6_66 rfl rfl (by decide +kernel) ⟨rfl, rfl, Nat.le_of_ble_eq_true rfl, Nat.le_of_ble_eq_true rfl, Nat.le_of_ble_eq_true rfl, Nat.le_of_ble_eq_true rfl, Nat.le_of_ble_eq_true rfl⟩ dX6_sends_177 (fun r_177 u_177 h_177 => ?_)
        obtain ⟨rfl, rfl⟩ := h_177
        try dsimp only
        refine g_pop F dX6_sends_180 rfl ?_
        refine g_iconst (v := 1) F dX6_sends_181 (by decide) ?_
        refine g_iret F hr hlk rfl dX6_sends_182 ?_
        unfold sendS
        rw [if_neg hne, EK2, e1, e2]
        exact ⟨rfl, rfl⟩
  have LOOPB : 1 ≤ h → ∀ x1 x2 x3, x1 = σ 104 → x2 = σ 105 → x3 = σ 104 ^^^ σ 105 → ∀ j, j ≤ 3 → ∀ xj, xj = nI j → GG p l e (rmL 4) s m args below meth c G (AA G) 5 0 0 (MQ below (va_Qi (fun (r : Int32) (u : Ii × Pm) => r = (sendS n h σ).2 ∧ u = (upR I 17 0 (sendS n h σ).1, pm)) (fun (u : Ii × Pm) t => Wd G u.1 u.2 t.heap) (AA G)) args s 0 0 (AA G)) (upR I 17 0 (dpB h σ j)) pm [(0, .ref (G.2.2 16 0)), (1, .int x1), (2, .int x2), (3, .int x3), (4, .int xj)] 91 [] := by
    intro h1 x1 x2 x3 e1 e2 e3
    refine dn_ind ?_
    intro j hj3 ih xj ej
    have b7 : dpB h σ j 7 = nI (h - 1) := if_pos rfl
    refine g_iload F 4 dX6_sends_91 rfl ?_
    refine g_iconst (v := 3) F dX6_sends_93 (by decide) ?_
    refine g_icmp_ge F 124 dX6_sends_94 (by decide) (fun c_94 => ?_) (fun c_94 => ?_)
    · have n_94 := nx_get (a := j) (b := 3) ej rfl (by omega) (by omega) c_94
      refine g_sub [0, 1, 2, 3] rfl ?_
      refine g_I (congrArg (fun z => upR I 17 0 z) (show dpB h σ j = dropS h σ by rw [show j = 3 by omega]; exact dpB_3 h1)) ?_
      exact FIN h1 _ _ _ e1 e2 e3
    · have n_94 := nx_gef (a := j) (b := 3) ej rfl (by omega) (by omega) c_94
      refine g_aload_n F 0 dX6_sends_97 rfl rfl ?_
      refine gf_16_1 F (by decide) mFL_X6_7 dX6_sends_98 ?_
      refine g_bipush (v := 104) F dX6_sends_101 (by decide) ?_
      refine g_iconst (v := 3) F dX6_sends_103 (by decide) ?_
      refine g_aload_n F 0 dX6_sends_104 rfl rfl ?_
      refine gf_16_1 F (by decide) mFL_X6_7 dX6_sends_105 ?_
      refine g_bipush (v := 7) F dX6_sends_108 (by decide) ?_
      refine ga_17 (j := 7) F (by decide) rfl (by omega) dX6_sends_110 ?_
      refine g_eqi rd17 ?_
      refine g_imul F dX6_sends_111 ?_
      refine g_iadd F dX6_sends_112 ?_
      refine g_iload F 4 dX6_sends_113 rfl ?_
      refine g_iadd F dX6_sends_115 ?_
      refine g_iconst (v := 0) F dX6_sends_116 (by decide) ?_
      refine gs_17 (j := ((104 + (3 * (h - 1))) + j)) F (by decide) (nx_add (nx_add rfl (nx_mul rfl b7)) ej) (by omega) dX6_sends_117 ?_
      refine g_I wr17 ?_
      refine g_iincC (q := 1) (L' := [(4, _), (0, _), (1, _), (2, _), (3, _)]) F 4 dX6_sends_118 (by decide) rfl (by decide) rfl ?_
      refine g_goto F 91 dX6_sends_121 (by decide) ?_
      refine g_sub [1, 2, 3, 4, 0] rfl ?_
      refine g_I (congrArg (fun z => upR I 17 0 z) dpB_s) ?_
      exact ih (by omega) _ (nx_add ej rfl)
  have LOOPA : 1 ≤ h → ∀ x1 x2 x3, x1 = σ 104 → x2 = σ 105 → x3 = σ 104 ^^^ σ 105 → ∀ j, j ≤ 3 * (h - 1) → ∀ xj, xj = nI j → GG p l e (rmL 4) s m args below meth c G (AA G) 5 0 0 (MQ below (va_Qi (fun (r : Int32) (u : Ii × Pm) => r = (sendS n h σ).2 ∧ u = (upR I 17 0 (sendS n h σ).1, pm)) (fun (u : Ii × Pm) t => Wd G u.1 u.2 t.heap) (AA G)) args s 0 0 (AA G)) (upR I 17 0 (dpA h σ j)) pm [(0, .ref (G.2.2 16 0)), (1, .int x1), (2, .int x2), (3, .int x3), (4, .int xj)] 46 [] := by
    intro h1 x1 x2 x3 e1 e2 e3
    refine dn_ind ?_
    intro j hj3 ih xj ej
    have b7 : dpA h σ j 7 = nI (h - 1) := if_pos rfl
    refine g_iload F 4 dX6_sends_46 rfl ?_
    refine g_iconst (v := 3) F dX6_sends_48 (by decide) ?_
    refine g_aload_n F 0 dX6_sends_49 rfl rfl ?_
    refine gf_16_1 F (by decide) mFL_X6_7 dX6_sends_50 ?_
    refine g_bipush (v := 7) F dX6_sends_53 (by decide) ?_
    refine ga_17 (j := 7) F (by decide) rfl (by omega) dX6_sends_55 ?_
    refine g_eqi rd17 ?_
    refine g_imul F dX6_sends_56 ?_
    refine g_icmp_ge F 88 dX6_sends_57 (by decide) (fun c_57 => ?_) (fun c_57 => ?_)
    · have n_57 := nx_get (a := j) (b := (3 * (h - 1))) ej (nx_mul rfl b7) (by omega) (by omega) c_57
      refine g_iconst (v := 0) F dX6_sends_88 (by decide) ?_
      refine g_istore (L' := [(4, _), (0, _), (1, _), (2, _), (3, _)]) F dX6_sends_89 (by decide) rfl ?_
      refine g_sub [1, 2, 3, 4, 0] rfl ?_
      refine g_I (congrArg (fun z => upR I 17 0 z) (show dpA h σ j = dpB h σ 0 by rw [show j = 3 * (h - 1) by omega]; exact dpB_0)) ?_
      exact LOOPB h1 _ _ _ e1 e2 e3 0 (by decide) _ (by first | rfl | assumption)
    · have n_57 := nx_gef (a := j) (b := (3 * (h - 1))) ej (nx_mul rfl b7) (by omega) (by omega) c_57
      refine g_aload_n F 0 dX6_sends_60 rfl rfl ?_
      refine gf_16_1 F (by decide) mFL_X6_7 dX6_sends_61 ?_
      refine g_bipush (v := 104) F dX6_sends_64 (by decide) ?_
      refine g_iload F 4 dX6_sends_66 rfl ?_
      refine g_iadd F dX6_sends_68 ?_
      refine g_aload_n F 0 dX6_sends_69 rfl rfl ?_
      refine gf_16_1 F (by decide) mFL_X6_7 dX6_sends_70 ?_
      refine g_bipush (v := 104) F dX6_sends_73 (by decide) ?_
      refine g_iload F 4 dX6_sends_75 rfl ?_
      refine g_iadd F dX6_sends_77 ?_
      refine g_iconst (v := 3) F dX6_sends_78 (by decide) ?_
      refine g_iadd F dX6_sends_79 ?_
      refine ga_17 (j := ((104 + j) + 3)) F (by decide) (nx_add (nx_add rfl ej) rfl) (by omega) dX6_sends_80 ?_
      refine g_eqi rd17 ?_
      refine gs_17 (j := (104 + j)) F (by decide) (nx_add rfl ej) (by omega) dX6_sends_81 ?_
      refine g_I wr17 ?_
      refine g_iincC (q := 1) (L' := [(4, _), (0, _), (1, _), (2, _), (3, _)]) F 4 dX6_sends_82 (by decide) rfl (by decide) rfl ?_
      refine g_goto F 46 dX6_sends_85 (by decide) ?_
      refine g_sub [1, 2, 3, 4, 0] rfl ?_
      refine g_I (congrArg (fun z => upR I 17 0 z) dpA_s) ?_
      exact ih (by omega) _ (nx_add ej rfl)
  refine g_aload_n F 0 dX6_sends_0 rfl rfl ?_
  refine gf_16_1 F (by decide) mFL_X6_7 dX6_sends_1 ?_
  refine g_bipush (v := 7) F dX6_sends_4 (by decide) ?_
  refine ga_17 (j := 7) F (by decide) rfl (by omega) dX6_sends_6 ?_
  refine g_eqi rd17 ?_
  refine g_if_ne F 12 dX6_sends_7 (by decide) (fun c_7 => ?_) (fun c_7 => ?_)
  · have n_7 := nx_net (a := h) (b := 0) e7 rfl (by omega) (by omega) c_7
    refine g_aload_n F 0 dX6_sends_12 rfl rfl ?_
    refine gf_16_1 F (by decide) mFL_X6_7 dX6_sends_13 ?_
    refine g_bipush (v := 104) F dX6_sends_16 (by decide) ?_
    refine ga_17 (j := 104) F (by decide) rfl (by omega) dX6_sends_18 ?_
    refine g_eqi rd17 ?_
    refine g_topi (fun x1_19 ex1_19 => ?_)
    refine g_istore_n (L' := [(1, _), (0, _)]) F dX6_sends_19 rfl (by decide) rfl ?_
    refine g_aload_n F 1 dX6_sends_20 rfl rfl ?_
    refine gf_16_1 F (by decide) mFL_X6_7 dX6_sends_21 ?_
    refine g_bipush (v := 105) F dX6_sends_24 (by decide) ?_
    refine ga_17 (j := 105) F (by decide) rfl (by omega) dX6_sends_26 ?_
    refine g_eqi rd17 ?_
    refine g_topi (fun x2_27 ex2_27 => ?_)
    refine g_istore_n (L' := [(2, _), (1, _), (0, _)]) F dX6_sends_27 rfl (by decide) rfl ?_
    refine g_iload_n F 1 dX6_sends_28 rfl rfl ?_
    refine g_iload_n F 0 dX6_sends_29 rfl rfl ?_
    refine g_ixor F dX6_sends_30 ?_
    refine g_topi (fun x3_31 ex3_31 => ?_)
    refine g_istore_n (L' := [(3, _), (2, _), (1, _), (0, _)]) F dX6_sends_31 rfl (by decide) rfl ?_
    refine g_aload_n F 3 dX6_sends_32 rfl rfl ?_
    refine gf_16_1 F (by decide) mFL_X6_7 dX6_sends_33 ?_
    refine g_bipush (v := 7) F dX6_sends_36 (by decide) ?_
    refine g_dup2 F dX6_sends_38 rfl rfl ?_
    refine ga_17 (j := 7) F (by decide) rfl (by omega) dX6_sends_39 ?_
    refine g_eqi rd17 ?_
    refine g_iconst (v := 1) F dX6_sends_40 (by decide) ?_
    refine g_isub F dX6_sends_41 ?_
    refine gs_17 (j := 7) F (by decide) rfl (by omega) dX6_sends_42 ?_
    refine g_I wr17 ?_
    refine g_iconst (v := 0) F dX6_sends_43 (by decide) ?_
    refine g_istore (L' := [(4, _), (3, _), (2, _), (1, _), (0, _)]) F dX6_sends_44 (by decide) rfl ?_
    refine g_sub [4, 3, 2, 1, 0] rfl ?_
    refine g_I (congrArg (fun z => upR I 17 0 z) (dpA_0 (nx_sub e7 (b := 1) rfl (by omega)))) ?_
    exact LOOPA (by omega) _ _ _ ex1_19 ex2_27 (by rw [ex3_31, ex1_19, ex2_27]) 0 (Nat.zero_le _) _ (by first | rfl | assumption)
  · have n_7 := nx_nef (a := h) (b := 0) e7 rfl (by omega) (by omega) c_7
    refine g_iconst (v := 0) F dX6_sends_10 (by decide) ?_
    refine g_iret F hr hlk rfl dX6_sends_11 ?_
    unfold sendS
    rw [if_pos (by omega)]
    exact ⟨rfl, rfl⟩
set_option maxHeartbeats 4000000 in
set_option maxRecDepth 100000 in
theorem c_X6_speeds {l : Launch} {G : Gm} (hj : Aj G) {I : Ii} {pm : Pm} {σ : Sg} {x : Int32} {r : Nat} (ex : x = nI r) (hr8 : r < 8) (L0 : LcOk σ r) : CV l G yX6_speeds (wz yX6_speeds cX6_speeds 6 none) (rmL 3) [.ref (G.2.2 16 0), .int x] (upR I 17 0 σ) pm (fun u => u = (upR I 17 0 (upd σ (16 + 11 * r + 5) (spdS σ r)), pm)) := by
  refine CV.walk hj (by decide +kernel) (by show _ ≤ 6; exact Nat.le_of_ble_eq_true rfl) ?_
  intro p e s m args below meth c F hr hlk
  refine g_bipush (v := 60) F dX6_speeds_0 (by decide) ?_
  refine g_aload_n F 0 dX6_speeds_2 rfl rfl ?_
  refine g_iload_n F 1 dX6_speeds_3 rfl rfl ?_
  refine g_iconst (v := 1) F dX6_speeds_4 (by decide) ?_
  refine g_callIv (na := 2) F 16 _ (c_X6_get hj (r := r) (f := 1) ex rfl (by omega)) (by decide) rfl rfl lk_X6_36 rfl rfl (by decide +kernel) ⟨rfl, rfl, Nat.le_of_ble_eq_true rfl, Nat.le_of_ble_eq_true rfl, Nat.le_of_ble_eq_true rfl, Nat.le_of_ble_eq_true rfl, Nat.le_of_ble_eq_true rfl⟩ dX6_speeds_5 (fun r_5 u_5 h_5 => ?_)
  obtain ⟨rfl, rfl⟩ := h_5
  try dsimp only
  refine g_idiv F dX6_speeds_8 (ne0 L0.1.1) ?_
  refine g_topi (fun x2_9 ex2_9 => ?_)
  refine g_istore_n (L' := [(2, _), (0, _), (1, _)]) F dX6_speeds_9 rfl (by decide) rfl ?_
  refine g_aload_n F 1 dX6_speeds_10 rfl rfl ?_
  refine g_iload_n F 2 dX6_speeds_11 rfl rfl ?_
  refine g_iconst (v := 5) F dX6_speeds_12 (by decide) ?_
  refine g_callIv (na := 2) F 16 _ (c_X6_get hj (r := r) (f := 5) ex rfl (by omega)) (by decide) rfl rfl lk_X6_36 rfl rfl (by decide +kernel) ⟨rfl, rfl, Nat.le_of_ble_eq_true rfl, Nat.le_of_ble_eq_true rfl, Nat.le_of_ble_eq_true rfl, Nat.le_of_ble_eq_true rfl, Nat.le_of_ble_eq_true rfl⟩ dX6_speeds_13 (fun r_13 u_13 h_13 => ?_)
  obtain ⟨rfl, rfl⟩ := h_13
  try dsimp only
  refine g_topi (fun x3_16 ex3_16 => ?_)
  refine g_istore_n (L' := [(3, _), (2, _), (0, _), (1, _)]) F dX6_speeds_16 rfl (by decide) rfl ?_
  refine g_aload_n F 2 dX6_speeds_17 rfl rfl ?_
  refine g_iload_n F 3 dX6_speeds_18 rfl rfl ?_
  refine g_callIv (na := 1) F 16 _ (c_X6_due hj ex hr8) (by decide) rfl rfl lk_X6_70 rfl rfl (by decide +kernel) ⟨rfl, rfl, Nat.le_of_ble_eq_true rfl, Nat.le_of_ble_eq_true rfl, Nat.le_of_ble_eq_true rfl, Nat.le_of_ble_eq_true rfl, Nat.le_of_ble_eq_true rfl⟩ dX6_speeds_19 (fun r_19 u_19 h_19 => ?_)
  obtain ⟨rfl, rfl⟩ := h_19
  try dsimp only
  refine g_iload_n F 0 dX6_speeds_22 rfl rfl ?_
  refine g_isub F dX6_speeds_23 ?_
  refine g_topi (fun x4_24 ex4_24 => ?_)
  refine g_istore (L' := [(4, _), (3, _), (2, _), (0, _), (1, _)]) F dX6_speeds_24 (by decide) rfl ?_
  refine g_iload F 0 dX6_speeds_26 rfl ?_
  refine g_iload_n F 2 dX6_speeds_28 rfl rfl ?_
  refine g_icmp_le F 38 dX6_speeds_29 (by decide) (fun c_29 => ?_) (fun c_29 => ?_)
  · refine g_iload F 0 dX6_speeds_38 rfl ?_
    refine g_iload_n F 2 dX6_speeds_40 rfl rfl ?_
    refine g_ineg F dX6_speeds_41 ?_
    refine g_icmp_ge F 51 dX6_speeds_42 (by decide) (fun c_42 => ?_) (fun c_42 => ?_)
    · refine g_iload_n F 1 dX6_speeds_51 rfl rfl ?_
      refine g_iload F 0 dX6_speeds_52 rfl ?_
      refine g_iadd F dX6_speeds_54 ?_
      refine g_topi (fun x5_55 ex5_55 => ?_)
      refine g_istore (L' := [(5, _), (4, _), (3, _), (2, _), (0, _), (1, _)]) F dX6_speeds_55 (by decide) rfl ?_
      have E5 : x5_55 = spdM (σ (16 + 11 * r + 1)) (σ (16 + 11 * r + 2)) (σ (16 + 11 * r + 6)) (σ (16 + 11 * r + 7)) (σ (16 + 11 * r + 5)) := by
        rw [ex5_55, ex3_16]
        rw [ex4_24, ex3_16] at *
        rw [ex2_9] at *
        unfold dueS at *
        unfold spdM
        first
        | exact (if_pos (Int32.not_le.mp c_29)).symm
        | exact ((if_neg (Int32.not_lt.mpr c_29)).trans (if_pos (Int32.not_le.mp c_42))).symm
        | exact ((if_neg (Int32.not_lt.mpr c_29)).trans (if_neg (Int32.not_lt.mpr c_42))).symm
      refine g_aload_n F 4 dX6_speeds_57 rfl rfl ?_
      refine g_iload_n F 5 dX6_speeds_58 rfl rfl ?_
      refine g_iconst (v := 5) F dX6_speeds_59 (by decide) ?_
      refine g_aload_n F 4 dX6_speeds_60 rfl rfl ?_
      refine g_iload_n F 5 dX6_speeds_61 rfl rfl ?_
      refine g_callIv (na := 1) F 16 _ (c_X6_isShort hj ex hr8 L0) (by decide) rfl rfl lk_X6_58 rfl rfl (by decide +kernel) ⟨rfl, rfl, Nat.le_of_ble_eq_true rfl, Nat.le_of_ble_eq_true rfl, Nat.le_of_ble_eq_true rfl, Nat.le_of_ble_eq_true rfl, Nat.le_of_ble_eq_true rfl⟩ dX6_speeds_62 (fun r_62 u_62 h_62 => ?_)
      obtain ⟨rfl, rfl⟩ := h_62
      try dsimp only
      refine g_if_eq F 72 dX6_speeds_65 (by decide) (fun c_65 => ?_) (fun c_65 => ?_)
      · have CC := bz_0.mp c_65
        refine g_iload F 0 dX6_speeds_72 rfl ?_
        refine g_callVv (na := 3) F 16 _ (c_X6_lay hj (r := r) (f := 5) ex rfl (by omega)) (by decide) rfl rfl lk_X6_50 rfl rfl (by decide +kernel) ⟨rfl, rfl, Nat.le_of_ble_eq_true rfl, Nat.le_of_ble_eq_true rfl, Nat.le_of_ble_eq_true rfl, Nat.le_of_ble_eq_true rfl, Nat.le_of_ble_eq_true rfl⟩ dX6_speeds_74 (fun u_74 h_74 => ?_)
        subst h_74
        try dsimp only
        refine g_vret F hr hlk dX6_speeds_77 ?_
        unfold spdS
        first
        | rw [if_pos CC]
        | rw [if_neg CC, E5]
      · have CC := bz_n.mp c_65
        refine g_iconst (v := 0) F dX6_speeds_68 (by decide) ?_
        refine g_goto F 74 dX6_speeds_69 (by decide) ?_
        refine g_callVv (na := 3) F 16 _ (c_X6_lay hj (r := r) (f := 5) ex rfl (by omega)) (by decide) rfl rfl lk_X6_50 rfl rfl (by decide +kernel) ⟨rfl, rfl, Nat.le_of_ble_eq_true rfl, Nat.le_of_ble_eq_true rfl, Nat.le_of_ble_eq_true rfl, Nat.le_of_ble_eq_true rfl, Nat.le_of_ble_eq_true rfl⟩ dX6_speeds_74 (fun u_74 h_74 => ?_)
        subst h_74
        try dsimp only
        refine g_vret F hr hlk dX6_speeds_77 ?_
        unfold spdS
        first
        | rw [if_pos CC]
        | rw [if_neg CC, E5]
    · refine g_iload_n F 1 dX6_speeds_45 rfl rfl ?_
      refine g_iload_n F 2 dX6_speeds_46 rfl rfl ?_
      refine g_isub F dX6_speeds_47 ?_
      refine g_goto F 55 dX6_speeds_48 (by decide) ?_
      refine g_topi (fun x5_55 ex5_55 => ?_)
      refine g_istore (L' := [(5, _), (4, _), (3, _), (2, _), (0, _), (1, _)]) F dX6_speeds_55 (by decide) rfl ?_
      have E5 : x5_55 = spdM (σ (16 + 11 * r + 1)) (σ (16 + 11 * r + 2)) (σ (16 + 11 * r + 6)) (σ (16 + 11 * r + 7)) (σ (16 + 11 * r + 5)) := by
        rw [ex5_55, ex3_16]
        rw [ex4_24, ex3_16] at *
        rw [ex2_9] at *
        unfold dueS at *
        unfold spdM
        first
        | exact (if_pos (Int32.not_le.mp c_29)).symm
        | exact ((if_neg (Int32.not_lt.mpr c_29)).trans (if_pos (Int32.not_le.mp c_42))).symm
        | exact ((if_neg (Int32.not_lt.mpr c_29)).trans (if_neg (Int32.not_lt.mpr c_42))).symm
      refine g_aload_n F 4 dX6_speeds_57 rfl rfl ?_
      refine g_iload_n F 5 dX6_speeds_58 rfl rfl ?_
      refine g_iconst (v := 5) F dX6_speeds_59 (by decide) ?_
      refine g_aload_n F 4 dX6_speeds_60 rfl rfl ?_
      refine g_iload_n F 5 dX6_speeds_61 rfl rfl ?_
      refine g_callIv (na := 1) F 16 _ (c_X6_isShort hj ex hr8 L0) (by decide) rfl rfl lk_X6_58 rfl rfl (by decide +kernel) ⟨rfl, rfl, Nat.le_of_ble_eq_true rfl, Nat.le_of_ble_eq_true rfl, Nat.le_of_ble_eq_true rfl, Nat.le_of_ble_eq_true rfl, Nat.le_of_ble_eq_true rfl⟩ dX6_speeds_62 (fun r_62 u_62 h_62 => ?_)
      obtain ⟨rfl, rfl⟩ := h_62
      try dsimp only
      refine g_if_eq F 72 dX6_speeds_65 (by decide) (fun c_65 => ?_) (fun c_65 => ?_)
      · have CC := bz_0.mp c_65
        refine g_iload F 0 dX6_speeds_72 rfl ?_
        refine g_callVv (na := 3) F 16 _ (c_X6_lay hj (r := r) (f := 5) ex rfl (by omega)) (by decide) rfl rfl lk_X6_50 rfl rfl (by decide +kernel) ⟨rfl, rfl, Nat.le_of_ble_eq_true rfl, Nat.le_of_ble_eq_true rfl, Nat.le_of_ble_eq_true rfl, Nat.le_of_ble_eq_true rfl, Nat.le_of_ble_eq_true rfl⟩ dX6_speeds_74 (fun u_74 h_74 => ?_)
        subst h_74
        try dsimp only
        refine g_vret F hr hlk dX6_speeds_77 ?_
        unfold spdS
        first
        | rw [if_pos CC]
        | rw [if_neg CC, E5]
      · have CC := bz_n.mp c_65
        refine g_iconst (v := 0) F dX6_speeds_68 (by decide) ?_
        refine g_goto F 74 dX6_speeds_69 (by decide) ?_
        refine g_callVv (na := 3) F 16 _ (c_X6_lay hj (r := r) (f := 5) ex rfl (by omega)) (by decide) rfl rfl lk_X6_50 rfl rfl (by decide +kernel) ⟨rfl, rfl, Nat.le_of_ble_eq_true rfl, Nat.le_of_ble_eq_true rfl, Nat.le_of_ble_eq_true rfl, Nat.le_of_ble_eq_true rfl, Nat.le_of_ble_eq_true rfl⟩ dX6_speeds_74 (fun u_74 h_74 => ?_)
        subst h_74
        try dsimp only
        refine g_vret F hr hlk dX6_speeds_77 ?_
        unfold spdS
        first
        | rw [if_pos CC]
        | rw [if_neg CC, E5]
  · refine g_iload_n F 1 dX6_speeds_32 rfl rfl ?_
    refine g_iload_n F 2 dX6_speeds_33 rfl rfl ?_
    refine g_iadd F dX6_speeds_34 ?_
    refine g_goto F 55 dX6_speeds_35 (by decide) ?_
    refine g_topi (fun x5_55 ex5_55 => ?_)
    refine g_istore (L' := [(5, _), (4, _), (3, _), (2, _), (0, _), (1, _)]) F dX6_speeds_55 (by decide) rfl ?_
    have E5 : x5_55 = spdM (σ (16 + 11 * r + 1)) (σ (16 + 11 * r + 2)) (σ (16 + 11 * r + 6)) (σ (16 + 11 * r + 7)) (σ (16 + 11 * r + 5)) := by
      rw [ex5_55, ex3_16]
      rw [ex4_24, ex3_16] at *
      rw [ex2_9] at *
      unfold dueS at *
      unfold spdM
      first
      | exact (if_pos (Int32.not_le.mp c_29)).symm
      | exact ((if_neg (Int32.not_lt.mpr c_29)).trans (if_pos (Int32.not_le.mp c_42))).symm
      | exact ((if_neg (Int32.not_lt.mpr c_29)).trans (if_neg (Int32.not_lt.mpr c_42))).symm
    refine g_aload_n F 4 dX6_speeds_57 rfl rfl ?_
    refine g_iload_n F 5 dX6_speeds_58 rfl rfl ?_
    refine g_iconst (v := 5) F dX6_speeds_59 (by decide) ?_
    refine g_aload_n F 4 dX6_speeds_60 rfl rfl ?_
    refine g_iload_n F 5 dX6_speeds_61 rfl rfl ?_
    refine g_callIv (na := 1) F 16 _ (c_X6_isShort hj ex hr8 L0) (by decide) rfl rfl lk_X6_58 rfl rfl (by decide +kernel) ⟨rfl, rfl, Nat.le_of_ble_eq_true rfl, Nat.le_of_ble_eq_true rfl, Nat.le_of_ble_eq_true rfl, Nat.le_of_ble_eq_true rfl, Nat.le_of_ble_eq_true rfl⟩ dX6_speeds_62 (fun r_62 u_62 h_62 => ?_)
    obtain ⟨rfl, rfl⟩ := h_62
    try dsimp only
    refine g_if_eq F 72 dX6_speeds_65 (by decide) (fun c_65 => ?_) (fun c_65 => ?_)
    · have CC := bz_0.mp c_65
      refine g_iload F 0 dX6_speeds_72 rfl ?_
      refine g_callVv (na := 3) F 16 _ (c_X6_lay hj (r := r) (f := 5) ex rfl (by omega)) (by decide) rfl rfl lk_X6_50 rfl rfl (by decide +kernel) ⟨rfl, rfl, Nat.le_of_ble_eq_true rfl, Nat.le_of_ble_eq_true rfl, Nat.le_of_ble_eq_true rfl, Nat.le_of_ble_eq_true rfl, Nat.le_of_ble_eq_true rfl⟩ dX6_speeds_74 (fun u_74 h_74 => ?_)
      subst h_74
      try dsimp only
      refine g_vret F hr hlk dX6_speeds_77 ?_
      unfold spdS
      first
      | rw [if_pos CC]
      | rw [if_neg CC, E5]
    · have CC := bz_n.mp c_65
      refine g_iconst (v := 0) F dX6_speeds_68 (by decide) ?_
      refine g_goto F 74 dX6_speeds_69 (by decide) ?_
      refine g_callVv (na := 3) F 16 _ (c_X6_lay hj (r := r) (f := 5) ex rfl (by omega)) (by decide) rfl rfl lk_X6_50 rfl rfl (by decide +kernel) ⟨rfl, rfl, Nat.le_of_ble_eq_true rfl, Nat.le_of_ble_eq_true rfl, Nat.le_of_ble_eq_true rfl, Nat.le_of_ble_eq_true rfl, Nat.le_of_ble_eq_true rfl⟩ dX6_speeds_74 (fun u_74 h_74 => ?_)
      subst h_74
      try dsimp only
      refine g_vret F hr hlk dX6_speeds_77 ?_
      unfold spdS
      first
      | rw [if_pos CC]
      | rw [if_neg CC, E5]
set_option maxHeartbeats 4000000 in
set_option maxRecDepth 100000 in
theorem c_X6_goes {l : Launch} {G : Gm} (hj : Aj G) {I : Ii} {pm : Pm} {σ : Sg} {x : Int32} {r : Nat} (ex : x = nI r) (hr8 : r < 8) : CV l G yX6_goes (wz yX6_goes cX6_goes 4 none) (rmL 1) [.ref (G.2.2 16 0), .int x] (upR I 17 0 σ) pm (fun u => u = (upR I 17 0 (goesS r σ), pm)) := by
  refine CV.walk hj (by decide +kernel) (by show _ ≤ 4; exact Nat.le_of_ble_eq_true rfl) ?_
  intro p e s m args below meth c F hr hlk
  refine g_bipush (v := 10) F dX6_goes_0 (by decide) ?_
  refine g_aload_n F 0 dX6_goes_2 rfl rfl ?_
  refine g_iload_n F 1 dX6_goes_3 rfl rfl ?_
  refine g_iconst (v := 3) F dX6_goes_4 (by decide) ?_
  refine g_callIv (na := 2) F 16 _ (c_X6_get hj (r := r) (f := 3) ex rfl (by omega)) (by decide) rfl rfl lk_X6_36 rfl rfl (by decide +kernel) ⟨rfl, rfl, Nat.le_of_ble_eq_true rfl, Nat.le_of_ble_eq_true rfl, Nat.le_of_ble_eq_true rfl, Nat.le_of_ble_eq_true rfl, Nat.le_of_ble_eq_true rfl⟩ dX6_goes_5 (fun r_5 u_5 h_5 => ?_)
  obtain ⟨rfl, rfl⟩ := h_5
  try dsimp only
  refine g_imul F dX6_goes_8 ?_
  refine g_aload_n F 0 dX6_goes_9 rfl rfl ?_
  refine g_iload_n F 1 dX6_goes_10 rfl rfl ?_
  refine g_iconst (v := 4) F dX6_goes_11 (by decide) ?_
  refine g_callIv (na := 2) F 16 _ (c_X6_get hj (r := r) (f := 4) ex rfl (by omega)) (by decide) rfl rfl lk_X6_36 rfl rfl (by decide +kernel) ⟨rfl, rfl, Nat.le_of_ble_eq_true rfl, Nat.le_of_ble_eq_true rfl, Nat.le_of_ble_eq_true rfl, Nat.le_of_ble_eq_true rfl, Nat.le_of_ble_eq_true rfl⟩ dX6_goes_12 (fun r_12 u_12 h_12 => ?_)
  obtain ⟨rfl, rfl⟩ := h_12
  try dsimp only
  refine g_iadd F dX6_goes_15 ?_
  refine g_aload_n F 0 dX6_goes_16 rfl rfl ?_
  refine g_iload_n F 1 dX6_goes_17 rfl rfl ?_
  refine g_iconst (v := 5) F dX6_goes_18 (by decide) ?_
  refine g_callIv (na := 2) F 16 _ (c_X6_get hj (r := r) (f := 5) ex rfl (by omega)) (by decide) rfl rfl lk_X6_36 rfl rfl (by decide +kernel) ⟨rfl, rfl, Nat.le_of_ble_eq_true rfl, Nat.le_of_ble_eq_true rfl, Nat.le_of_ble_eq_true rfl, Nat.le_of_ble_eq_true rfl, Nat.le_of_ble_eq_true rfl⟩ dX6_goes_19 (fun r_19 u_19 h_19 => ?_)
  obtain ⟨rfl, rfl⟩ := h_19
  try dsimp only
  refine g_iadd F dX6_goes_22 ?_
  refine g_topi (fun x2_23 ex2_23 => ?_)
  refine g_istore_n (L' := [(2, _), (0, _), (1, _)]) F dX6_goes_23 rfl (by decide) rfl ?_
  refine g_sipush (v := 8000) F dX6_goes_24 (by decide) ?_
  refine g_istore_n (L' := [(3, _), (2, _), (0, _), (1, _)]) F dX6_goes_27 rfl (by decide) rfl ?_
  refine g_aload_n F 2 dX6_goes_28 rfl rfl ?_
  refine g_iload_n F 3 dX6_goes_29 rfl rfl ?_
  refine g_bipush (v := 10) F dX6_goes_30 (by decide) ?_
  refine g_aload_n F 2 dX6_goes_32 rfl rfl ?_
  refine g_iload_n F 3 dX6_goes_33 rfl rfl ?_
  refine g_bipush (v := 10) F dX6_goes_34 (by decide) ?_
  refine g_callIv (na := 2) F 16 _ (c_X6_get hj (r := r) (f := 10) ex rfl (by omega)) (by decide) rfl rfl lk_X6_36 rfl rfl (by decide +kernel) ⟨rfl, rfl, Nat.le_of_ble_eq_true rfl, Nat.le_of_ble_eq_true rfl, Nat.le_of_ble_eq_true rfl, Nat.le_of_ble_eq_true rfl, Nat.le_of_ble_eq_true rfl⟩ dX6_goes_36 (fun r_36 u_36 h_36 => ?_)
  obtain ⟨rfl, rfl⟩ := h_36
  try dsimp only
  refine g_iload_n F 1 dX6_goes_39 rfl rfl ?_
  refine g_if_ge F 47 dX6_goes_40 (by decide) (fun c_40 => ?_) (fun c_40 => ?_)
  · refine g_iload_n F 1 dX6_goes_47 rfl rfl ?_
    refine g_iload_n F 0 dX6_goes_48 rfl rfl ?_
    refine g_icmp_lt F 56 dX6_goes_49 (by decide) (fun c_49 => ?_) (fun c_49 => ?_)
    · refine g_iconst (v := 0) F dX6_goes_56 (by decide) ?_
      refine g_iadd F dX6_goes_57 ?_
      refine g_callVv (na := 3) F 16 _ (c_X6_lay hj (r := r) (f := 10) ex rfl (by omega)) (by decide) rfl rfl lk_X6_50 rfl rfl (by decide +kernel) ⟨rfl, rfl, Nat.le_of_ble_eq_true rfl, Nat.le_of_ble_eq_true rfl, Nat.le_of_ble_eq_true rfl, Nat.le_of_ble_eq_true rfl, Nat.le_of_ble_eq_true rfl⟩ dX6_goes_58 (fun u_58 h_58 => ?_)
      subst h_58
      try dsimp only
      refine g_iload_n F 1 dX6_goes_61 rfl rfl ?_
      refine g_iload_n F 0 dX6_goes_62 rfl rfl ?_
      refine g_iadd F dX6_goes_63 ?_
      refine g_iload_n F 0 dX6_goes_64 rfl rfl ?_
      refine g_irem F dX6_goes_65 (by decide) ?_
      refine g_topi (fun x2_66 ex2_66 => ?_)
      refine g_istore_n (L' := [(2, _), (3, _), (0, _), (1, _)]) F dX6_goes_66 rfl (by decide) rfl ?_
      refine g_aload_n F 2 dX6_goes_67 rfl rfl ?_
      refine g_iload_n F 3 dX6_goes_68 rfl rfl ?_
      refine g_iconst (v := 3) F dX6_goes_69 (by decide) ?_
      refine g_iload_n F 0 dX6_goes_70 rfl rfl ?_
      refine g_bipush (v := 10) F dX6_goes_71 (by decide) ?_
      refine g_idiv F dX6_goes_73 (by decide) ?_
      refine g_callVv (na := 3) F 16 _ (c_X6_lay hj (r := r) (f := 3) ex rfl (by omega)) (by decide) rfl rfl lk_X6_50 rfl rfl (by decide +kernel) ⟨rfl, rfl, Nat.le_of_ble_eq_true rfl, Nat.le_of_ble_eq_true rfl, Nat.le_of_ble_eq_true rfl, Nat.le_of_ble_eq_true rfl, Nat.le_of_ble_eq_true rfl⟩ dX6_goes_74 (fun u_74 h_74 => ?_)
      subst h_74
      try dsimp only
      refine g_aload_n F 2 dX6_goes_77 rfl rfl ?_
      refine g_iload_n F 3 dX6_goes_78 rfl rfl ?_
      refine g_iconst (v := 4) F dX6_goes_79 (by decide) ?_
      refine g_iload_n F 0 dX6_goes_80 rfl rfl ?_
      refine g_bipush (v := 10) F dX6_goes_81 (by decide) ?_
      refine g_irem F dX6_goes_83 (by decide) ?_
      refine g_callVv (na := 3) F 16 _ (c_X6_lay hj (r := r) (f := 4) ex rfl (by omega)) (by decide) rfl rfl lk_X6_50 rfl rfl (by decide +kernel) ⟨rfl, rfl, Nat.le_of_ble_eq_true rfl, Nat.le_of_ble_eq_true rfl, Nat.le_of_ble_eq_true rfl, Nat.le_of_ble_eq_true rfl, Nat.le_of_ble_eq_true rfl⟩ dX6_goes_84 (fun u_84 h_84 => ?_)
      subst h_84
      try dsimp only
      refine g_vret F hr hlk dX6_goes_87 ?_
      unfold goesS rndC
      rw [ex2_23] at *
      first
      | rw [ex2_66, if_pos (Int32.not_le.mp c_40)]
      | rw [ex2_66, if_neg (Int32.not_lt.mpr c_40), if_neg (Int32.not_le.mpr c_49)]
      | rw [ex2_66, if_neg (Int32.not_lt.mpr c_40), if_pos (Int32.not_lt.mp c_49)]
    · refine g_iconst (v := 1) F dX6_goes_52 (by decide) ?_
      refine g_goto F 57 dX6_goes_53 (by decide) ?_
      refine g_iadd F dX6_goes_57 ?_
      refine g_callVv (na := 3) F 16 _ (c_X6_lay hj (r := r) (f := 10) ex rfl (by omega)) (by decide) rfl rfl lk_X6_50 rfl rfl (by decide +kernel) ⟨rfl, rfl, Nat.le_of_ble_eq_true rfl, Nat.le_of_ble_eq_true rfl, Nat.le_of_ble_eq_true rfl, Nat.le_of_ble_eq_true rfl, Nat.le_of_ble_eq_true rfl⟩ dX6_goes_58 (fun u_58 h_58 => ?_)
      subst h_58
      try dsimp only
      refine g_iload_n F 1 dX6_goes_61 rfl rfl ?_
      refine g_iload_n F 0 dX6_goes_62 rfl rfl ?_
      refine g_iadd F dX6_goes_63 ?_
      refine g_iload_n F 0 dX6_goes_64 rfl rfl ?_
      refine g_irem F dX6_goes_65 (by decide) ?_
      refine g_topi (fun x2_66 ex2_66 => ?_)
      refine g_istore_n (L' := [(2, _), (3, _), (0, _), (1, _)]) F dX6_goes_66 rfl (by decide) rfl ?_
      refine g_aload_n F 2 dX6_goes_67 rfl rfl ?_
      refine g_iload_n F 3 dX6_goes_68 rfl rfl ?_
      refine g_iconst (v := 3) F dX6_goes_69 (by decide) ?_
      refine g_iload_n F 0 dX6_goes_70 rfl rfl ?_
      refine g_bipush (v := 10) F dX6_goes_71 (by decide) ?_
      refine g_idiv F dX6_goes_73 (by decide) ?_
      refine g_callVv (na := 3) F 16 _ (c_X6_lay hj (r := r) (f := 3) ex rfl (by omega)) (by decide) rfl rfl lk_X6_50 rfl rfl (by decide +kernel) ⟨rfl, rfl, Nat.le_of_ble_eq_true rfl, Nat.le_of_ble_eq_true rfl, Nat.le_of_ble_eq_true rfl, Nat.le_of_ble_eq_true rfl, Nat.le_of_ble_eq_true rfl⟩ dX6_goes_74 (fun u_74 h_74 => ?_)
      subst h_74
      try dsimp only
      refine g_aload_n F 2 dX6_goes_77 rfl rfl ?_
      refine g_iload_n F 3 dX6_goes_78 rfl rfl ?_
      refine g_iconst (v := 4) F dX6_goes_79 (by decide) ?_
      refine g_iload_n F 0 dX6_goes_80 rfl rfl ?_
      refine g_bipush (v := 10) F dX6_goes_81 (by decide) ?_
      refine g_irem F dX6_goes_83 (by decide) ?_
      refine g_callVv (na := 3) F 16 _ (c_X6_lay hj (r := r) (f := 4) ex rfl (by omega)) (by decide) rfl rfl lk_X6_50 rfl rfl (by decide +kernel) ⟨rfl, rfl, Nat.le_of_ble_eq_true rfl, Nat.le_of_ble_eq_true rfl, Nat.le_of_ble_eq_true rfl, Nat.le_of_ble_eq_true rfl, Nat.le_of_ble_eq_true rfl⟩ dX6_goes_84 (fun u_84 h_84 => ?_)
      subst h_84
      try dsimp only
      refine g_vret F hr hlk dX6_goes_87 ?_
      unfold goesS rndC
      rw [ex2_23] at *
      first
      | rw [ex2_66, if_pos (Int32.not_le.mp c_40)]
      | rw [ex2_66, if_neg (Int32.not_lt.mpr c_40), if_neg (Int32.not_le.mpr c_49)]
      | rw [ex2_66, if_neg (Int32.not_lt.mpr c_40), if_pos (Int32.not_lt.mp c_49)]
  · refine g_iconst (v := -1) F dX6_goes_43 (by decide) ?_
    refine g_goto F 57 dX6_goes_44 (by decide) ?_
    refine g_iadd F dX6_goes_57 ?_
    refine g_callVv (na := 3) F 16 _ (c_X6_lay hj (r := r) (f := 10) ex rfl (by omega)) (by decide) rfl rfl lk_X6_50 rfl rfl (by decide +kernel) ⟨rfl, rfl, Nat.le_of_ble_eq_true rfl, Nat.le_of_ble_eq_true rfl, Nat.le_of_ble_eq_true rfl, Nat.le_of_ble_eq_true rfl, Nat.le_of_ble_eq_true rfl⟩ dX6_goes_58 (fun u_58 h_58 => ?_)
    subst h_58
    try dsimp only
    refine g_iload_n F 1 dX6_goes_61 rfl rfl ?_
    refine g_iload_n F 0 dX6_goes_62 rfl rfl ?_
    refine g_iadd F dX6_goes_63 ?_
    refine g_iload_n F 0 dX6_goes_64 rfl rfl ?_
    refine g_irem F dX6_goes_65 (by decide) ?_
    refine g_topi (fun x2_66 ex2_66 => ?_)
    refine g_istore_n (L' := [(2, _), (3, _), (0, _), (1, _)]) F dX6_goes_66 rfl (by decide) rfl ?_
    refine g_aload_n F 2 dX6_goes_67 rfl rfl ?_
    refine g_iload_n F 3 dX6_goes_68 rfl rfl ?_
    refine g_iconst (v := 3) F dX6_goes_69 (by decide) ?_
    refine g_iload_n F 0 dX6_goes_70 rfl rfl ?_
    refine g_bipush (v := 10) F dX6_goes_71 (by decide) ?_
    refine g_idiv F dX6_goes_73 (by decide) ?_
    refine g_callVv (na := 3) F 16 _ (c_X6_lay hj (r := r) (f := 3) ex rfl (by omega)) (by decide) rfl rfl lk_X6_50 rfl rfl (by decide +kernel) ⟨rfl, rfl, Nat.le_of_ble_eq_true rfl, Nat.le_of_ble_eq_true rfl, Nat.le_of_ble_eq_true rfl, Nat.le_of_ble_eq_true rfl, Nat.le_of_ble_eq_true rfl⟩ dX6_goes_74 (fun u_74 h_74 => ?_)
    subst h_74
    try dsimp only
    refine g_aload_n F 2 dX6_goes_77 rfl rfl ?_
    refine g_iload_n F 3 dX6_goes_78 rfl rfl ?_
    refine g_iconst (v := 4) F dX6_goes_79 (by decide) ?_
    refine g_iload_n F 0 dX6_goes_80 rfl rfl ?_
    refine g_bipush (v := 10) F dX6_goes_81 (by decide) ?_
    refine g_irem F dX6_goes_83 (by decide) ?_
    refine g_callVv (na := 3) F 16 _ (c_X6_lay hj (r := r) (f := 4) ex rfl (by omega)) (by decide) rfl rfl lk_X6_50 rfl rfl (by decide +kernel) ⟨rfl, rfl, Nat.le_of_ble_eq_true rfl, Nat.le_of_ble_eq_true rfl, Nat.le_of_ble_eq_true rfl, Nat.le_of_ble_eq_true rfl, Nat.le_of_ble_eq_true rfl⟩ dX6_goes_84 (fun u_84 h_84 => ?_)
    subst h_84
    try dsimp only
    refine g_vret F hr hlk dX6_goes_87 ?_
    unfold goesS rndC
    rw [ex2_23] at *
    first
    | rw [ex2_66, if_pos (Int32.not_le.mp c_40)]
    | rw [ex2_66, if_neg (Int32.not_lt.mpr c_40), if_neg (Int32.not_le.mpr c_49)]
    | rw [ex2_66, if_neg (Int32.not_lt.mpr c_40), if_pos (Int32.not_lt.mp c_49)]
