/-! PART 32: the reference: ticks, records -/
theorem LcOk.spdJ {σ : Sg} {j : Nat} (h : LcOk σ j) : LcOk (spdJ j σ) j := h.cong (fun f hf => spdJ_hi (by omega))
theorem goJ_lo {n j i : Nat} {τ : Sg} (h : i < 16) : goJ n j τ i = τ i := by
  unfold goJ
  rw [if_neg (by omega), spdJ_hi (by omega)]
theorem shoJ_t {j : Nat} {σ : Sg} (hj : j < 8) (c : shoJ j σ (8 + j) ≤ 0) : upd (shoJ j σ) (8 + j) (shoJ j σ (8 + j) - 0) = shoJ (j + 1) σ := by
  rw [shoJ_succ hj]
  congr 1
  rw [shoJ_at] at c ⊢
  exact (show shoS σ (8 + j) = σ (8 + j) - 0 by unfold shoS; rw [if_pos (by omega), if_neg (Int32.not_lt.mpr c)]).symm
theorem shoJ_f {j : Nat} {σ : Sg} (hj : j < 8) (c : ¬ shoJ j σ (8 + j) ≤ 0) : upd (shoJ j σ) (8 + j) (shoJ j σ (8 + j) - 1) = shoJ (j + 1) σ := by
  rw [shoJ_succ hj]
  congr 1
  rw [shoJ_at] at c ⊢
  exact (show shoS σ (8 + j) = σ (8 + j) - 1 by unfold shoS; rw [if_pos (by omega), if_pos (Int32.not_le.mp c)]).symm
def MXH (I : Ii) (hn : Nat) (hist : Nat → Sg) : Prop := I 16 0 4 = nI hn ∧ hn ≤ 6 ∧ ∀ i, i < hn → ∀ k, k < 164 → I 19 0 (164 * i + k) = hist i k
/-- only the records changed -/
def FH (I I' : Ii) : Prop := ∀ K i c, ¬ (K = 16 ∧ c = 4) → K ≠ 19 → I' K i c = I K i c
def shA (I : Ii) (j : Nat) : Ii := fun K i c => if K = 19 ∧ i = 0 ∧ c < j then I 19 0 (c + 164) else I K i c
theorem shA_0 {I : Ii} : shA I 0 = I := by
  funext K i c
  unfold shA
  rw [if_neg (by omega)]
theorem shA_s {I : Ii} {j : Nat} : up3 (shA I j) 19 0 j (shA I j 19 0 (j + 164)) = shA I (j + 1) := by
  funext K i c
  by_cases z : K = 19 ∧ i = 0 ∧ c = j
  · obtain ⟨rfl, rfl, rfl⟩ := z
    rw [up3_s]
    unfold shA
    rw [if_neg (by omega), if_pos (by omega)]
  · rw [up3_n z]
    unfold shA
    by_cases q : K = 19 ∧ i = 0 ∧ c < j
    · rw [if_pos q, if_pos (by omega)]
    · rw [if_neg q, if_neg (by omega)]
def rcB (I : Ii) (σ : Sg) (m j : Nat) : Ii := fun K i c => if K = 19 ∧ i = 0 ∧ 164 * m ≤ c ∧ c < 164 * m + j then σ (c - 164 * m) else I K i c
theorem rcB_0 {I : Ii} {σ : Sg} {m : Nat} : rcB I σ m 0 = I := by
  funext K i c
  unfold rcB
  rw [if_neg (by omega)]
theorem rcB_s {I : Ii} {σ : Sg} {m j : Nat} : up3 (rcB I σ m j) 19 0 (164 * m + j) (σ j) = rcB I σ m (j + 1) := by
  funext K i c
  by_cases z : K = 19 ∧ i = 0 ∧ c = 164 * m + j
  · obtain ⟨rfl, rfl, rfl⟩ := z
    rw [up3_s]
    unfold rcB
    rw [if_pos (by omega), show 164 * m + j - 164 * m = j by omega]
  · rw [up3_n z]
    unfold rcB
    by_cases q : K = 19 ∧ i = 0 ∧ 164 * m ≤ c ∧ c < 164 * m + j
    · rw [if_pos q, if_pos (by omega)]
    · rw [if_neg q, if_neg (by omega)]
theorem rcB_k {I : Ii} {σ : Sg} {m j K i c : Nat} (h : K ≠ 19) : rcB I σ m j K i c = I K i c := by
  unfold rcB
  rw [if_neg (fun q => h q.1)]
theorem shA_k {I : Ii} {j K i c : Nat} (h : K ≠ 19) : shA I j K i c = I K i c := by
  unfold shA
  rw [if_neg (fun q => h q.1)]

set_option maxHeartbeats 4000000 in
set_option maxRecDepth 100000 in
theorem c_X6_tick {l : Launch} {G : Gm} (hj : Aj G) {I : Ii} {pm : Pm} {σ : Sg} {n h : Nat} (V : Iv n h σ) : CI l G yX6_tick (wz yX6_tick cX6_tick 3 (some .int)) (rmL 5) [.ref (G.2.2 16 0)] (upR I 17 0 σ) pm (fun r u => r = (sendS n h σ).2 ∧ u = (upR I 17 0 (tickS n h σ), pm)) := by
  refine CI.walk hj (by decide +kernel) (by show _ ≤ 3; exact Nat.le_of_ble_eq_true rfl) ?_
  intro p e s m args below meth c F hr hlk
  have hn8 := V.2.1
  obtain ⟨τ, eτ⟩ : ∃ τ, τ = (sendS n h σ).1 := ⟨_, rfl⟩
  have V2 : Iv n (h - 1) τ := by rw [eτ]; exact V.send
  have LOOP3 : ∀ x1, x1 = (sendS n h σ).2 → ∀ j, j ≤ 8 → ∀ xj, xj = nI j → GG p l e (rmL 5) s m args below meth c G (AA G) 3 0 0 (MQ below (va_Qi (fun (r : Int32) (u : Ii × Pm) => r = (sendS n h σ).2 ∧ u = (upR I 17 0 (tickS n h σ), pm)) (fun (u : Ii × Pm) t => Wd G u.1 u.2 t.heap) (AA G)) args s 0 0 (AA G)) (upR I 17 0 (shoJ j (drvS n τ))) pm [(0, .ref (G.2.2 16 0)), (1, .int x1), (2, .int xj)] 55 [] := by
    intro x1 e1
    refine dn_ind ?_
    intro j hjn ih xj ej
    refine g_iload_n F 2 dX6_tick_55 rfl rfl ?_
    refine g_bipush (v := 8) F dX6_tick_56 (by decide) ?_
    refine g_icmp_ge F 96 dX6_tick_58 (by decide) (fun c_58 => ?_) (fun c_58 => ?_)
    · have n_58 := nx_get (a := j) (b := 8) ej rfl (by omega) (by omega) c_58
      refine g_aload_n F 0 dX6_tick_96 rfl rfl ?_
      refine gf_16_1 F (by decide) mFL_X6_7 dX6_tick_97 ?_
      refine g_iconst (v := 0) F dX6_tick_100 (by decide) ?_
      refine g_dup2 F dX6_tick_101 rfl rfl ?_
      refine ga_17 (j := 0) F (by decide) rfl (by omega) dX6_tick_102 ?_
      refine g_eqi rd17 ?_
      refine g_iconst (v := 1) F dX6_tick_103 (by decide) ?_
      refine g_iadd F dX6_tick_104 ?_
      refine gs_17 (j := 0) F (by decide) rfl (by omega) dX6_tick_105 ?_
      refine g_I wr17 ?_
      refine g_aload_n F 0 dX6_tick_106 rfl rfl ?_
      refine gf_16_1 F (by decide) mFL_X6_7 dX6_tick_107 ?_
      refine g_iconst (v := 2) F dX6_tick_110 (by decide) ?_
      refine g_dup2 F dX6_tick_111 rfl rfl ?_
      refine ga_17 (j := 2) F (by decide) rfl (by omega) dX6_tick_112 ?_
      refine g_eqi rd17 ?_
      refine g_iconst (v := 1) F dX6_tick_113 (by decide) ?_
      refine g_iadd F dX6_tick_114 ?_
      refine gs_17 (j := 2) F (by decide) rfl (by omega) dX6_tick_115 ?_
      refine g_I wr17 ?_
      refine g_iload_n F 1 dX6_tick_116 rfl rfl ?_
      refine g_iret F hr hlk rfl dX6_tick_117 ?_
      refine ⟨e1, ?_⟩
      unfold tickS bothS
      rw [← eτ, ← shoJ_8, show j = 8 by omega, upd_n (i := 0) (j := 2) (by decide)]
    · have n_58 := nx_gef (a := j) (b := 8) ej rfl (by omega) (by omega) c_58
      refine g_aload_n F 0 dX6_tick_61 rfl rfl ?_
      refine gf_16_1 F (by decide) mFL_X6_7 dX6_tick_62 ?_
      refine g_bipush (v := 8) F dX6_tick_65 (by decide) ?_
      refine g_iload_n F 2 dX6_tick_67 rfl rfl ?_
      refine g_iadd F dX6_tick_68 ?_
      refine g_dup2 F dX6_tick_69 rfl rfl ?_
      refine ga_17 (j := (8 + j)) F (by decide) (nx_add rfl ej) (by omega) dX6_tick_70 ?_
      refine g_eqi rd17 ?_
      refine g_aload_n F 0 dX6_tick_71 rfl rfl ?_
      refine gf_16_1 F (by decide) mFL_X6_7 dX6_tick_72 ?_
      refine g_bipush (v := 8) F dX6_tick_75 (by decide) ?_
      refine g_iload_n F 2 dX6_tick_77 rfl rfl ?_
      refine g_iadd F dX6_tick_78 ?_
      refine ga_17 (j := (8 + j)) F (by decide) (nx_add rfl ej) (by omega) dX6_tick_79 ?_
      refine g_eqi rd17 ?_
      refine g_if_le F 87 dX6_tick_80 (by decide) (fun c_80 => ?_) (fun c_80 => ?_)
      · have CT := c_80
        refine g_iconst (v := 0) F dX6_tick_87 (by decide) ?_
        refine g_isub F dX6_tick_88 ?_
        refine gs_17 (j := (8 + j)) F (by decide) (nx_add rfl ej) (by omega) dX6_tick_89 ?_
        refine g_I wr17 ?_
        refine g_iincC (q := 1) (L' := [(2, _), (0, _), (1, _)]) F 2 dX6_tick_90 (by decide) rfl (by decide) rfl ?_
        refine g_goto F 55 dX6_tick_93 (by decide) ?_
        refine g_sub [1, 2, 0] rfl ?_
        first
        | refine g_I (congrArg (fun z => upR I 17 0 z) (shoJ_t (by omega) c_80)) ?_; exact ih (by omega) _ (nx_add ej rfl)
        | refine g_I (congrArg (fun z => upR I 17 0 z) (shoJ_f (by omega) c_80)) ?_; exact ih (by omega) _ (nx_add ej rfl)
      · refine g_iconst (v := 1) F dX6_tick_83 (by decide) ?_
        refine g_goto F 88 dX6_tick_84 (by decide) ?_
        refine g_isub F dX6_tick_88 ?_
        refine gs_17 (j := (8 + j)) F (by decide) (nx_add rfl ej) (by omega) dX6_tick_89 ?_
        refine g_I wr17 ?_
        refine g_iincC (q := 1) (L' := [(2, _), (0, _), (1, _)]) F 2 dX6_tick_90 (by decide) rfl (by decide) rfl ?_
        refine g_goto F 55 dX6_tick_93 (by decide) ?_
        refine g_sub [1, 2, 0] rfl ?_
        first
        | refine g_I (congrArg (fun z => upR I 17 0 z) (shoJ_t (by omega) c_80)) ?_; exact ih (by omega) _ (nx_add ej rfl)
        | refine g_I (congrArg (fun z => upR I 17 0 z) (shoJ_f (by omega) c_80)) ?_; exact ih (by omega) _ (nx_add ej rfl)
  have LOOP2 : ∀ x1, x1 = (sendS n h σ).2 → ∀ j, j ≤ n → ∀ xj, xj = nI j → GG p l e (rmL 5) s m args below meth c G (AA G) 3 0 0 (MQ below (va_Qi (fun (r : Int32) (u : Ii × Pm) => r = (sendS n h σ).2 ∧ u = (upR I 17 0 (tickS n h σ), pm)) (fun (u : Ii × Pm) t => Wd G u.1 u.2 t.heap) (AA G)) args s 0 0 (AA G)) (upR I 17 0 (goJ n j τ)) pm [(0, .ref (G.2.2 16 0)), (1, .int x1), (2, .int xj)] 31 [] := by
    intro x1 e1
    refine dn_ind ?_
    intro j hjn ih xj ej
    refine g_iload_n F 2 dX6_tick_31 rfl rfl ?_
    refine g_aload_n F 0 dX6_tick_32 rfl rfl ?_
    refine gf_16_1 F (by decide) mFL_X6_7 dX6_tick_33 ?_
    refine g_bipush (v := 6) F dX6_tick_36 (by decide) ?_
    refine ga_17 (j := 6) F (by decide) rfl (by omega) dX6_tick_38 ?_
    refine g_eqi rd17 ?_
    refine g_icmp_ge F 53 dX6_tick_39 (by decide) (fun c_39 => ?_) (fun c_39 => ?_)
    · have n_39 := nx_get (a := j) (b := n) ej ((goJ_lo (by decide)).trans V2.1) (by omega) (by omega) c_39
      refine g_iconst (v := 0) F dX6_tick_53 (by decide) ?_
      refine g_istore_n (L' := [(2, _), (0, _), (1, _)]) F dX6_tick_54 rfl (by decide) rfl ?_
      refine g_sub [1, 2, 0] rfl ?_
      refine g_I (congrArg (fun z => upR I 17 0 z) (show goJ n j τ = shoJ 0 (drvS n τ) by rw [show j = n by omega, goJ_n, shoJ_0])) ?_
      exact LOOP3 _ e1 0 (by decide) _ (by first | rfl | assumption)
    · have n_39 := nx_gef (a := j) (b := n) ej ((goJ_lo (by decide)).trans V2.1) (by omega) (by omega) c_39
      refine g_aload_n F 0 dX6_tick_42 rfl rfl ?_
      refine g_iload_n F 2 dX6_tick_43 rfl rfl ?_
      refine g_callVv (na := 1) F 16 _ (c_X6_goes hj ej (by omega)) (by decide) rfl rfl lk_X6_81 rfl rfl (by decide +kernel) ⟨rfl, rfl, Nat.le_of_ble_eq_true rfl, Nat.le_of_ble_eq_true rfl, Nat.le_of_ble_eq_true rfl, Nat.le_of_ble_eq_true rfl, Nat.le_of_ble_eq_true rfl⟩ dX6_tick_44 (fun u_44 h_44 => ?_)
      subst h_44
      try dsimp only
      refine g_iincC (q := 1) (L' := [(2, _), (0, _), (1, _)]) F 2 dX6_tick_47 (by decide) rfl (by decide) rfl ?_
      refine g_goto F 31 dX6_tick_50 (by decide) ?_
      refine g_sub [1, 2, 0] rfl ?_
      refine g_I (congrArg (fun z => upR I 17 0 z) (goJ_s (by omega))) ?_
      exact ih (by omega) _ (nx_add ej rfl)
  have LOOP1 : ∀ x1, x1 = (sendS n h σ).2 → ∀ j, j ≤ n → ∀ xj, xj = nI j → GG p l e (rmL 5) s m args below meth c G (AA G) 3 0 0 (MQ below (va_Qi (fun (r : Int32) (u : Ii × Pm) => r = (sendS n h σ).2 ∧ u = (upR I 17 0 (tickS n h σ), pm)) (fun (u : Ii × Pm) t => Wd G u.1 u.2 t.heap) (AA G)) args s 0 0 (AA G)) (upR I 17 0 (spdJ j τ)) pm [(0, .ref (G.2.2 16 0)), (1, .int x1), (2, .int xj)] 7 [] := by
    intro x1 e1
    refine dn_ind ?_
    intro j hjn ih xj ej
    refine g_iload_n F 2 dX6_tick_7 rfl rfl ?_
    refine g_aload_n F 0 dX6_tick_8 rfl rfl ?_
    refine gf_16_1 F (by decide) mFL_X6_7 dX6_tick_9 ?_
    refine g_bipush (v := 6) F dX6_tick_12 (by decide) ?_
    refine ga_17 (j := 6) F (by decide) rfl (by omega) dX6_tick_14 ?_
    refine g_eqi rd17 ?_
    refine g_icmp_ge F 29 dX6_tick_15 (by decide) (fun c_15 => ?_) (fun c_15 => ?_)
    · have n_15 := nx_get (a := j) (b := n) ej ((spdJ_hi (Or.inl (by decide))).trans V2.1) (by omega) (by omega) c_15
      refine g_iconst (v := 0) F dX6_tick_29 (by decide) ?_
      refine g_istore_n (L' := [(2, _), (0, _), (1, _)]) F dX6_tick_30 rfl (by decide) rfl ?_
      refine g_sub [1, 2, 0] rfl ?_
      refine g_I (congrArg (fun z => upR I 17 0 z) (show spdJ j τ = goJ n 0 τ by rw [show j = n by omega, goJ_0])) ?_
      exact LOOP2 _ e1 0 (Nat.zero_le _) _ (by first | rfl | assumption)
    · have n_15 := nx_gef (a := j) (b := n) ej ((spdJ_hi (Or.inl (by decide))).trans V2.1) (by omega) (by omega) c_15
      refine g_aload_n F 0 dX6_tick_18 rfl rfl ?_
      refine g_iload_n F 2 dX6_tick_19 rfl rfl ?_
      refine g_callVv (na := 1) F 16 _ (c_X6_speeds hj ej (by omega) (V2.2.2.2.2.1 j (by omega)).spdJ) (by decide) rfl rfl lk_X6_77 rfl rfl (by decide +kernel) ⟨rfl, rfl, Nat.le_of_ble_eq_true rfl, Nat.le_of_ble_eq_true rfl, Nat.le_of_ble_eq_true rfl, Nat.le_of_ble_eq_true rfl, Nat.le_of_ble_eq_true rfl⟩ dX6_tick_20 (fun u_20 h_20 => ?_)
      subst h_20
      try dsimp only
      refine g_iincC (q := 1) (L' := [(2, _), (0, _), (1, _)]) F 2 dX6_tick_23 (by decide) rfl (by decide) rfl ?_
      refine g_goto F 7 dX6_tick_26 (by decide) ?_
      refine g_sub [1, 2, 0] rfl ?_
      refine g_I (congrArg (fun z => upR I 17 0 z) (spdJ_s (blk_lt (V2.2.2.2.2.1 j (by omega))))) ?_
      exact ih (by omega) _ (nx_add ej rfl)
  refine g_aload_n F 0 dX6_tick_0 rfl rfl ?_
  refine g_callIv (na := 0) F 16 _ (c_X6_sends hj V) (by decide) rfl rfl lk_X6_73 rfl rfl (by decide +kernel) ⟨rfl, rfl, Nat.le_of_ble_eq_true rfl, Nat.le_of_ble_eq_true rfl, Nat.le_of_ble_eq_true rfl, Nat.le_of_ble_eq_true rfl, Nat.le_of_ble_eq_true rfl⟩ dX6_tick_1 (fun r_1 u_1 h_1 => ?_)
  obtain ⟨rfl, rfl⟩ := h_1
  try dsimp only
  refine g_topi (fun x1_4 ex1_4 => ?_)
  refine g_istore_n (L' := [(1, _), (0, _)]) F dX6_tick_4 rfl (by decide) rfl ?_
  refine g_iconst (v := 0) F dX6_tick_5 (by decide) ?_
  refine g_istore_n (L' := [(2, _), (1, _), (0, _)]) F dX6_tick_6 rfl (by decide) rfl ?_
  refine g_sub [2, 1, 0] rfl ?_
  refine g_I (congrArg (fun z => upR I 17 0 z) (show (sendS n h σ).1 = spdJ 0 τ by rw [spdJ_0, eτ])) ?_
  exact LOOP1 _ (by first | rfl | assumption) 0 (Nat.zero_le _) _ (by first | rfl | assumption)
set_option maxHeartbeats 4000000 in
set_option maxRecDepth 100000 in
theorem c_X6_ticks {l : Launch} {G : Gm} (hj : Aj G) {I : Ii} {pm : Pm} {σ : Sg} {n h : Nat} (V : Iv n h σ) {x : Int32} {q : Nat} (ex : x = nI q) (hq : q ≤ 99) : CI l G yX6_ticks (wz yX6_ticks cX6_ticks 4 (some .int)) (rmL 6) [.ref (G.2.2 16 0), .int x] (upR I 17 0 σ) pm (fun r u => r = (itS n h σ q).2 ∧ u = (upR I 17 0 (itS n h σ q).1, pm)) := by
  refine CI.walk hj (by decide +kernel) (by show _ ≤ 4; exact Nat.le_of_ble_eq_true rfl) ?_
  intro p e s m args below meth c F hr hlk
  have LOOP : ∀ j, j ≤ q → ∀ xc xj, xj = nI j → xc = (itS n h σ j).2 → GG p l e (rmL 6) s m args below meth c G (AA G) 4 0 0 (MQ below (va_Qi (fun (r : Int32) (u : Ii × Pm) => r = (itS n h σ q).2 ∧ u = (upR I 17 0 (itS n h σ q).1, pm)) (fun (u : Ii × Pm) t => Wd G u.1 u.2 t.heap) (AA G)) args s 0 0 (AA G)) (upR I 17 0 ((itS n h σ j).1)) pm [(0, .ref (G.2.2 16 0)), (1, .int x), (2, .int xc), (3, .int xj)] 4 [] := by
    refine dn_ind ?_
    intro j hjq ih xc xj ej ec
    refine g_iload_n F 3 dX6_ticks_4 rfl rfl ?_
    refine g_iload_n F 1 dX6_ticks_5 rfl rfl ?_
    refine g_icmp_ge F 22 dX6_ticks_6 (by decide) (fun c_6 => ?_) (fun c_6 => ?_)
    · have n_6 := nx_get (a := j) (b := q) ej ex (by omega) (by omega) c_6
      refine g_iload_n F 2 dX6_ticks_22 rfl rfl ?_
      refine g_iret F hr hlk rfl dX6_ticks_23 ?_
      rw [show q = j by omega]
      exact ⟨ec, rfl⟩
    · have n_6 := nx_gef (a := j) (b := q) ej ex (by omega) (by omega) c_6
      refine g_iload_n F 2 dX6_ticks_9 rfl rfl ?_
      refine g_aload_n F 0 dX6_ticks_10 rfl rfl ?_
      refine g_callIv (na := 0) F 16 _ (c_X6_tick hj (V.it j)) (by decide) rfl rfl lk_X6_84 rfl rfl (by decide +kernel) ⟨rfl, rfl, Nat.le_of_ble_eq_true rfl, Nat.le_of_ble_eq_true rfl, Nat.le_of_ble_eq_true rfl, Nat.le_of_ble_eq_true rfl, Nat.le_of_ble_eq_true rfl⟩ dX6_ticks_11 (fun r_11 u_11 h_11 => ?_)
      obtain ⟨rfl, rfl⟩ := h_11
      try dsimp only
      refine g_iadd F dX6_ticks_14 ?_
      refine g_topi (fun x2_15 ex2_15 => ?_)
      refine g_istore_n (L' := [(2, _), (0, _), (1, _), (3, _)]) F dX6_ticks_15 rfl (by decide) rfl ?_
      refine g_iincC (q := 1) (L' := [(3, _), (2, _), (0, _), (1, _)]) F 3 dX6_ticks_16 (by decide) rfl (by decide) rfl ?_
      refine g_goto F 4 dX6_ticks_19 (by decide) ?_
      refine g_sub [2, 3, 1, 0] rfl ?_
      exact ih (by omega) _ _ (nx_add ej rfl) (by rw [ex2_15, ec]; rfl)
  refine g_iconst (v := 0) F dX6_ticks_0 (by decide) ?_
  refine g_istore_n (L' := [(2, _), (0, _), (1, _)]) F dX6_ticks_1 rfl (by decide) rfl ?_
  refine g_iconst (v := 0) F dX6_ticks_2 (by decide) ?_
  refine g_istore_n (L' := [(3, _), (2, _), (0, _), (1, _)]) F dX6_ticks_3 rfl (by decide) rfl ?_
  refine g_sub [2, 3, 1, 0] rfl ?_
  exact LOOP 0 (Nat.zero_le _) _ _ (by first | rfl | assumption) (by first | rfl | assumption)
set_option maxHeartbeats 4000000 in
set_option maxRecDepth 100000 in
theorem c_X6_records {l : Launch} {G : Gm} (hj : Aj G) {I : Ii} {pm : Pm} {σ : Sg} {hn : Nat} {hist : Nat → Sg} (M : MXH I hn hist) : CV l G yX6_records (wz yX6_records cX6_records 2 none) (rmL 0) [.ref (G.2.2 16 0)] (upR I 17 0 σ) pm (fun u => ∃ ia, u = (upR ia 17 0 σ, pm) ∧ MXH ia (pushN hn) (pushH hn hist σ) ∧ FH I ia) := by
  refine CV.walk hj (by decide +kernel) (by show _ ≤ 2; exact Nat.le_of_ble_eq_true rfl) ?_
  intro p e s m args below meth c F hr hlk
  have h6 := M.2.1
  have LOOPB : ∀ ia mm, mm < 6 → ia 16 0 4 = nI mm → pushN hn = mm + 1 → FH I ia → (∀ i, i < mm → ∀ k, k < 164 → ia 19 0 (164 * i + k) = pushH hn hist σ i k) → (∀ k, pushH hn hist σ mm k = σ k) → ∀ j, j ≤ 164 → ∀ xj, xj = nI j → GG p l e (rmL 0) s m args below meth c G (AA G) 2 0 0 (MQ below (va_Qv (fun (u : Ii × Pm) => ∃ ia, u = (upR ia 17 0 σ, pm) ∧ MXH ia (pushN hn) (pushH hn hist σ) ∧ FH I ia) (fun (u : Ii × Pm) t => Wd G u.1 u.2 t.heap) (AA G)) args s 0 0 (AA G)) (upR (rcB ia σ mm j) 17 0 σ) pm [(0, .ref (G.2.2 16 0)), (1, .int xj)] 52 [] := by
    intro ia mm hm em ep hf hrw hs
    refine dn_ind ?_
    intro j hj1 ih xj ej
    have e4 : rcB ia σ mm j 16 0 4 = nI mm := (rcB_k (by decide)).trans em
    refine g_iload_n F 1 dX6_records_52 rfl rfl ?_
    refine g_sipush (v := 164) F dX6_records_53 (by decide) ?_
    refine g_icmp_ge F 86 dX6_records_56 (by decide) (fun c_56 => ?_) (fun c_56 => ?_)
    · have n_56 := nx_get (a := j) (b := 164) ej rfl (by omega) (by omega) c_56
      refine g_aload_n F 0 dX6_records_86 rfl rfl ?_
      refine g_dup F dX6_records_87 rfl ?_
      refine gf_16_4 F (by decide) mFL_X6_40 dX6_records_88 ?_
      refine g_eqi (rd16 (by decide)) ?_
      refine g_iconst (v := 1) F dX6_records_91 (by decide) ?_
      refine g_iadd F dX6_records_92 ?_
      refine gp_16_4 F (by decide) mFL_X6_40 dX6_records_93 ?_
      refine g_I (wr16 (by decide)) ?_
      refine g_vret F hr hlk dX6_records_96 ?_
      refine ⟨_, rfl, ⟨?_, by rw [ep]; omega, fun i hi k hk => ?_⟩, fun K i cc h h' => ?_⟩
      · rw [up3_s, e4, ep]
        exact nI_1 mm
      · rw [up3_k (by decide)]
        unfold rcB
        rw [ep] at hi
        by_cases q : i = mm
        · rw [if_pos (by rw [q]; omega), q, hs k, show 164 * mm + k - 164 * mm = k by omega]
        · rw [if_neg (by omega)]
          exact hrw i (by omega) k hk
      · rw [up3_n (fun e => h ⟨e.1, e.2.2⟩), rcB_k h']
        exact hf K i cc h h'
    · have n_56 := nx_gef (a := j) (b := 164) ej rfl (by omega) (by omega) c_56
      refine g_aload_n F 0 dX6_records_59 rfl rfl ?_
      refine gf_16_3 F (by decide) mFL_X6_16 dX6_records_60 ?_
      refine g_sipush (v := 164) F dX6_records_63 (by decide) ?_
      refine g_aload_n F 0 dX6_records_66 rfl rfl ?_
      refine gf_16_4 F (by decide) mFL_X6_40 dX6_records_67 ?_
      refine g_eqi (rd16 (by decide)) ?_
      refine g_imul F dX6_records_70 ?_
      refine g_iload_n F 1 dX6_records_71 rfl rfl ?_
      refine g_iadd F dX6_records_72 ?_
      refine g_aload_n F 0 dX6_records_73 rfl rfl ?_
      refine gf_16_1 F (by decide) mFL_X6_7 dX6_records_74 ?_
      refine g_iload_n F 1 dX6_records_77 rfl rfl ?_
      refine ga_17 (j := j) F (by decide) ej (by omega) dX6_records_78 ?_
      refine g_eqi rd17 ?_
      refine gs_19 (j := ((164 * mm) + j)) F (by decide) (nx_add (nx_mul rfl e4) ej) (by omega) dX6_records_79 ?_
      refine g_I (wr16 (by decide)) ?_
      refine g_iincC (q := 1) (L' := [(1, _), (0, _)]) F 1 dX6_records_80 (by decide) rfl (by decide) rfl ?_
      refine g_goto F 52 dX6_records_83 (by decide) ?_
      refine g_sub [1, 0] rfl ?_
      refine g_I (congrArg (fun z => upR z 17 0 σ) rcB_s) ?_
      exact ih (by omega) _ (nx_add ej rfl)
  have LOOPA : hn = 6 → ∀ j, j ≤ 820 → ∀ xj, xj = nI j → GG p l e (rmL 0) s m args below meth c G (AA G) 2 0 0 (MQ below (va_Qv (fun (u : Ii × Pm) => ∃ ia, u = (upR ia 17 0 σ, pm) ∧ MXH ia (pushN hn) (pushH hn hist σ) ∧ FH I ia) (fun (u : Ii × Pm) t => Wd G u.1 u.2 t.heap) (AA G)) args s 0 0 (AA G)) (upR (shA I j) 17 0 σ) pm [(0, .ref (G.2.2 16 0)), (1, .int xj)] 11 [] := by
    intro h6e
    refine dn_ind ?_
    intro j hj1 ih xj ej
    have e4 : shA I j 16 0 4 = nI 6 := (shA_k (by decide)).trans (h6e ▸ M.1)
    refine g_iload_n F 1 dX6_records_11 rfl rfl ?_
    refine g_sipush (v := 820) F dX6_records_12 (by decide) ?_
    refine g_icmp_ge F 40 dX6_records_15 (by decide) (fun c_15 => ?_) (fun c_15 => ?_)
    · have n_15 := nx_get (a := j) (b := 820) ej rfl (by omega) (by omega) c_15
      refine g_aload_n F 0 dX6_records_40 rfl rfl ?_
      refine g_dup F dX6_records_41 rfl ?_
      refine gf_16_4 F (by decide) mFL_X6_40 dX6_records_42 ?_
      refine g_eqi (rd16 (by decide)) ?_
      refine g_iconst (v := 1) F dX6_records_45 (by decide) ?_
      refine g_isub F dX6_records_46 ?_
      refine gp_16_4 F (by decide) mFL_X6_40 dX6_records_47 ?_
      refine g_I (wr16 (by decide)) ?_
      refine g_iconst (v := 0) F dX6_records_50 (by decide) ?_
      refine g_istore_n (L' := [(1, _), (0, _)]) F dX6_records_51 rfl (by decide) rfl ?_
      refine g_sub [1, 0] rfl ?_
      refine g_I (I' := upR (rcB (up3 (shA I j) 16 0 4 (nI 5)) σ 5 0) 17 0 σ) (by rw [rcB_0]; exact congrArg (fun z => upR (up3 (shA I j) 16 0 4 z) 17 0 σ) (nx_sub e4 (b := 1) rfl (by decide))) ?_
      refine LOOPB _ 5 (by decide) up3_s (by unfold pushN; rw [if_neg (by omega)]) (fun K i cc h h' => ?_) (fun i hi k hk => ?_) (fun k => ?_) 0 (by decide) _ (by first | rfl | assumption)
      · rw [up3_n (fun e => h ⟨e.1, e.2.2⟩), shA_k h']
      · rw [up3_k (by decide)]
        unfold shA pushH
        rw [if_pos (by omega), if_neg (by omega)]
        simp only [if_neg (show ¬ i = 5 by omega)]
        rw [show 164 * i + k + 164 = 164 * (i + 1) + k by omega]
        exact M.2.2 (i + 1) (by omega) k hk
      · unfold pushH
        rw [if_neg (by omega)]
        simp
    · have n_15 := nx_gef (a := j) (b := 820) ej rfl (by omega) (by omega) c_15
      refine g_aload_n F 0 dX6_records_18 rfl rfl ?_
      refine gf_16_3 F (by decide) mFL_X6_16 dX6_records_19 ?_
      refine g_iload_n F 1 dX6_records_22 rfl rfl ?_
      refine g_aload_n F 0 dX6_records_23 rfl rfl ?_
      refine gf_16_3 F (by decide) mFL_X6_16 dX6_records_24 ?_
      refine g_iload_n F 1 dX6_records_27 rfl rfl ?_
      refine g_sipush (v := 164) F dX6_records_28 (by decide) ?_
      refine g_iadd F dX6_records_31 ?_
      refine ga_19 (j := (j + 164)) F (by decide) (nx_add ej rfl) (by omega) dX6_records_32 ?_
      refine g_eqi (rd16 (by decide)) ?_
      refine gs_19 (j := j) F (by decide) ej (by omega) dX6_records_33 ?_
      refine g_I (wr16 (by decide)) ?_
      refine g_iincC (q := 1) (L' := [(1, _), (0, _)]) F 1 dX6_records_34 (by decide) rfl (by decide) rfl ?_
      refine g_goto F 11 dX6_records_37 (by decide) ?_
      refine g_sub [1, 0] rfl ?_
      refine g_I (congrArg (fun z => upR z 17 0 σ) shA_s) ?_
      exact ih (by omega) _ (nx_add ej rfl)
  refine g_aload_n F 0 dX6_records_0 rfl rfl ?_
  refine gf_16_4 F (by decide) mFL_X6_40 dX6_records_1 ?_
  refine g_eqi (rd16 (by decide)) ?_
  refine g_bipush (v := 6) F dX6_records_4 (by decide) ?_
  refine g_icmp_ne F 50 dX6_records_6 (by decide) (fun c_6 => ?_) (fun c_6 => ?_)
  · have n_6 := nx_net (a := hn) (b := 6) M.1 rfl (by omega) (by omega) c_6
    refine g_iconst (v := 0) F dX6_records_50 (by decide) ?_
    refine g_istore_n (L' := [(1, _), (0, _)]) F dX6_records_51 rfl (by decide) rfl ?_
    refine g_sub [1, 0] rfl ?_
    refine g_I (congrArg (fun z => upR z 17 0 σ) (rcB_0 (σ := σ) (m := hn)).symm) ?_
    refine LOOPB I hn (by omega) M.1 (by unfold pushN; rw [if_pos (by omega)]) (fun _ _ _ _ _ => rfl) (fun i hi k hk => ?_) (fun k => ?_) 0 (by decide) _ (by first | rfl | assumption)
    · unfold pushH
      rw [if_pos (by omega)]
      simp only [if_neg (show ¬ i = hn by omega)]
      exact M.2.2 i hi k hk
    · unfold pushH
      rw [if_pos (by omega)]
      simp
  · have n_6 := nx_nef (a := hn) (b := 6) M.1 rfl (by omega) (by omega) c_6
    refine g_iconst (v := 0) F dX6_records_9 (by decide) ?_
    refine g_istore_n (L' := [(1, _), (0, _)]) F dX6_records_10 rfl (by decide) rfl ?_
    refine g_sub [1, 0] rfl ?_
    refine g_I (congrArg (fun z => upR z 17 0 σ) shA_0.symm) ?_
    exact LOOPA (by omega) 0 (by decide) _ (by first | rfl | assumption)
def paJ (I : Ii) (σ : Sg) (j : Nat) : Ii := fun K i c => if K = 18 ∧ i = 0 ∧ c < j then σ c else I K i c
theorem paJ_0 {I : Ii} {σ : Sg} : paJ I σ 0 = I := by
  funext K i c
  unfold paJ
  rw [if_neg (by omega)]
theorem paJ_s {I : Ii} {σ : Sg} {j : Nat} : up3 (paJ I σ j) 18 0 j (σ j) = paJ I σ (j + 1) := by
  funext K i c
  by_cases z : K = 18 ∧ i = 0 ∧ c = j
  · obtain ⟨rfl, rfl, rfl⟩ := z
    rw [up3_s]
    unfold paJ
    rw [if_pos (by omega)]
  · rw [up3_n z]
    unfold paJ
    by_cases q : K = 18 ∧ i = 0 ∧ c < j
    · rw [if_pos q, if_pos (by omega)]
    · rw [if_neg q, if_neg (by omega)]
theorem paJ_k {I : Ii} {σ : Sg} {j K i c : Nat} (h : K ≠ 18) : paJ I σ j K i c = I K i c := by
  unfold paJ
  rw [if_neg (fun q => h q.1)]
theorem paJ_at {I : Ii} {σ : Sg} {j c : Nat} (h : c < j) : paJ I σ j 18 0 c = σ c := if_pos ⟨rfl, rfl, h⟩
def tbJ (g : Nat → Int32) (σ : Sg) (j : Nat) : Sg := fun i => if i < j then g i else σ i
theorem tbJ_0 {g : Nat → Int32} {σ : Sg} : tbJ g σ 0 = σ := by
  funext i
  unfold tbJ
  rw [if_neg (by omega)]
theorem tbJ_s {g : Nat → Int32} {σ : Sg} {j : Nat} : upd (tbJ g σ j) j (g j) = tbJ g σ (j + 1) := by
  funext i
  by_cases c : i = j
  · rw [c, upd_s]
    unfold tbJ
    rw [if_pos (by omega)]
  · rw [upd_n c]
    unfold tbJ
    by_cases q : i < j
    · rw [if_pos q, if_pos (by omega)]
    · rw [if_neg q, if_neg (by omega)]
set_option maxHeartbeats 4000000 in
set_option maxRecDepth 100000 in
theorem c_X6_putAside {l : Launch} {G : Gm} (hj : Aj G) {I : Ii} {pm : Pm} {σ : Sg} : CV l G yX6_putAside (wz yX6_putAside cX6_putAside 2 none) (rmL 0) [.ref (G.2.2 16 0)] (upR I 17 0 σ) pm (fun u => u = (upR (paJ I σ 164) 17 0 σ, pm)) := by
  refine CV.walk hj (by decide +kernel) (by show _ ≤ 2; exact Nat.le_of_ble_eq_true rfl) ?_
  intro p e s m args below meth c F hr hlk
  have LOOP : ∀ j, j ≤ 164 → ∀ xj, xj = nI j → GG p l e (rmL 0) s m args below meth c G (AA G) 2 0 0 (MQ below (va_Qv (fun (u : Ii × Pm) => u = (upR (paJ I σ 164) 17 0 σ, pm)) (fun (u : Ii × Pm) t => Wd G u.1 u.2 t.heap) (AA G)) args s 0 0 (AA G)) (upR (paJ I σ j) 17 0 σ) pm [(0, .ref (G.2.2 16 0)), (1, .int xj)] 2 [] := by
    refine dn_ind ?_
    intro j hj1 ih xj ej
    refine g_iload_n F 1 dX6_putAside_2 rfl rfl ?_
    refine g_sipush (v := 164) F dX6_putAside_3 (by decide) ?_
    refine g_icmp_ge F 27 dX6_putAside_6 (by decide) (fun c_6 => ?_) (fun c_6 => ?_)
    · have n_6 := nx_get (a := j) (b := 164) ej rfl (by omega) (by omega) c_6
      refine g_vret F hr hlk dX6_putAside_27 ?_
      rw [show j = 164 by omega]
    · have n_6 := nx_gef (a := j) (b := 164) ej rfl (by omega) (by omega) c_6
      refine g_aload_n F 0 dX6_putAside_9 rfl rfl ?_
      refine gf_16_2 F (by decide) mFL_X6_13 dX6_putAside_10 ?_
      refine g_iload_n F 1 dX6_putAside_13 rfl rfl ?_
      refine g_aload_n F 0 dX6_putAside_14 rfl rfl ?_
      refine gf_16_1 F (by decide) mFL_X6_7 dX6_putAside_15 ?_
      refine g_iload_n F 1 dX6_putAside_18 rfl rfl ?_
      refine ga_17 (j := j) F (by decide) ej (by omega) dX6_putAside_19 ?_
      refine g_eqi rd17 ?_
      refine gs_18 (j := j) F (by decide) ej (by omega) dX6_putAside_20 ?_
      refine g_I (wr16 (by decide)) ?_
      refine g_iincC (q := 1) (L' := [(1, _), (0, _)]) F 1 dX6_putAside_21 (by decide) rfl (by decide) rfl ?_
      refine g_goto F 2 dX6_putAside_24 (by decide) ?_
      refine g_sub [1, 0] rfl ?_
      refine g_I (congrArg (fun z => upR z 17 0 σ) paJ_s) ?_
      exact ih (by omega) _ (nx_add ej rfl)
  refine g_iconst (v := 0) F dX6_putAside_0 (by decide) ?_
  refine g_istore_n (L' := [(1, _), (0, _)]) F dX6_putAside_1 rfl (by decide) rfl ?_
  refine g_sub [1, 0] rfl ?_
  refine g_I (congrArg (fun z => upR z 17 0 σ) (paJ_0 (σ := σ)).symm) ?_
  exact LOOP 0 (by decide) _ (by first | rfl | assumption)
set_option maxHeartbeats 4000000 in
set_option maxRecDepth 100000 in
theorem c_X6_takeBack {l : Launch} {G : Gm} (hj : Aj G) {I : Ii} {pm : Pm} {σ : Sg} : CV l G yX6_takeBack (wz yX6_takeBack cX6_takeBack 2 none) (rmL 0) [.ref (G.2.2 16 0)] (upR I 17 0 σ) pm (fun u => u = (upR I 17 0 (tbJ (I 18 0) σ 164), pm)) := by
  refine CV.walk hj (by decide +kernel) (by show _ ≤ 2; exact Nat.le_of_ble_eq_true rfl) ?_
  intro p e s m args below meth c F hr hlk
  have LOOP : ∀ j, j ≤ 164 → ∀ xj, xj = nI j → GG p l e (rmL 0) s m args below meth c G (AA G) 2 0 0 (MQ below (va_Qv (fun (u : Ii × Pm) => u = (upR I 17 0 (tbJ (I 18 0) σ 164), pm)) (fun (u : Ii × Pm) t => Wd G u.1 u.2 t.heap) (AA G)) args s 0 0 (AA G)) (upR I 17 0 (tbJ (I 18 0) σ j)) pm [(0, .ref (G.2.2 16 0)), (1, .int xj)] 2 [] := by
    refine dn_ind ?_
    intro j hj1 ih xj ej
    refine g_iload_n F 1 dX6_takeBack_2 rfl rfl ?_
    refine g_sipush (v := 164) F dX6_takeBack_3 (by decide) ?_
    refine g_icmp_ge F 27 dX6_takeBack_6 (by decide) (fun c_6 => ?_) (fun c_6 => ?_)
    · have n_6 := nx_get (a := j) (b := 164) ej rfl (by omega) (by omega) c_6
      refine g_vret F hr hlk dX6_takeBack_27 ?_
      rw [show j = 164 by omega]
    · have n_6 := nx_gef (a := j) (b := 164) ej rfl (by omega) (by omega) c_6
      refine g_aload_n F 0 dX6_takeBack_9 rfl rfl ?_
      refine gf_16_1 F (by decide) mFL_X6_7 dX6_takeBack_10 ?_
      refine g_iload_n F 1 dX6_takeBack_13 rfl rfl ?_
      refine g_aload_n F 0 dX6_takeBack_14 rfl rfl ?_
      refine gf_16_2 F (by decide) mFL_X6_13 dX6_takeBack_15 ?_
      refine g_iload_n F 1 dX6_takeBack_18 rfl rfl ?_
      refine ga_18 (j := j) F (by decide) ej (by omega) dX6_takeBack_19 ?_
      refine g_eqi (rd16 (by decide)) ?_
      refine gs_17 (j := j) F (by decide) ej (by omega) dX6_takeBack_20 ?_
      refine g_I wr17 ?_
      refine g_iincC (q := 1) (L' := [(1, _), (0, _)]) F 1 dX6_takeBack_21 (by decide) rfl (by decide) rfl ?_
      refine g_goto F 2 dX6_takeBack_24 (by decide) ?_
      refine g_sub [1, 0] rfl ?_
      refine g_I (congrArg (fun z => upR I 17 0 z) tbJ_s) ?_
      exact ih (by omega) _ (nx_add ej rfl)
  refine g_iconst (v := 0) F dX6_takeBack_0 (by decide) ?_
  refine g_istore_n (L' := [(1, _), (0, _)]) F dX6_takeBack_1 rfl (by decide) rfl ?_
  refine g_sub [1, 0] rfl ?_
  refine g_I (congrArg (fun z => upR I 17 0 z) (tbJ_0 (g := I 18 0)).symm) ?_
  exact LOOP 0 (by decide) _ (by first | rfl | assumption)
