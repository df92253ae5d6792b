/-! PART 36: the reference: what if, undo, slots -/
def FA (I I' : Ii) : Prop := ∀ K i c, ¬ (K = 16 ∧ c = 0) → K ≠ 18 → I' K i c = I K i c
theorem FA.aside {I : Ii} {σ : Sg} : FA I (paJ (up3 I 16 0 0 0) σ 164) := fun K i c h h8 => (paJ_k h8).trans (up3_n (fun e => h ⟨e.1, e.2.2⟩))
theorem tbJ_in {g : Nat → Int32} {σ τ : Sg} (h : ∀ k, k < 164 → g k = σ k) : ∀ k, k < 164 → tbJ g τ 164 k = σ k := fun k hk => by
  unfold tbJ
  rw [if_pos hk]
  exact h k hk
def MBK (I : Ii) (pm : Pm) (u : Ii × Pm) (σ : Sg) : Prop := ∃ τ ia, u = (upR ia 17 0 τ, pm) ∧ (∀ k, k < 164 → τ k = σ k) ∧ FA I ia
theorem MBK.thr {I : Ii} {pm : Pm} {σ : Sg} : MBK I pm (upR (up3 I 16 0 0 0) 17 0 σ, pm) σ := ⟨σ, _, rfl, fun _ _ => rfl, fun _ _ _ h _ => up3_n (fun e => h ⟨e.1, e.2.2⟩)⟩
def svB (I : Ii) (σ : Sg) (m j : Nat) : Ii := fun K i c => if K = 20 ∧ i = 0 ∧ 164 * m ≤ c ∧ c < 164 * m + j then σ (c - 164 * m) else I K i c
theorem svB_0 {I : Ii} {σ : Sg} {m : Nat} : svB I σ m 0 = I := by
  funext K i c
  unfold svB
  rw [if_neg (by omega)]
theorem svB_s {I : Ii} {σ : Sg} {m j : Nat} : up3 (svB I σ m j) 20 0 (164 * m + j) (σ j) = svB I σ m (j + 1) := by
  funext K i c
  by_cases z : K = 20 ∧ i = 0 ∧ c = 164 * m + j
  · obtain ⟨rfl, rfl, rfl⟩ := z
    rw [up3_s]
    unfold svB
    rw [if_pos (by omega), show 164 * m + j - 164 * m = j by omega]
  · rw [up3_n z]
    unfold svB
    by_cases q : K = 20 ∧ i = 0 ∧ 164 * m ≤ c ∧ c < 164 * m + j
    · rw [if_pos q, if_pos (by omega)]
    · rw [if_neg q, if_neg (by omega)]

set_option maxHeartbeats 4000000 in
set_option maxRecDepth 100000 in
theorem c_X6_reaches {l : Launch} {G : Gm} (hj : Aj G) {I : Ii} {pm : Pm} {σ : Sg} {n h : Nat} (V : Iv n h σ) {a b : Int32} : CI l G yX6_reaches (wz yX6_reaches cX6_reaches 5 (some .int)) (rmL 6) [.ref (G.2.2 16 0), .int a, .int b] (upR I 17 0 σ) pm (fun r u => r = reachS σ a b ∧ MBK I pm u σ) := by
  refine CI.walk hj (by decide +kernel) (by show _ ≤ 5; exact Nat.le_of_ble_eq_true rfl) ?_
  intro p e s m args below meth c F hr hlk
  have hn8 := V.2.1
  have hh20 := V.2.2.2.1
  have hne := V.nofe
  have hhe := V.hofe
  have LOOP : rkS σ a n < n → (0 ≤ b ∧ b ≤ 7) → ∀ x3, x3 = nI (rkS σ a n) → ∀ ia, FA I ia → (∀ k, k < 164 → ia 18 0 k = σ k) → ∀ j, j ≤ 1001 → (∀ i, i < j → rchP n h σ (rkS σ a n) b i = false) → ∀ (xj : Int32), xj = nI j → GG p l e (rmL 6) s m args below meth c G (AA G) 5 0 0 (MQ below (va_Qi (fun (r : Int32) (u : Ii × Pm) => r = reachS σ a b ∧ MBK I pm u σ) (fun (u : Ii × Pm) t => Wd G u.1 u.2 t.heap) (AA G)) args s 0 0 (AA G)) (upR ia 17 0 ((itS n h σ j).1)) pm [(0, .ref (G.2.2 16 0)), (1, .int a), (2, .int b), (3, .int x3), (4, .int xj)] 36 [] := by
    intro hlr hb x3 e3 ia fm h18
    refine dn_ind ?_
    intro j hjl ih hno xj ej
    refine g_iload F 4 dX6_reaches_36 rfl ?_
    refine g_sipush (v := 1000) F dX6_reaches_38 (by decide) ?_
    refine g_icmp_gt F 64 dX6_reaches_41 (by decide) (fun c_41 => ?_) (fun c_41 => ?_)
    · have n_41 := nx_gtt (a := j) (b := 1000) ej rfl (by omega) (by omega) c_41
      refine g_aload_n F 0 dX6_reaches_64 rfl rfl ?_
      refine g_callVv (na := 0) F 16 _ (c_X6_takeBack hj) (by decide) rfl rfl lk_X6_127 rfl rfl (by decide +kernel) ⟨rfl, rfl, Nat.le_of_ble_eq_true rfl, Nat.le_of_ble_eq_true rfl, Nat.le_of_ble_eq_true rfl, Nat.le_of_ble_eq_true rfl, Nat.le_of_ble_eq_true rfl⟩ dX6_reaches_65 (fun u_65 h_65 => ?_)
      subst h_65
      try dsimp only
      refine g_iload F 4 dX6_reaches_68 rfl ?_
      refine g_sipush (v := 1000) F dX6_reaches_70 (by decide) ?_
      refine g_icmp_le F 81 dX6_reaches_73 (by decide) (fun c_73 => ?_) (fun c_73 => ?_)
      · have n_73 := nx_let (a := j) (b := 1000) ej rfl (by omega) (by omega) c_73
        refine g_iload F 4 dX6_reaches_81 rfl ?_
        refine g_iret F hr hlk rfl dX6_reaches_83 ?_
        refine ⟨?_, _, ia, rfl, tbJ_in h18, fm⟩
        unfold reachS
        rw [hne, hhe, if_pos ⟨hlr, hb⟩]
        first
        | rw [unt_at hno (decide_eq_true c_50) (by omega), ej]
        | omega
      · have n_73 := nx_lef (a := j) (b := 1000) ej rfl (by omega) (by omega) c_73
        refine g_bipush (v := -6) F dX6_reaches_76 (by decide) ?_
        refine g_goto F 83 dX6_reaches_78 (by decide) ?_
        refine g_iret F hr hlk rfl dX6_reaches_83 ?_
        refine ⟨?_, _, ia, rfl, tbJ_in h18, fm⟩
        unfold reachS
        rw [hne, hhe, if_pos ⟨hlr, hb⟩]
        first
        | rw [unt_no (fun i hi => hno i (by omega))]
        | omega
    · have n_41 := nx_gtf (a := j) (b := 1000) ej rfl (by omega) (by omega) c_41
      refine g_aload_n F 0 dX6_reaches_44 rfl rfl ?_
      refine g_iload_n F 3 dX6_reaches_45 rfl rfl ?_
      refine g_callIv (na := 1) F 16 _ (c_X6_blockOf hj e3 (by omega)) (by decide) rfl rfl lk_X6_43 rfl rfl (by decide +kernel) ⟨rfl, rfl, Nat.le_of_ble_eq_true rfl, Nat.le_of_ble_eq_true rfl, Nat.le_of_ble_eq_true rfl, Nat.le_of_ble_eq_true rfl, Nat.le_of_ble_eq_true rfl⟩ dX6_reaches_46 (fun r_46 u_46 h_46 => ?_)
      obtain ⟨rfl, rfl⟩ := h_46
      try dsimp only
      refine g_iload_n F 2 dX6_reaches_49 rfl rfl ?_
      refine g_icmp_eq F 64 dX6_reaches_50 (by decide) (fun c_50 => ?_) (fun c_50 => ?_)
      · refine g_aload_n F 0 dX6_reaches_64 rfl rfl ?_
        refine g_callVv (na := 0) F 16 _ (c_X6_takeBack hj) (by decide) rfl rfl lk_X6_127 rfl rfl (by decide +kernel) ⟨rfl, rfl, Nat.le_of_ble_eq_true rfl, Nat.le_of_ble_eq_true rfl, Nat.le_of_ble_eq_true rfl, Nat.le_of_ble_eq_true rfl, Nat.le_of_ble_eq_true rfl⟩ dX6_reaches_65 (fun u_65 h_65 => ?_)
        subst h_65
        try dsimp only
        refine g_iload F 4 dX6_reaches_68 rfl ?_
        refine g_sipush (v := 1000) F dX6_reaches_70 (by decide) ?_
        refine g_icmp_le F 81 dX6_reaches_73 (by decide) (fun c_73 => ?_) (fun c_73 => ?_)
        · have n_73 := nx_let (a := j) (b := 1000) ej rfl (by omega) (by omega) c_73
          refine g_iload F 4 dX6_reaches_81 rfl ?_
          refine g_iret F hr hlk rfl dX6_reaches_83 ?_
          refine ⟨?_, _, ia, rfl, tbJ_in h18, fm⟩
          unfold reachS
          rw [hne, hhe, if_pos ⟨hlr, hb⟩]
          first
          | rw [unt_at hno (decide_eq_true c_50) (by omega), ej]
          | omega
        · have n_73 := nx_lef (a := j) (b := 1000) ej rfl (by omega) (by omega) c_73
          refine g_bipush (v := -6) F dX6_reaches_76 (by decide) ?_
          refine g_goto F 83 dX6_reaches_78 (by decide) ?_
          refine g_iret F hr hlk rfl dX6_reaches_83 ?_
          refine ⟨?_, _, ia, rfl, tbJ_in h18, fm⟩
          unfold reachS
          rw [hne, hhe, if_pos ⟨hlr, hb⟩]
          first
          | rw [unt_no (fun i hi => hno i (by omega))]
          | omega
      · refine g_aload_n F 0 dX6_reaches_53 rfl rfl ?_
        refine g_callIv (na := 0) F 16 _ (c_X6_tick hj (V.it j)) (by decide) rfl rfl lk_X6_84 rfl rfl (by decide +kernel) ⟨rfl, rfl, Nat.le_of_ble_eq_true rfl, Nat.le_of_ble_eq_true rfl, Nat.le_of_ble_eq_true rfl, Nat.le_of_ble_eq_true rfl, Nat.le_of_ble_eq_true rfl⟩ dX6_reaches_54 (fun r_54 u_54 h_54 => ?_)
        obtain ⟨rfl, rfl⟩ := h_54
        try dsimp only
        refine g_pop F dX6_reaches_57 rfl ?_
        refine g_iincC (q := 1) (L' := [(4, _), (0, _), (1, _), (2, _), (3, _)]) F 4 dX6_reaches_58 (by decide) rfl (by decide) rfl ?_
        refine g_goto F 36 dX6_reaches_61 (by decide) ?_
        refine g_sub [1, 2, 3, 4, 0] rfl ?_
        exact ih (by omega) (fun i hi => by
          by_cases e : i = j
          · rw [e]
            exact decide_eq_false (fun q => c_50 q)
          · exact hno i (by omega)) _ (nx_add ej rfl)
  refine g_aload_n F 0 dX6_reaches_0 rfl rfl ?_
  refine g_iconst (v := 0) F dX6_reaches_1 (by decide) ?_
  refine gp_16_0 F (by decide) mFL_X6_32 dX6_reaches_2 ?_
  refine g_I (wr16 (by decide)) ?_
  refine g_aload_n F 0 dX6_reaches_5 rfl rfl ?_
  refine g_iload_n F 1 dX6_reaches_6 rfl rfl ?_
  refine g_callIv (na := 1) F 16 _ (c_X6_locoOf hj V.1 hn8) (by decide) rfl rfl lk_X6_87 rfl rfl (by decide +kernel) ⟨rfl, rfl, Nat.le_of_ble_eq_true rfl, Nat.le_of_ble_eq_true rfl, Nat.le_of_ble_eq_true rfl, Nat.le_of_ble_eq_true rfl, Nat.le_of_ble_eq_true rfl⟩ dX6_reaches_7 (fun r_7 u_7 h_7 => ?_)
  obtain ⟨rfl, rfl⟩ := h_7
  try dsimp only
  refine g_topi (fun x3_10 ex3_10 => ?_)
  refine g_istore_n (L' := [(3, _), (0, _), (1, _), (2, _)]) F dX6_reaches_10 rfl (by decide) rfl ?_
  refine g_iload_n F 0 dX6_reaches_11 rfl rfl ?_
  refine g_bipush (v := -6) F dX6_reaches_12 (by decide) ?_
  refine g_icmp_eq F 27 dX6_reaches_14 (by decide) (fun c_14 => ?_) (fun c_14 => ?_)
  · have NR : ¬ rkS σ a n < n := lco_f hn8 (ex3_10.symm.trans c_14)
    refine g_iconst (v := -1) F dX6_reaches_27 (by decide) ?_
    refine g_iret F hr hlk rfl dX6_reaches_28 ?_
    first
    | exact ⟨by unfold reachS; rw [hne, if_neg (fun q => N24 q.2)], MBK.thr⟩
    | exact ⟨by unfold reachS; rw [hne, if_neg (fun q => NR q.1)], MBK.thr⟩
  · have RK : rkS σ a n < n ∧ x3_10 = nI (rkS σ a n) := by
      have := lco_t (σ := σ) (a := a) (n := n) (by rw [← ex3_10]; exact c_14)
      exact ⟨this.1, ex3_10.trans this.2⟩
    have LK := V.2.2.2.2.1 _ RK.1
    refine g_iload_n F 3 dX6_reaches_17 rfl rfl ?_
    refine g_iconst (v := 0) F dX6_reaches_18 (by decide) ?_
    refine g_bipush (v := 7) F dX6_reaches_19 (by decide) ?_
    refine g_callIs (na := 3) F (c_X6_in hj) lk_X6_54 rfl rfl (by decide +kernel) ⟨rfl, rfl, Nat.le_of_ble_eq_true rfl, Nat.le_of_ble_eq_true rfl, Nat.le_of_ble_eq_true rfl, Nat.le_of_ble_eq_true rfl, Nat.le_of_ble_eq_true rfl⟩ dX6_reaches_21 (fun r_21 u_21 h_21 => ?_)
    obtain ⟨rfl, rfl⟩ := h_21
    try dsimp only
    refine g_if_ne F 29 dX6_reaches_24 (by decide) (fun c_24 => ?_) (fun c_24 => ?_)
    · have P24 := bz_n.mp c_24
      refine g_aload_n F 1 dX6_reaches_29 rfl rfl ?_
      refine g_callVv (na := 0) F 16 _ (c_X6_putAside hj) (by decide) rfl rfl lk_X6_124 rfl rfl (by decide +kernel) ⟨rfl, rfl, Nat.le_of_ble_eq_true rfl, Nat.le_of_ble_eq_true rfl, Nat.le_of_ble_eq_true rfl, Nat.le_of_ble_eq_true rfl, Nat.le_of_ble_eq_true rfl⟩ dX6_reaches_30 (fun u_30 h_30 => ?_)
      subst h_30
      try dsimp only
      refine g_iconst (v := 0) F dX6_reaches_33 (by decide) ?_
      refine g_istore (L' := [(4, _), (3, _), (0, _), (1, _), (2, _)]) F dX6_reaches_34 (by decide) rfl ?_
      refine g_sub [2, 3, 4, 1, 0] rfl ?_
      exact LOOP RK.1 P24 _ RK.2 _ FA.aside (fun k hk => paJ_at hk) 0 (Nat.zero_le _) (fun i hi => absurd hi (by omega)) _ (by first | rfl | assumption)
    · have N24 := bz_0.mp c_24
      refine g_iconst (v := -1) F dX6_reaches_27 (by decide) ?_
      refine g_iret F hr hlk rfl dX6_reaches_28 ?_
      first
      | exact ⟨by unfold reachS; rw [hne, if_neg (fun q => N24 q.2)], MBK.thr⟩
      | exact ⟨by unfold reachS; rw [hne, if_neg (fun q => NR q.1)], MBK.thr⟩
set_option maxHeartbeats 4000000 in
set_option maxRecDepth 100000 in
theorem c_X6_meets {l : Launch} {G : Gm} (hj : Aj G) {I : Ii} {pm : Pm} {σ : Sg} {n h : Nat} (V : Iv n h σ) {a b : Int32} : CI l G yX6_meets (wz yX6_meets cX6_meets 6 (some .int)) (rmL 6) [.ref (G.2.2 16 0), .int a, .int b] (upR I 17 0 σ) pm (fun r u => r = meetS σ a b ∧ MBK I pm u σ) := by
  refine CI.walk hj (by decide +kernel) (by show _ ≤ 6; exact Nat.le_of_ble_eq_true rfl) ?_
  intro p e s m args below meth c F hr hlk
  have hn8 := V.2.1
  have hh20 := V.2.2.2.1
  have hne := V.nofe
  have hhe := V.hofe
  have LOOP : rkS σ a n < n → rkS σ b n < n → ¬ a = b → ∀ x3 x4, x3 = nI (rkS σ a n) → x4 = nI (rkS σ b n) → ∀ ia, FA I ia → (∀ k, k < 164 → ia 18 0 k = σ k) → ∀ j, j ≤ 1001 → (∀ i, i < j → mtP n h σ (rkS σ a n) (rkS σ b n) i = false) → ∀ (xj : Int32), xj = nI j → GG p l e (rmL 6) s m args below meth c G (AA G) 6 0 0 (MQ below (va_Qi (fun (r : Int32) (u : Ii × Pm) => r = meetS σ a b ∧ MBK I pm u σ) (fun (u : Ii × Pm) t => Wd G u.1 u.2 t.heap) (AA G)) args s 0 0 (AA G)) (upR ia 17 0 ((itS n h σ j).1)) pm [(0, .ref (G.2.2 16 0)), (1, .int a), (2, .int b), (3, .int x3), (4, .int x4), (5, .int xj)] 48 [] := by
    intro hlr hlr2 hab x3 x4 e3 e4 ia fm h18
    refine dn_ind ?_
    intro j hjl ih hno xj ej
    refine g_iload F 5 dX6_meets_48 rfl ?_
    refine g_sipush (v := 1000) F dX6_meets_50 (by decide) ?_
    refine g_icmp_gt F 81 dX6_meets_53 (by decide) (fun c_53 => ?_) (fun c_53 => ?_)
    · have n_53 := nx_gtt (a := j) (b := 1000) ej rfl (by omega) (by omega) c_53
      refine g_aload_n F 0 dX6_meets_81 rfl rfl ?_
      refine g_callVv (na := 0) F 16 _ (c_X6_takeBack hj) (by decide) rfl rfl lk_X6_127 rfl rfl (by decide +kernel) ⟨rfl, rfl, Nat.le_of_ble_eq_true rfl, Nat.le_of_ble_eq_true rfl, Nat.le_of_ble_eq_true rfl, Nat.le_of_ble_eq_true rfl, Nat.le_of_ble_eq_true rfl⟩ dX6_meets_82 (fun u_82 h_82 => ?_)
      subst h_82
      try dsimp only
      refine g_iload F 5 dX6_meets_85 rfl ?_
      refine g_sipush (v := 1000) F dX6_meets_87 (by decide) ?_
      refine g_icmp_le F 98 dX6_meets_90 (by decide) (fun c_90 => ?_) (fun c_90 => ?_)
      · have n_90 := nx_let (a := j) (b := 1000) ej rfl (by omega) (by omega) c_90
        refine g_iload F 5 dX6_meets_98 rfl ?_
        refine g_iret F hr hlk rfl dX6_meets_100 ?_
        refine ⟨?_, _, ia, rfl, tbJ_in h18, fm⟩
        unfold meetS
        rw [hne, hhe, if_pos ⟨hlr, hlr2⟩, if_neg hab]
        first
        | rw [unt_at hno (decide_eq_true c_67) (by omega), ej]
        | omega
      · have n_90 := nx_lef (a := j) (b := 1000) ej rfl (by omega) (by omega) c_90
        refine g_bipush (v := -6) F dX6_meets_93 (by decide) ?_
        refine g_goto F 100 dX6_meets_95 (by decide) ?_
        refine g_iret F hr hlk rfl dX6_meets_100 ?_
        refine ⟨?_, _, ia, rfl, tbJ_in h18, fm⟩
        unfold meetS
        rw [hne, hhe, if_pos ⟨hlr, hlr2⟩, if_neg hab]
        first
        | rw [unt_no (fun i hi => hno i (by omega))]
        | omega
    · have n_53 := nx_gtf (a := j) (b := 1000) ej rfl (by omega) (by omega) c_53
      refine g_aload_n F 0 dX6_meets_56 rfl rfl ?_
      refine g_iload_n F 3 dX6_meets_57 rfl rfl ?_
      refine g_callIv (na := 1) F 16 _ (c_X6_blockOf hj e3 (by omega)) (by decide) rfl rfl lk_X6_43 rfl rfl (by decide +kernel) ⟨rfl, rfl, Nat.le_of_ble_eq_true rfl, Nat.le_of_ble_eq_true rfl, Nat.le_of_ble_eq_true rfl, Nat.le_of_ble_eq_true rfl, Nat.le_of_ble_eq_true rfl⟩ dX6_meets_58 (fun r_58 u_58 h_58 => ?_)
      obtain ⟨rfl, rfl⟩ := h_58
      try dsimp only
      refine g_aload_n F 0 dX6_meets_61 rfl rfl ?_
      refine g_iload F 4 dX6_meets_62 rfl ?_
      refine g_callIv (na := 1) F 16 _ (c_X6_blockOf hj e4 (by omega)) (by decide) rfl rfl lk_X6_43 rfl rfl (by decide +kernel) ⟨rfl, rfl, Nat.le_of_ble_eq_true rfl, Nat.le_of_ble_eq_true rfl, Nat.le_of_ble_eq_true rfl, Nat.le_of_ble_eq_true rfl, Nat.le_of_ble_eq_true rfl⟩ dX6_meets_64 (fun r_64 u_64 h_64 => ?_)
      obtain ⟨rfl, rfl⟩ := h_64
      try dsimp only
      refine g_icmp_eq F 81 dX6_meets_67 (by decide) (fun c_67 => ?_) (fun c_67 => ?_)
      · refine g_aload_n F 0 dX6_meets_81 rfl rfl ?_
        refine g_callVv (na := 0) F 16 _ (c_X6_takeBack hj) (by decide) rfl rfl lk_X6_127 rfl rfl (by decide +kernel) ⟨rfl, rfl, Nat.le_of_ble_eq_true rfl, Nat.le_of_ble_eq_true rfl, Nat.le_of_ble_eq_true rfl, Nat.le_of_ble_eq_true rfl, Nat.le_of_ble_eq_true rfl⟩ dX6_meets_82 (fun u_82 h_82 => ?_)
        subst h_82
        try dsimp only
        refine g_iload F 5 dX6_meets_85 rfl ?_
        refine g_sipush (v := 1000) F dX6_meets_87 (by decide) ?_
        refine g_icmp_le F 98 dX6_meets_90 (by decide) (fun c_90 => ?_) (fun c_90 => ?_)
        · have n_90 := nx_let (a := j) (b := 1000) ej rfl (by omega) (by omega) c_90
          refine g_iload F 5 dX6_meets_98 rfl ?_
          refine g_iret F hr hlk rfl dX6_meets_100 ?_
          refine ⟨?_, _, ia, rfl, tbJ_in h18, fm⟩
          unfold meetS
          rw [hne, hhe, if_pos ⟨hlr, hlr2⟩, if_neg hab]
          first
          | rw [unt_at hno (decide_eq_true c_67) (by omega), ej]
          | omega
        · have n_90 := nx_lef (a := j) (b := 1000) ej rfl (by omega) (by omega) c_90
          refine g_bipush (v := -6) F dX6_meets_93 (by decide) ?_
          refine g_goto F 100 dX6_meets_95 (by decide) ?_
          refine g_iret F hr hlk rfl dX6_meets_100 ?_
          refine ⟨?_, _, ia, rfl, tbJ_in h18, fm⟩
          unfold meetS
          rw [hne, hhe, if_pos ⟨hlr, hlr2⟩, if_neg hab]
          first
          | rw [unt_no (fun i hi => hno i (by omega))]
          | omega
      · refine g_aload_n F 0 dX6_meets_70 rfl rfl ?_
        refine g_callIv (na := 0) F 16 _ (c_X6_tick hj (V.it j)) (by decide) rfl rfl lk_X6_84 rfl rfl (by decide +kernel) ⟨rfl, rfl, Nat.le_of_ble_eq_true rfl, Nat.le_of_ble_eq_true rfl, Nat.le_of_ble_eq_true rfl, Nat.le_of_ble_eq_true rfl, Nat.le_of_ble_eq_true rfl⟩ dX6_meets_71 (fun r_71 u_71 h_71 => ?_)
        obtain ⟨rfl, rfl⟩ := h_71
        try dsimp only
        refine g_pop F dX6_meets_74 rfl ?_
        refine g_iincC (q := 1) (L' := [(5, _), (0, _), (1, _), (2, _), (3, _), (4, _)]) F 5 dX6_meets_75 (by decide) rfl (by decide) rfl ?_
        refine g_goto F 48 dX6_meets_78 (by decide) ?_
        refine g_sub [1, 2, 3, 4, 5, 0] rfl ?_
        exact ih (by omega) (fun i hi => by
          by_cases e : i = j
          · rw [e]
            exact decide_eq_false (fun q => c_67 q)
          · exact hno i (by omega)) _ (nx_add ej rfl)
  refine g_aload_n F 0 dX6_meets_0 rfl rfl ?_
  refine g_iconst (v := 0) F dX6_meets_1 (by decide) ?_
  refine gp_16_0 F (by decide) mFL_X6_32 dX6_meets_2 ?_
  refine g_I (wr16 (by decide)) ?_
  refine g_aload_n F 0 dX6_meets_5 rfl rfl ?_
  refine g_iload_n F 1 dX6_meets_6 rfl rfl ?_
  refine g_callIv (na := 1) F 16 _ (c_X6_locoOf hj V.1 hn8) (by decide) rfl rfl lk_X6_87 rfl rfl (by decide +kernel) ⟨rfl, rfl, Nat.le_of_ble_eq_true rfl, Nat.le_of_ble_eq_true rfl, Nat.le_of_ble_eq_true rfl, Nat.le_of_ble_eq_true rfl, Nat.le_of_ble_eq_true rfl⟩ dX6_meets_7 (fun r_7 u_7 h_7 => ?_)
  obtain ⟨rfl, rfl⟩ := h_7
  try dsimp only
  refine g_topi (fun x3_10 ex3_10 => ?_)
  refine g_istore_n (L' := [(3, _), (0, _), (1, _), (2, _)]) F dX6_meets_10 rfl (by decide) rfl ?_
  refine g_aload_n F 1 dX6_meets_11 rfl rfl ?_
  refine g_iload_n F 3 dX6_meets_12 rfl rfl ?_
  refine g_callIv (na := 1) F 16 _ (c_X6_locoOf hj V.1 hn8) (by decide) rfl rfl lk_X6_87 rfl rfl (by decide +kernel) ⟨rfl, rfl, Nat.le_of_ble_eq_true rfl, Nat.le_of_ble_eq_true rfl, Nat.le_of_ble_eq_true rfl, Nat.le_of_ble_eq_true rfl, Nat.le_of_ble_eq_true rfl⟩ dX6_meets_13 (fun r_13 u_13 h_13 => ?_)
  obtain ⟨rfl, rfl⟩ := h_13
  try dsimp only
  refine g_topi (fun x4_16 ex4_16 => ?_)
  refine g_istore (L' := [(4, _), (3, _), (0, _), (1, _), (2, _)]) F dX6_meets_16 (by decide) rfl ?_
  refine g_iload_n F 1 dX6_meets_18 rfl rfl ?_
  refine g_bipush (v := -6) F dX6_meets_19 (by decide) ?_
  refine g_icmp_eq F 31 dX6_meets_21 (by decide) (fun c_21 => ?_) (fun c_21 => ?_)
  · have NR : ¬ rkS σ a n < n := lco_f hn8 (ex3_10.symm.trans c_21)
    refine g_iconst (v := -1) F dX6_meets_31 (by decide) ?_
    refine g_iret F hr hlk rfl dX6_meets_32 ?_
    have NN : ¬ (rkS σ a n < n ∧ rkS σ b n < n) := by
      first
      | exact fun q => NR q.1
      | exact fun q => NR2 q.2
    exact ⟨by unfold meetS; rw [hne, if_neg NN], MBK.thr⟩
  · have RK : rkS σ a n < n ∧ x3_10 = nI (rkS σ a n) := by
      have := lco_t (σ := σ) (a := a) (n := n) (by rw [← ex3_10]; exact c_21)
      exact ⟨this.1, ex3_10.trans this.2⟩
    have LK := V.2.2.2.2.1 _ RK.1
    refine g_iload F 0 dX6_meets_24 rfl ?_
    refine g_bipush (v := -6) F dX6_meets_26 (by decide) ?_
    refine g_icmp_ne F 33 dX6_meets_28 (by decide) (fun c_28 => ?_) (fun c_28 => ?_)
    · have RK2 : rkS σ b n < n ∧ x4_16 = nI (rkS σ b n) := by
        have := lco_t (σ := σ) (a := b) (n := n) (by rw [← ex4_16]; exact c_28)
        exact ⟨this.1, ex4_16.trans this.2⟩
      have LK2 := V.2.2.2.2.1 _ RK2.1
      refine g_iload_n F 3 dX6_meets_33 rfl rfl ?_
      refine g_iload_n F 4 dX6_meets_34 rfl rfl ?_
      refine g_icmp_ne F 41 dX6_meets_35 (by decide) (fun c_35 => ?_) (fun c_35 => ?_)
      · refine g_aload_n F 2 dX6_meets_41 rfl rfl ?_
        refine g_callVv (na := 0) F 16 _ (c_X6_putAside hj) (by decide) rfl rfl lk_X6_124 rfl rfl (by decide +kernel) ⟨rfl, rfl, Nat.le_of_ble_eq_true rfl, Nat.le_of_ble_eq_true rfl, Nat.le_of_ble_eq_true rfl, Nat.le_of_ble_eq_true rfl, Nat.le_of_ble_eq_true rfl⟩ dX6_meets_42 (fun u_42 h_42 => ?_)
        subst h_42
        try dsimp only
        refine g_iconst (v := 0) F dX6_meets_45 (by decide) ?_
        refine g_istore (L' := [(5, _), (4, _), (3, _), (0, _), (1, _), (2, _)]) F dX6_meets_46 (by decide) rfl ?_
        refine g_sub [3, 4, 5, 2, 1, 0] rfl ?_
        exact LOOP RK.1 RK2.1 c_35 _ _ RK.2 RK2.2 _ FA.aside (fun k hk => paJ_at hk) 0 (Nat.zero_le _) (fun i hi => absurd hi (by omega)) _ (by first | rfl | assumption)
      · refine g_bipush (v := -2) F dX6_meets_38 (by decide) ?_
        refine g_iret F hr hlk rfl dX6_meets_40 ?_
        exact ⟨by unfold meetS; rw [hne, if_pos ⟨RK.1, RK2.1⟩, if_pos c_35], MBK.thr⟩
    · have NR2 : ¬ rkS σ b n < n := lco_f hn8 (ex4_16.symm.trans c_28)
      refine g_iconst (v := -1) F dX6_meets_31 (by decide) ?_
      refine g_iret F hr hlk rfl dX6_meets_32 ?_
      have NN : ¬ (rkS σ a n < n ∧ rkS σ b n < n) := by
        first
        | exact fun q => NR q.1
        | exact fun q => NR2 q.2
      exact ⟨by unfold meetS; rw [hne, if_neg NN], MBK.thr⟩
set_option maxHeartbeats 4000000 in
set_option maxRecDepth 100000 in
theorem c_X6_undo {l : Launch} {G : Gm} (hj : Aj G) {I : Ii} {pm : Pm} {σ : Sg} {hn : Nat} {hist : Nat → Sg} (M : MXH I hn hist) : CI l G yX6_undo (wz yX6_undo cX6_undo 2 (some .int)) (rmL 0) [.ref (G.2.2 16 0)] (upR I 17 0 σ) pm (fun r u => (hn = 0 ∧ r = -5 ∧ u = (upR (up3 I 16 0 0 0) 17 0 σ, pm)) ∨ (0 < hn ∧ r = nI (hn - 1) ∧ ∃ τ ia, u = (upR ia 17 0 τ, pm) ∧ (∀ k, k < 164 → τ k = hist (hn - 1) k) ∧ MXH ia (hn - 1) hist ∧ FM I ia)) := by
  refine CI.walk hj (by decide +kernel) (by show _ ≤ 2; exact Nat.le_of_ble_eq_true rfl) ?_
  intro p e s m args below meth c F hr hlk
  have h6 := M.2.1
  have LOOP : 0 < hn → ∀ ia, MXH ia (hn - 1) hist → FM I ia → (∀ k, k < 164 → ia 19 0 (164 * (hn - 1) + k) = hist (hn - 1) k) → ∀ j, j ≤ 164 → ∀ (xj : Int32), xj = nI j → GG p l e (rmL 0) s m args below meth c G (AA G) 2 0 0 (MQ below (va_Qi (fun (r : Int32) (u : Ii × Pm) => (hn = 0 ∧ r = -5 ∧ u = (upR (up3 I 16 0 0 0) 17 0 σ, pm)) ∨ (0 < hn ∧ r = nI (hn - 1) ∧ ∃ τ ia, u = (upR ia 17 0 τ, pm) ∧ (∀ k, k < 164 → τ k = hist (hn - 1) k) ∧ MXH ia (hn - 1) hist ∧ FM I ia)) (fun (u : Ii × Pm) t => Wd G u.1 u.2 t.heap) (AA G)) args s 0 0 (AA G)) (upR ia 17 0 (tbJ (fun k => ia 19 0 (164 * (hn - 1) + k)) σ j)) pm [(0, .ref (G.2.2 16 0)), (1, .int xj)] 27 [] := by
    intro h0 ia M2 fm hh
    refine dn_ind ?_
    intro j hjl ih xj ej
    refine g_iload_n F 1 dX6_undo_27 rfl rfl ?_
    refine g_sipush (v := 164) F dX6_undo_28 (by decide) ?_
    refine g_icmp_ge F 61 dX6_undo_31 (by decide) (fun c_31 => ?_) (fun c_31 => ?_)
    · have n_31 := nx_get (a := j) (b := 164) ej rfl (by omega) (by omega) c_31
      refine g_aload_n F 0 dX6_undo_61 rfl rfl ?_
      refine gf_16_4 F (by decide) mFL_X6_40 dX6_undo_62 ?_
      refine g_eqi (rd16 (by decide)) ?_
      refine g_iret F hr hlk rfl dX6_undo_65 ?_
      exact Or.inr ⟨h0, M2.1, _, ia, rfl, by rw [show j = 164 by omega]; exact tbJ_in hh, M2, fm⟩
    · have n_31 := nx_gef (a := j) (b := 164) ej rfl (by omega) (by omega) c_31
      refine g_aload_n F 0 dX6_undo_34 rfl rfl ?_
      refine gf_16_1 F (by decide) mFL_X6_7 dX6_undo_35 ?_
      refine g_iload_n F 1 dX6_undo_38 rfl rfl ?_
      refine g_aload_n F 0 dX6_undo_39 rfl rfl ?_
      refine gf_16_3 F (by decide) mFL_X6_16 dX6_undo_40 ?_
      refine g_sipush (v := 164) F dX6_undo_43 (by decide) ?_
      refine g_aload_n F 0 dX6_undo_46 rfl rfl ?_
      refine gf_16_4 F (by decide) mFL_X6_40 dX6_undo_47 ?_
      refine g_eqi (rd16 (by decide)) ?_
      refine g_imul F dX6_undo_50 ?_
      refine g_iload_n F 1 dX6_undo_51 rfl rfl ?_
      refine g_iadd F dX6_undo_52 ?_
      refine ga_19 (j := ((164 * (hn - 1)) + j)) F (by decide) (nx_add (nx_mul rfl M2.1) ej) (by omega) dX6_undo_53 ?_
      refine g_eqi (rd16 (by decide)) ?_
      refine gs_17 (j := j) F (by decide) ej (by omega) dX6_undo_54 ?_
      refine g_I wr17 ?_
      refine g_iincC (q := 1) (L' := [(1, _), (0, _)]) F 1 dX6_undo_55 (by decide) rfl (by decide) rfl ?_
      refine g_goto F 27 dX6_undo_58 (by decide) ?_
      refine g_sub [1, 0] rfl ?_
      refine g_I (congrArg (fun z => upR ia 17 0 z) (tbJ_s (g := fun k => ia 19 0 (164 * (hn - 1) + k)))) ?_
      exact ih (by omega) _ (nx_add ej rfl)
  refine g_aload_n F 0 dX6_undo_0 rfl rfl ?_
  refine g_iconst (v := 0) F dX6_undo_1 (by decide) ?_
  refine gp_16_0 F (by decide) mFL_X6_32 dX6_undo_2 ?_
  refine g_I (wr16 (by decide)) ?_
  refine g_aload_n F 0 dX6_undo_5 rfl rfl ?_
  refine gf_16_4 F (by decide) mFL_X6_40 dX6_undo_6 ?_
  refine g_eqi (rd16 (by decide)) ?_
  refine g_if_ne F 15 dX6_undo_9 (by decide) (fun c_9 => ?_) (fun c_9 => ?_)
  · have n_9 := nx_net (a := hn) (b := 0) M.thr.1 rfl (by omega) (by omega) c_9
    refine g_aload_n F 0 dX6_undo_15 rfl rfl ?_
    refine g_dup F dX6_undo_16 rfl ?_
    refine gf_16_4 F (by decide) mFL_X6_40 dX6_undo_17 ?_
    refine g_eqi (rd16 (by decide)) ?_
    refine g_iconst (v := 1) F dX6_undo_20 (by decide) ?_
    refine g_isub F dX6_undo_21 ?_
    refine gp_16_4 F (by decide) mFL_X6_40 dX6_undo_22 ?_
    refine g_I (wr16 (by decide)) ?_
    refine g_iconst (v := 0) F dX6_undo_25 (by decide) ?_
    refine g_istore_n (L' := [(1, _), (0, _)]) F dX6_undo_26 rfl (by decide) rfl ?_
    refine g_sub [1, 0] rfl ?_
    have e1 : up3 I 16 0 0 0 16 0 4 - 1 = nI (hn - 1) := nx_sub M.thr.1 (b := 1) rfl (by omega)
    refine g_I (congrArg (fun z => upR (up3 (up3 I 16 0 0 0) 16 0 4 (up3 I 16 0 0 0 16 0 4 - 1)) 17 0 z) (tbJ_0 (g := fun k => up3 (up3 I 16 0 0 0) 16 0 4 (up3 I 16 0 0 0 16 0 4 - 1) 19 0 (164 * (hn - 1) + k))).symm) ?_
    exact LOOP (by omega) _ ⟨up3_s.trans e1, by omega, fun i hi k hk => (up3_k (by decide)).trans (M.thr.2.2 i (by omega) k hk)⟩ (fun K i cc hh h8 h9 => (up3_n (fun e => hh ⟨e.1, Or.inr e.2.2⟩)).trans (FM.thr K i cc hh h8 h9)) (fun k hk => (up3_k (by decide)).trans (M.thr.2.2 (hn - 1) (by omega) k hk)) 0 (by decide) _ (by first | rfl | assumption)
  · have n_9 := nx_nef (a := hn) (b := 0) M.thr.1 rfl (by omega) (by omega) c_9
    refine g_bipush (v := -5) F dX6_undo_12 (by decide) ?_
    refine g_iret F hr hlk rfl dX6_undo_14 ?_
    exact Or.inl ⟨by omega, rfl, rfl⟩
set_option maxHeartbeats 4000000 in
set_option maxRecDepth 100000 in
theorem c_X6_save {l : Launch} {G : Gm} (hj : Aj G) {I : Ii} {pm : Pm} {σ : Sg} {x : Int32} : CI l G yX6_save (wz yX6_save cX6_save 3 (some .int)) (rmL 1) [.ref (G.2.2 16 0), .int x] (upR I 17 0 σ) pm (fun r u => (¬ (0 ≤ x ∧ x ≤ 1) ∧ r = -2 ∧ u = (upR (up3 I 16 0 0 0) 17 0 σ, pm)) ∨ ((0 ≤ x ∧ x ≤ 1) ∧ r = σ 6 ∧ ∃ ia, u = (upR ia 17 0 σ, pm) ∧ (∀ k, k < 164 → ia 20 0 (164 * x.toInt.toNat + k) = σ k) ∧ ia 21 0 x.toInt.toNat = 1 ∧ ∀ K i c, ¬ (K = 16 ∧ c = 0) → ¬ (K = 20 ∧ 164 * x.toInt.toNat ≤ c ∧ c < 164 * x.toInt.toNat + 164) → ¬ (K = 21 ∧ c = x.toInt.toNat) → ia K i c = I K i c)) := by
  refine CI.walk hj (by decide +kernel) (by show _ ≤ 3; exact Nat.le_of_ble_eq_true rfl) ?_
  intro p e s m args below meth c F hr hlk
  have LOOP : (0 ≤ x ∧ x ≤ 1) → ∀ j, j ≤ 164 → ∀ (xj : Int32), xj = nI j → GG p l e (rmL 1) s m args below meth c G (AA G) 3 0 0 (MQ below (va_Qi (fun (r : Int32) (u : Ii × Pm) => (¬ (0 ≤ x ∧ x ≤ 1) ∧ r = -2 ∧ u = (upR (up3 I 16 0 0 0) 17 0 σ, pm)) ∨ ((0 ≤ x ∧ x ≤ 1) ∧ r = σ 6 ∧ ∃ ia, u = (upR ia 17 0 σ, pm) ∧ (∀ k, k < 164 → ia 20 0 (164 * x.toInt.toNat + k) = σ k) ∧ ia 21 0 x.toInt.toNat = 1 ∧ ∀ K i c, ¬ (K = 16 ∧ c = 0) → ¬ (K = 20 ∧ 164 * x.toInt.toNat ≤ c ∧ c < 164 * x.toInt.toNat + 164) → ¬ (K = 21 ∧ c = x.toInt.toNat) → ia K i c = I K i c)) (fun (u : Ii × Pm) t => Wd G u.1 u.2 t.heap) (AA G)) args s 0 0 (AA G)) (upR (svB (up3 I 16 0 0 0) σ x.toInt.toNat j) 17 0 σ) pm [(0, .ref (G.2.2 16 0)), (1, .int x), (2, .int xj)] 19 [] := by
    intro hx
    have RG := rng (M := 1) (m := 1) rfl hx.1 hx.2
    have RG1 := RG.1
    refine dn_ind ?_
    intro j hjl ih xj ej
    refine g_iload_n F 2 dX6_save_19 rfl rfl ?_
    refine g_sipush (v := 164) F dX6_save_20 (by decide) ?_
    refine g_icmp_ge F 50 dX6_save_23 (by decide) (fun c_23 => ?_) (fun c_23 => ?_)
    · have n_23 := nx_get (a := j) (b := 164) ej rfl (by omega) (by omega) c_23
      refine g_aload_n F 0 dX6_save_50 rfl rfl ?_
      refine gf_16_6 F (by decide) mFL_X6_22 dX6_save_51 ?_
      refine g_iload_n F 1 dX6_save_54 rfl rfl ?_
      refine g_iconst (v := 1) F dX6_save_55 (by decide) ?_
      refine gs_21 (j := x.toInt.toNat) F (by decide) RG.2 (by omega) rfl dX6_save_56 ?_
      refine g_I (wr16 (by decide)) ?_
      refine g_aload_n F 0 dX6_save_57 rfl rfl ?_
      refine gf_16_1 F (by decide) mFL_X6_7 dX6_save_58 ?_
      refine g_bipush (v := 6) F dX6_save_61 (by decide) ?_
      refine ga_17 (j := 6) F (by decide) rfl (by omega) dX6_save_63 ?_
      refine g_eqi rd17 ?_
      refine g_iret F hr hlk rfl dX6_save_64 ?_
      refine Or.inr ⟨hx, rfl, _, rfl, fun k hk => ?_, up3_s, fun K i cc h1 h2 h3 => ?_⟩
      · rw [up3_k (by decide)]
        unfold svB
        rw [if_pos (by omega), show 164 * x.toInt.toNat + k - 164 * x.toInt.toNat = k by omega]
      · rw [up3_n (fun e => h3 ⟨e.1, e.2.2⟩)]
        unfold svB
        rw [if_neg (by omega)]
        exact up3_n (fun e => h1 ⟨e.1, e.2.2⟩)
    · have n_23 := nx_gef (a := j) (b := 164) ej rfl (by omega) (by omega) c_23
      refine g_aload_n F 0 dX6_save_26 rfl rfl ?_
      refine gf_16_5 F (by decide) mFL_X6_19 dX6_save_27 ?_
      refine g_sipush (v := 164) F dX6_save_30 (by decide) ?_
      refine g_iload_n F 1 dX6_save_33 rfl rfl ?_
      refine g_imul F dX6_save_34 ?_
      refine g_iload_n F 2 dX6_save_35 rfl rfl ?_
      refine g_iadd F dX6_save_36 ?_
      refine g_aload_n F 0 dX6_save_37 rfl rfl ?_
      refine gf_16_1 F (by decide) mFL_X6_7 dX6_save_38 ?_
      refine g_iload_n F 2 dX6_save_41 rfl rfl ?_
      refine ga_17 (j := j) F (by decide) ej (by omega) dX6_save_42 ?_
      refine g_eqi rd17 ?_
      refine gs_20 (j := ((164 * x.toInt.toNat) + j)) F (by decide) (nx_add (nx_mul rfl RG.2) ej) (by omega) dX6_save_43 ?_
      refine g_I (wr16 (by decide)) ?_
      refine g_iincC (q := 1) (L' := [(2, _), (0, _), (1, _)]) F 2 dX6_save_44 (by decide) rfl (by decide) rfl ?_
      refine g_goto F 19 dX6_save_47 (by decide) ?_
      refine g_sub [1, 2, 0] rfl ?_
      refine g_I (congrArg (fun z => upR z 17 0 σ) svB_s) ?_
      exact ih (by omega) _ (nx_add ej rfl)
  refine g_aload_n F 0 dX6_save_0 rfl rfl ?_
  refine g_iconst (v := 0) F dX6_save_1 (by decide) ?_
  refine gp_16_0 F (by decide) mFL_X6_32 dX6_save_2 ?_
  refine g_I (wr16 (by decide)) ?_
  refine g_iload_n F 1 dX6_save_5 rfl rfl ?_
  refine g_iconst (v := 0) F dX6_save_6 (by decide) ?_
  refine g_iconst (v := 1) F dX6_save_7 (by decide) ?_
  refine g_callIs (na := 3) F (c_X6_in hj) lk_X6_54 rfl rfl (by decide +kernel) ⟨rfl, rfl, Nat.le_of_ble_eq_true rfl, Nat.le_of_ble_eq_true rfl, Nat.le_of_ble_eq_true rfl, Nat.le_of_ble_eq_true rfl, Nat.le_of_ble_eq_true rfl⟩ dX6_save_8 (fun r_8 u_8 h_8 => ?_)
  obtain ⟨rfl, rfl⟩ := h_8
  try dsimp only
  refine g_if_ne F 17 dX6_save_11 (by decide) (fun c_11 => ?_) (fun c_11 => ?_)
  · have P11 := bz_n.mp c_11
    refine g_iconst (v := 0) F dX6_save_17 (by decide) ?_
    refine g_istore_n (L' := [(2, _), (0, _), (1, _)]) F dX6_save_18 rfl (by decide) rfl ?_
    refine g_sub [1, 2, 0] rfl ?_
    refine g_I (congrArg (fun z => upR z 17 0 σ) (svB_0 (σ := σ) (m := x.toInt.toNat)).symm) ?_
    exact LOOP P11 0 (by decide) _ (by first | rfl | assumption)
  · have N11 := bz_0.mp c_11
    refine g_bipush (v := -2) F dX6_save_14 (by decide) ?_
    refine g_iret F hr hlk rfl dX6_save_16 ?_
    exact Or.inl ⟨N11, rfl, rfl⟩
set_option maxHeartbeats 4000000 in
set_option maxRecDepth 100000 in
theorem c_X6_restore {l : Launch} {G : Gm} (hj : Aj G) {I : Ii} {pm : Pm} {σ : Sg} {hn : Nat} {hist : Nat → Sg} (M : MXH I hn hist) {x : Int32} : CI l G yX6_restore (wz yX6_restore cX6_restore 3 (some .int)) (rmL 1) [.ref (G.2.2 16 0), .int x] (upR I 17 0 σ) pm (fun r u => (¬ (0 ≤ x ∧ x ≤ 1) ∧ r = -2 ∧ u = (upR (up3 I 16 0 0 0) 17 0 σ, pm)) ∨ ((0 ≤ x ∧ x ≤ 1) ∧ I 21 0 x.toInt.toNat = 0 ∧ r = -5 ∧ u = (upR (up3 I 16 0 0 0) 17 0 σ, pm)) ∨ ((0 ≤ x ∧ x ≤ 1) ∧ ¬ I 21 0 x.toInt.toNat = 0 ∧ ∃ τ ia, r = τ 6 ∧ u = (upR ia 17 0 τ, pm) ∧ (∀ k, k < 164 → τ k = I 20 0 (164 * x.toInt.toNat + k)) ∧ MXH ia (pushN hn) (pushH hn hist σ) ∧ FM I ia)) := by
  refine CI.walk hj (by decide +kernel) (by show _ ≤ 3; exact Nat.le_of_ble_eq_true rfl) ?_
  intro p e s m args below meth c F hr hlk
  have LOOP : (0 ≤ x ∧ x ≤ 1) → ¬ I 21 0 x.toInt.toNat = 0 → ∀ ia, MXH ia (pushN hn) (pushH hn hist σ) → FM I ia → ∀ j, j ≤ 164 → ∀ (xj : Int32), xj = nI j → GG p l e (rmL 1) s m args below meth c G (AA G) 3 0 0 (MQ below (va_Qi (fun (r : Int32) (u : Ii × Pm) => (¬ (0 ≤ x ∧ x ≤ 1) ∧ r = -2 ∧ u = (upR (up3 I 16 0 0 0) 17 0 σ, pm)) ∨ ((0 ≤ x ∧ x ≤ 1) ∧ I 21 0 x.toInt.toNat = 0 ∧ r = -5 ∧ u = (upR (up3 I 16 0 0 0) 17 0 σ, pm)) ∨ ((0 ≤ x ∧ x ≤ 1) ∧ ¬ I 21 0 x.toInt.toNat = 0 ∧ ∃ τ ia, r = τ 6 ∧ u = (upR ia 17 0 τ, pm) ∧ (∀ k, k < 164 → τ k = I 20 0 (164 * x.toInt.toNat + k)) ∧ MXH ia (pushN hn) (pushH hn hist σ) ∧ FM I ia)) (fun (u : Ii × Pm) t => Wd G u.1 u.2 t.heap) (AA G)) args s 0 0 (AA G)) (upR ia 17 0 (tbJ (fun k => ia 20 0 (164 * x.toInt.toNat + k)) σ j)) pm [(0, .ref (G.2.2 16 0)), (1, .int x), (2, .int xj)] 35 [] := by
    intro hx h21 ia M2 fm
    have RG := rng (M := 1) (m := 1) rfl hx.1 hx.2
    have RG1 := RG.1
    refine dn_ind ?_
    intro j hjl ih xj ej
    refine g_iload_n F 2 dX6_restore_35 rfl rfl ?_
    refine g_sipush (v := 164) F dX6_restore_36 (by decide) ?_
    refine g_icmp_ge F 66 dX6_restore_39 (by decide) (fun c_39 => ?_) (fun c_39 => ?_)
    · have n_39 := nx_get (a := j) (b := 164) ej rfl (by omega) (by omega) c_39
      refine g_aload_n F 0 dX6_restore_66 rfl rfl ?_
      refine gf_16_1 F (by decide) mFL_X6_7 dX6_restore_67 ?_
      refine g_bipush (v := 6) F dX6_restore_70 (by decide) ?_
      refine ga_17 (j := 6) F (by decide) rfl (by omega) dX6_restore_72 ?_
      refine g_eqi rd17 ?_
      refine g_iret F hr hlk rfl dX6_restore_73 ?_
      exact Or.inr (Or.inr ⟨hx, h21, _, ia, rfl, rfl, by rw [show j = 164 by omega]; exact tbJ_in (fun k hk => fm 20 0 _ (by omega) (by decide) (by decide)), M2, fm⟩)
    · have n_39 := nx_gef (a := j) (b := 164) ej rfl (by omega) (by omega) c_39
      refine g_aload_n F 0 dX6_restore_42 rfl rfl ?_
      refine gf_16_1 F (by decide) mFL_X6_7 dX6_restore_43 ?_
      refine g_iload_n F 2 dX6_restore_46 rfl rfl ?_
      refine g_aload_n F 0 dX6_restore_47 rfl rfl ?_
      refine gf_16_5 F (by decide) mFL_X6_19 dX6_restore_48 ?_
      refine g_sipush (v := 164) F dX6_restore_51 (by decide) ?_
      refine g_iload_n F 1 dX6_restore_54 rfl rfl ?_
      refine g_imul F dX6_restore_55 ?_
      refine g_iload_n F 2 dX6_restore_56 rfl rfl ?_
      refine g_iadd F dX6_restore_57 ?_
      refine ga_20 (j := ((164 * x.toInt.toNat) + j)) F (by decide) (nx_add (nx_mul rfl RG.2) ej) (by omega) dX6_restore_58 ?_
      refine g_eqi (rd16 (by decide)) ?_
      refine gs_17 (j := j) F (by decide) ej (by omega) dX6_restore_59 ?_
      refine g_I wr17 ?_
      refine g_iincC (q := 1) (L' := [(2, _), (0, _), (1, _)]) F 2 dX6_restore_60 (by decide) rfl (by decide) rfl ?_
      refine g_goto F 35 dX6_restore_63 (by decide) ?_
      refine g_sub [1, 2, 0] rfl ?_
      refine g_I (congrArg (fun z => upR ia 17 0 z) (tbJ_s (g := fun k => ia 20 0 (164 * x.toInt.toNat + k)))) ?_
      exact ih (by omega) _ (nx_add ej rfl)
  refine g_aload_n F 0 dX6_restore_0 rfl rfl ?_
  refine g_iconst (v := 0) F dX6_restore_1 (by decide) ?_
  refine gp_16_0 F (by decide) mFL_X6_32 dX6_restore_2 ?_
  refine g_I (wr16 (by decide)) ?_
  refine g_iload_n F 1 dX6_restore_5 rfl rfl ?_
  refine g_iconst (v := 0) F dX6_restore_6 (by decide) ?_
  refine g_iconst (v := 1) F dX6_restore_7 (by decide) ?_
  refine g_callIs (na := 3) F (c_X6_in hj) lk_X6_54 rfl rfl (by decide +kernel) ⟨rfl, rfl, Nat.le_of_ble_eq_true rfl, Nat.le_of_ble_eq_true rfl, Nat.le_of_ble_eq_true rfl, Nat.le_of_ble_eq_true rfl, Nat.le_of_ble_eq_true rfl⟩ dX6_restore_8 (fun r_8 u_8 h_8 => ?_)
  obtain ⟨rfl, rfl⟩ := h_8
  try dsimp only
  refine g_if_ne F 17 dX6_restore_11 (by decide) (fun c_11 => ?_) (fun c_11 => ?_)
  · have P11 := bz_n.mp c_11
    have RG := rng (M := 1) (m := 1) rfl P11.1 P11.2
    have RG1 := RG.1
    refine g_aload_n F 0 dX6_restore_17 rfl rfl ?_
    refine gf_16_6 F (by decide) mFL_X6_22 dX6_restore_18 ?_
    refine g_iload_n F 1 dX6_restore_21 rfl rfl ?_
    refine ga_21 (j := x.toInt.toNat) F (by decide) RG.2 (by omega) dX6_restore_22 ?_
    refine g_eqi (rd16 (by decide)) ?_
    refine g_eqi (up3_k (by decide)) ?_
    refine g_if_ne F 29 dX6_restore_23 (by decide) (fun c_23 => ?_) (fun c_23 => ?_)
    · refine g_aload_n F 0 dX6_restore_29 rfl rfl ?_
      refine g_callVv (na := 0) F 16 _ (c_X6_records hj M.thr) (by decide) rfl rfl lk_X6_90 rfl rfl (by decide +kernel) ⟨rfl, rfl, Nat.le_of_ble_eq_true rfl, Nat.le_of_ble_eq_true rfl, Nat.le_of_ble_eq_true rfl, Nat.le_of_ble_eq_true rfl, Nat.le_of_ble_eq_true rfl⟩ dX6_restore_30 (fun u_30 h_30 => ?_)
      obtain ⟨ia, rfl, M2, fh⟩ := h_30
      try dsimp only
      refine g_iconst (v := 0) F dX6_restore_33 (by decide) ?_
      refine g_istore_n (L' := [(2, _), (0, _), (1, _)]) F dX6_restore_34 rfl (by decide) rfl ?_
      refine g_sub [1, 2, 0] rfl ?_
      refine g_I (congrArg (fun z => upR ia 17 0 z) (tbJ_0 (g := fun k => ia 20 0 (164 * x.toInt.toNat + k))).symm) ?_
      exact LOOP P11 c_23 ia M2 (fun K i cc hh h8 h9 => (fh K i cc (fun e => hh ⟨e.1, Or.inr e.2⟩) h9).trans (FM.thr K i cc hh h8 h9)) 0 (by decide) _ (by first | rfl | assumption)
    · refine g_bipush (v := -5) F dX6_restore_26 (by decide) ?_
      refine g_iret F hr hlk rfl dX6_restore_28 ?_
      exact Or.inr (Or.inl ⟨P11, c_23, rfl, rfl⟩)
  · have N11 := bz_0.mp c_11
    refine g_bipush (v := -2) F dX6_restore_14 (by decide) ?_
    refine g_iret F hr hlk rfl dX6_restore_16 ?_
    exact Or.inl ⟨N11, rfl, rfl⟩
set_option maxHeartbeats 4000000 in
set_option maxRecDepth 100000 in
theorem c_X6_wipe {l : Launch} {G : Gm} (hj : Aj G) {I : Ii} {pm : Pm} {σ : Sg} {pl : Nat} (e8 : I 16 0 8 = nI pl) : CI l G yX6_wipe (wz yX6_wipe cX6_wipe 2 (some .int)) (rmL 0) [.ref (G.2.2 16 0)] (upR I 17 0 σ) pm (fun r u => r = nI pl ∧ u = (upR (up3 (up3 I 16 0 0 0) 16 0 8 0) 17 0 σ, pm)) := by
  refine CI.walk hj (by decide +kernel) (by show _ ≤ 2; exact Nat.le_of_ble_eq_true rfl) ?_
  intro p e s m args below meth c F hr hlk
  refine g_aload_n F 0 dX6_wipe_0 rfl rfl ?_
  refine g_iconst (v := 0) F dX6_wipe_1 (by decide) ?_
  refine gp_16_0 F (by decide) mFL_X6_32 dX6_wipe_2 ?_
  refine g_I (wr16 (by decide)) ?_
  refine g_aload_n F 0 dX6_wipe_5 rfl rfl ?_
  refine gf_16_8 F (by decide) mFL_X6_121 dX6_wipe_6 ?_
  refine g_eqi (rd16 (by decide)) ?_
  refine g_topi (fun x1_9 ex1_9 => ?_)
  refine g_istore_n (L' := [(1, _), (0, _)]) F dX6_wipe_9 rfl (by decide) rfl ?_
  refine g_aload_n F 1 dX6_wipe_10 rfl rfl ?_
  refine g_iconst (v := 0) F dX6_wipe_11 (by decide) ?_
  refine gp_16_8 F (by decide) mFL_X6_121 dX6_wipe_12 ?_
  refine g_I (wr16 (by decide)) ?_
  refine g_iload_n F 0 dX6_wipe_15 rfl rfl ?_
  refine g_iret F hr hlk rfl dX6_wipe_16 ?_
  exact ⟨by first | exact ex1_9.trans ((up3_n (by decide)).trans e8) | exact (up3_n (by decide)).trans e8, rfl⟩
