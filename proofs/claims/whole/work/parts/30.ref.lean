/-! PART 30: the reference: what it reads and what it does in a tick -/
theorem rd17 {I : Ii} {σ : Sg} {j : Nat} : upR I 17 0 σ 17 0 j = σ j := congrFun upR_s j
theorem rd16 {I : Ii} {σ : Sg} {K i j : Nat} (h : K ≠ 17) : upR I 17 0 σ K i j = I K i j := upR_n (fun q => h q.1)
theorem wr17 {I : Ii} {σ : Sg} {j : Nat} {v : Int32} : up3 (upR I 17 0 σ) 17 0 j v = upR I 17 0 (upd σ j v) := by
  rw [up3_R, upR_s]
  funext a b c
  by_cases h : a = 17 ∧ b = 0
  · obtain ⟨rfl, rfl⟩ := h
    rw [congrFun upR_s c, congrFun upR_s c]
  · rw [upR_n h, upR_n h, upR_n h]
theorem wr16 {I : Ii} {σ : Sg} {K i j : Nat} {v : Int32} (h : K ≠ 17) : up3 (upR I 17 0 σ) K i j v = upR (up3 I K i j v) 17 0 σ := by
  funext a b c
  by_cases q : a = 17 ∧ b = 0
  · obtain ⟨rfl, rfl⟩ := q
    rw [up3_k (fun e => h e.symm), congrFun upR_s c, congrFun upR_s c]
  · rw [upR_n q]
    by_cases z : a = K ∧ b = i ∧ c = j
    · obtain ⟨rfl, rfl, rfl⟩ := z
      rw [up3_s, up3_s]
    · rw [up3_n z, up3_n z, upR_n q]
theorem upR_self {I : Ii} : upR I 17 0 (I 17 0) = I := by
  funext a b c
  by_cases h : a = 17 ∧ b = 0
  · obtain ⟨rfl, rfl⟩ := h
    exact congrFun upR_s c
  · exact upR_n h
/-- where a loco with an address stands, or none -/
def lcoS (σ : Sg) (x : Int32) (n : Nat) : Int32 := if rkS σ x n < n then nI (rkS σ x n) else -6

set_option maxHeartbeats 4000000 in
set_option maxRecDepth 100000 in
theorem c_X6_in {l : Launch} {G : Gm} (hj : Aj G) {I : Ii} {pm : Pm} {v a b : Int32} : CI l G yX6_in (wz yX6_in cX6_in 3 (some .boolean)) (rmL 0) [.int v, .int a, .int b] I pm (fun r u => r = bz (a ≤ v ∧ v ≤ b) ∧ u = (I, pm)) := by
  refine CI.walk hj (by decide +kernel) (by show _ ≤ 3; exact Nat.le_of_ble_eq_true rfl) ?_
  intro p e s m args below meth c F hr hlk
  refine g_iload_n F 0 dX6_in_0 rfl rfl ?_
  refine g_iload_n F 1 dX6_in_1 rfl rfl ?_
  refine g_icmp_lt F 14 dX6_in_2 (by decide) (fun c_2 => ?_) (fun c_2 => ?_)
  · refine g_iconst (v := 0) F dX6_in_14 (by decide) ?_
    refine g_iret F hr hlk rfl dX6_in_15 ?_
    first
    | exact ⟨(bz_0.mpr (fun q => absurd q.2 (Int32.not_le.mpr c_7))).symm, rfl⟩
    | exact ⟨(bz_0.mpr (fun q => absurd q.1 (Int32.not_le.mpr c_2))).symm, rfl⟩
  · refine g_iload_n F 0 dX6_in_5 rfl rfl ?_
    refine g_iload_n F 2 dX6_in_6 rfl rfl ?_
    refine g_icmp_gt F 14 dX6_in_7 (by decide) (fun c_7 => ?_) (fun c_7 => ?_)
    · refine g_iconst (v := 0) F dX6_in_14 (by decide) ?_
      refine g_iret F hr hlk rfl dX6_in_15 ?_
      first
      | exact ⟨(bz_0.mpr (fun q => absurd q.2 (Int32.not_le.mpr c_7))).symm, rfl⟩
      | exact ⟨(bz_0.mpr (fun q => absurd q.1 (Int32.not_le.mpr c_2))).symm, rfl⟩
    · refine g_iconst (v := 1) F dX6_in_10 (by decide) ?_
      refine g_goto F 15 dX6_in_11 (by decide) ?_
      refine g_iret F hr hlk rfl dX6_in_15 ?_
      exact ⟨(bz_1.mpr ⟨Int32.not_lt.mp c_2, Int32.not_lt.mp c_7⟩).symm, rfl⟩
set_option maxHeartbeats 4000000 in
set_option maxRecDepth 100000 in
theorem c_X6_get {l : Launch} {G : Gm} (hj : Aj G) {I : Ii} {pm : Pm} {σ : Sg} {x y : Int32} {r f : Nat} (ex : x = nI r) (ey : y = nI f) (hb : 16 + 11 * r + f < 164) : CI l G yX6_get (wz yX6_get cX6_get 3 (some .int)) (rmL 0) [.ref (G.2.2 16 0), .int x, .int y] (upR I 17 0 σ) pm (fun rr u => rr = σ (16 + 11 * r + f) ∧ u = (upR I 17 0 σ, pm)) := by
  refine CI.walk hj (by decide +kernel) (by show _ ≤ 3; exact Nat.le_of_ble_eq_true rfl) ?_
  intro p e s m args below meth c F hr hlk
  refine g_aload_n F 0 dX6_get_0 rfl rfl ?_
  refine gf_16_1 F (by decide) mFL_X6_7 dX6_get_1 ?_
  refine g_bipush (v := 16) F dX6_get_4 (by decide) ?_
  refine g_bipush (v := 11) F dX6_get_6 (by decide) ?_
  refine g_iload_n F 1 dX6_get_8 rfl rfl ?_
  refine g_imul F dX6_get_9 ?_
  refine g_iadd F dX6_get_10 ?_
  refine g_iload_n F 2 dX6_get_11 rfl rfl ?_
  refine g_iadd F dX6_get_12 ?_
  refine ga_17 (j := ((16 + (11 * r)) + f)) F (by decide) (nx_add (nx_add rfl (nx_mul rfl ex)) ey) (by omega) dX6_get_13 ?_
  refine g_eqi rd17 ?_
  refine g_iret F hr hlk rfl dX6_get_14 ?_
  exact ⟨rfl, rfl⟩
theorem c_X6_get0 {l : Launch} {G : Gm} (hj : Aj G) {I : Ii} {pm : Pm} {σ : Sg} {x y : Int32} {r : Nat} (ex : x = nI r) (ey : y = nI 0) (hb : 16 + 11 * r < 164) : CI l G yX6_get (wz yX6_get cX6_get 3 (some .int)) (rmL 0) [.ref (G.2.2 16 0), .int x, .int y] (upR I 17 0 σ) pm (fun rr u => rr = σ (16 + 11 * r) ∧ u = (upR I 17 0 σ, pm)) := c_X6_get hj ex ey hb
set_option maxHeartbeats 4000000 in
set_option maxRecDepth 100000 in
theorem c_X6_lay {l : Launch} {G : Gm} (hj : Aj G) {I : Ii} {pm : Pm} {σ : Sg} {x y v : Int32} {r f : Nat} (ex : x = nI r) (ey : y = nI f) (hb : 16 + 11 * r + f < 164) : CV l G yX6_lay (wz yX6_lay cX6_lay 4 none) (rmL 0) [.ref (G.2.2 16 0), .int x, .int y, .int v] (upR I 17 0 σ) pm (fun u => u = (upR I 17 0 (upd σ (16 + 11 * r + f) v), pm)) := by
  refine CV.walk hj (by decide +kernel) (by show _ ≤ 4; exact Nat.le_of_ble_eq_true rfl) ?_
  intro p e s m args below meth c F hr hlk
  refine g_aload_n F 0 dX6_lay_0 rfl rfl ?_
  refine gf_16_1 F (by decide) mFL_X6_7 dX6_lay_1 ?_
  refine g_bipush (v := 16) F dX6_lay_4 (by decide) ?_
  refine g_bipush (v := 11) F dX6_lay_6 (by decide) ?_
  refine g_iload_n F 1 dX6_lay_8 rfl rfl ?_
  refine g_imul F dX6_lay_9 ?_
  refine g_iadd F dX6_lay_10 ?_
  refine g_iload_n F 2 dX6_lay_11 rfl rfl ?_
  refine g_iadd F dX6_lay_12 ?_
  refine g_iload_n F 3 dX6_lay_13 rfl rfl ?_
  refine gs_17 (j := ((16 + (11 * r)) + f)) F (by decide) (nx_add (nx_add rfl (nx_mul rfl ex)) ey) (by omega) dX6_lay_14 ?_
  refine g_I wr17 ?_
  refine g_vret F hr hlk dX6_lay_15 ?_
  exact rfl
set_option maxHeartbeats 4000000 in
set_option maxRecDepth 100000 in
theorem c_X6_locoOf {l : Launch} {G : Gm} (hj : Aj G) {I : Ii} {pm : Pm} {σ : Sg} {n : Nat} (en : σ 6 = nI n) (h8 : n ≤ 8) {x : Int32} : CI l G yX6_locoOf (wz yX6_locoOf cX6_locoOf 3 (some .int)) (rmL 1) [.ref (G.2.2 16 0), .int x] (upR I 17 0 σ) pm (fun r u => r = lcoS σ x n ∧ u = (upR I 17 0 σ, pm)) := by
  refine CI.walk hj (by decide +kernel) (by show _ ≤ 3; exact Nat.le_of_ble_eq_true rfl) ?_
  intro p e s m args below meth c F hr hlk
  have LOOP : ∀ j, j ≤ n → (∀ r, r < j → ¬ σ (16 + 11 * r) = x) → ∀ xj, xj = nI j → GG p l e (rmL 1) s m args below meth c G (AA G) 3 0 0 (MQ below (va_Qi (fun (r : Int32) (u : Ii × Pm) => r = lcoS σ x n ∧ u = (upR I 17 0 σ, pm)) (fun (u : Ii × Pm) t => Wd G u.1 u.2 t.heap) (AA G)) args s 0 0 (AA G)) (upR I 17 0 σ) pm [(0, .ref (G.2.2 16 0)), (1, .int x), (2, .int xj)] 2 [] := by
    refine dn_ind ?_
    intro j hjn ih hz xj ej
    refine g_iload_n F 2 dX6_locoOf_2 rfl rfl ?_
    refine g_aload_n F 0 dX6_locoOf_3 rfl rfl ?_
    refine gf_16_1 F (by decide) mFL_X6_7 dX6_locoOf_4 ?_
    refine g_bipush (v := 6) F dX6_locoOf_7 (by decide) ?_
    refine ga_17 (j := 6) F (by decide) rfl (by omega) dX6_locoOf_9 ?_
    refine g_eqi rd17 ?_
    refine g_icmp_ge F 31 dX6_locoOf_10 (by decide) (fun c_10 => ?_) (fun c_10 => ?_)
    · have n_10 := nx_get (a := j) (b := n) ej en (by omega) (by omega) c_10
      refine g_bipush (v := -6) F dX6_locoOf_31 (by decide) ?_
      refine g_iret F hr hlk rfl dX6_locoOf_33 ?_
      refine ⟨?_, rfl⟩
      unfold lcoS
      rw [rk_none n (fun r hr2 => hz r (by omega)), if_neg (by omega)]
    · have n_10 := nx_gef (a := j) (b := n) ej en (by omega) (by omega) c_10
      refine g_aload_n F 0 dX6_locoOf_13 rfl rfl ?_
      refine g_iload_n F 2 dX6_locoOf_14 rfl rfl ?_
      refine g_iconst (v := 0) F dX6_locoOf_15 (by decide) ?_
      refine g_callIv (na := 2) F 16 _ (c_X6_get0 hj (r := j) ej rfl (by omega)) (by decide) rfl rfl lk_X6_36 rfl rfl (by decide +kernel) ⟨rfl, rfl, Nat.le_of_ble_eq_true rfl, Nat.le_of_ble_eq_true rfl, Nat.le_of_ble_eq_true rfl, Nat.le_of_ble_eq_true rfl, Nat.le_of_ble_eq_true rfl⟩ dX6_locoOf_16 (fun r_16 u_16 h_16 => ?_)
      obtain ⟨rfl, rfl⟩ := h_16
      try dsimp only
      refine g_iload_n F 1 dX6_locoOf_19 rfl rfl ?_
      refine g_icmp_ne F 25 dX6_locoOf_20 (by decide) (fun c_20 => ?_) (fun c_20 => ?_)
      · refine g_iincC (q := 1) (L' := [(2, _), (0, _), (1, _)]) F 2 dX6_locoOf_25 (by decide) rfl (by decide) rfl ?_
        refine g_goto F 2 dX6_locoOf_28 (by decide) ?_
        refine g_sub [1, 2, 0] rfl ?_
        exact ih (by omega) (fun r hr2 => by
          by_cases q : r = j
          · rw [q]; exact c_20
          · exact hz r (by omega)) _ (nx_add ej rfl)
      · refine g_iload_n F 2 dX6_locoOf_23 rfl rfl ?_
        refine g_iret F hr hlk rfl dX6_locoOf_24 ?_
        refine ⟨?_, rfl⟩
        unfold lcoS
        rw [rk_some hz c_20 n (by omega), if_pos (by omega)]
        exact ej
  refine g_iconst (v := 0) F dX6_locoOf_0 (by decide) ?_
  refine g_istore_n (L' := [(2, _), (0, _), (1, _)]) F dX6_locoOf_1 rfl (by decide) rfl ?_
  refine g_sub [1, 2, 0] rfl ?_
  exact LOOP 0 (Nat.zero_le _) (fun r h => absurd h (Nat.not_lt_zero r)) _ (by first | rfl | assumption)
set_option maxHeartbeats 4000000 in
set_option maxRecDepth 100000 in
theorem c_X6_blockOf {l : Launch} {G : Gm} (hj : Aj G) {I : Ii} {pm : Pm} {σ : Sg} {x : Int32} {r : Nat} (ex : x = nI r) (hr8 : r < 8) : CI l G yX6_blockOf (wz yX6_blockOf cX6_blockOf 2 (some .int)) (rmL 1) [.ref (G.2.2 16 0), .int x] (upR I 17 0 σ) pm (fun rr u => rr = σ (16 + 11 * r + 3) / 100 ∧ u = (upR I 17 0 σ, pm)) := by
  refine CI.walk hj (by decide +kernel) (by show _ ≤ 2; exact Nat.le_of_ble_eq_true rfl) ?_
  intro p e s m args below meth c F hr hlk
  refine g_aload_n F 0 dX6_blockOf_0 rfl rfl ?_
  refine g_iload_n F 1 dX6_blockOf_1 rfl rfl ?_
  refine g_iconst (v := 3) F dX6_blockOf_2 (by decide) ?_
  refine g_callIv (na := 2) F 16 _ (c_X6_get hj (r := r) (f := 3) ex rfl (by omega)) (by decide) rfl rfl lk_X6_36 rfl rfl (by decide +kernel) ⟨rfl, rfl, Nat.le_of_ble_eq_true rfl, Nat.le_of_ble_eq_true rfl, Nat.le_of_ble_eq_true rfl, Nat.le_of_ble_eq_true rfl, Nat.le_of_ble_eq_true rfl⟩ dX6_blockOf_3 (fun r_3 u_3 h_3 => ?_)
  obtain ⟨rfl, rfl⟩ := h_3
  try dsimp only
  refine g_bipush (v := 100) F dX6_blockOf_6 (by decide) ?_
  refine g_idiv F dX6_blockOf_8 (by decide) ?_
  refine g_iret F hr hlk rfl dX6_blockOf_9 ?_
  exact ⟨rfl, rfl⟩
theorem blk_nat {σ : Sg} {r : Nat} (h : LcOk σ r) : σ (16 + 11 * r + 3) / 100 = nI (blkS σ r) := by
  obtain ⟨l1, l2, l3, l4, l5, l6, l7⟩ := h
  exact nx_div (nat_of l3.1) (b := 100) rfl (by omega) (by decide) (by decide)
set_option maxHeartbeats 4000000 in
set_option maxRecDepth 100000 in
theorem c_X6_isShort {l : Launch} {G : Gm} (hj : Aj G) {I : Ii} {pm : Pm} {σ : Sg} {x : Int32} {r : Nat} (ex : x = nI r) (hr8 : r < 8) (L0 : LcOk σ r) : CI l G yX6_isShort (wz yX6_isShort cX6_isShort 2 (some .boolean)) (rmL 2) [.ref (G.2.2 16 0), .int x] (upR I 17 0 σ) pm (fun rr u => rr = bz (0 < σ (8 + blkS σ r)) ∧ u = (upR I 17 0 σ, pm)) := by
  have hb8 := blk_lt L0
  refine CI.walk hj (by decide +kernel) (by show _ ≤ 2; exact Nat.le_of_ble_eq_true rfl) ?_
  intro p e s m args below meth c F hr hlk
  refine g_aload_n F 0 dX6_isShort_0 rfl rfl ?_
  refine gf_16_1 F (by decide) mFL_X6_7 dX6_isShort_1 ?_
  refine g_bipush (v := 8) F dX6_isShort_4 (by decide) ?_
  refine g_aload_n F 0 dX6_isShort_6 rfl rfl ?_
  refine g_iload_n F 1 dX6_isShort_7 rfl rfl ?_
  refine g_callIv (na := 1) F 16 _ (c_X6_blockOf hj ex hr8) (by decide) rfl rfl lk_X6_43 rfl rfl (by decide +kernel) ⟨rfl, rfl, Nat.le_of_ble_eq_true rfl, Nat.le_of_ble_eq_true rfl, Nat.le_of_ble_eq_true rfl, Nat.le_of_ble_eq_true rfl, Nat.le_of_ble_eq_true rfl⟩ dX6_isShort_8 (fun r_8 u_8 h_8 => ?_)
  obtain ⟨rfl, rfl⟩ := h_8
  try dsimp only
  refine g_iadd F dX6_isShort_11 ?_
  refine ga_17 (j := (8 + (blkS σ r))) F (by decide) (nx_add rfl (blk_nat L0)) (by omega) dX6_isShort_12 ?_
  refine g_eqi rd17 ?_
  refine g_if_le F 20 dX6_isShort_13 (by decide) (fun c_13 => ?_) (fun c_13 => ?_)
  · have CC : ¬ 0 < σ (8 + blkS σ r) := Int32.not_lt.mpr c_13
    refine g_iconst (v := 0) F dX6_isShort_20 (by decide) ?_
    refine g_iret F hr hlk rfl dX6_isShort_21 ?_
    exact ⟨(bz_0.mpr CC).symm, rfl⟩
  · have CC : 0 < σ (8 + blkS σ r) := Int32.not_le.mp c_13
    refine g_iconst (v := 1) F dX6_isShort_16 (by decide) ?_
    refine g_goto F 21 dX6_isShort_17 (by decide) ?_
    refine g_iret F hr hlk rfl dX6_isShort_21 ?_
    exact ⟨(bz_1.mpr CC).symm, rfl⟩
set_option maxHeartbeats 4000000 in
set_option maxRecDepth 100000 in
theorem c_X6_byCurve {l : Launch} {G : Gm} (hj : Aj G) {I : Ii} {pm : Pm} {x y : Int32} : CI l G yX6_byCurve (wz yX6_byCurve cX6_byCurve 3 (some .int)) (rmL 0) [.int x, .int y] I pm (fun r u => r = byC x y ∧ u = (I, pm)) := by
  refine CI.walk hj (by decide +kernel) (by show _ ≤ 3; exact Nat.le_of_ble_eq_true rfl) ?_
  intro p e s m args below meth c F hr hlk
  refine g_iload_n F 1 dX6_byCurve_0 rfl rfl ?_
  refine g_iload_n F 1 dX6_byCurve_1 rfl rfl ?_
  refine g_imul F dX6_byCurve_2 ?_
  refine g_bipush (v := 10) F dX6_byCurve_3 (by decide) ?_
  refine g_imul F dX6_byCurve_5 ?_
  refine g_bipush (v := 28) F dX6_byCurve_6 (by decide) ?_
  refine g_idiv F dX6_byCurve_8 (by decide) ?_
  refine g_topi (fun x2_9 ex2_9 => ?_)
  refine g_istore_n (L' := [(2, _), (0, _), (1, _)]) F dX6_byCurve_9 rfl (by decide) rfl ?_
  refine g_iload_n F 1 dX6_byCurve_10 rfl rfl ?_
  refine g_if_ne F 21 dX6_byCurve_11 (by decide) (fun c_11 => ?_) (fun c_11 => ?_)
  · refine g_iload_n F 1 dX6_byCurve_21 rfl rfl ?_
    refine g_iconst (v := 1) F dX6_byCurve_22 (by decide) ?_
    refine g_icmp_ne F 30 dX6_byCurve_23 (by decide) (fun c_23 => ?_) (fun c_23 => ?_)
    · refine g_bipush (v := 20) F dX6_byCurve_30 (by decide) ?_
      refine g_iload_n F 2 dX6_byCurve_32 rfl rfl ?_
      refine g_imul F dX6_byCurve_33 ?_
      refine g_iload_n F 0 dX6_byCurve_34 rfl rfl ?_
      refine g_isub F dX6_byCurve_35 ?_
      refine g_iret F hr hlk rfl dX6_byCurve_36 ?_
      refine ⟨?_, rfl⟩
      unfold byC
      first
      | rw [if_pos c_11]
      | rw [if_neg c_11, if_pos c_23, ex2_9]
      | rw [if_neg c_11, if_neg c_23, ex2_9]
    · refine g_iload_n F 0 dX6_byCurve_26 rfl rfl ?_
      refine g_goto F 36 dX6_byCurve_27 (by decide) ?_
      refine g_iret F hr hlk rfl dX6_byCurve_36 ?_
      refine ⟨?_, rfl⟩
      unfold byC
      first
      | rw [if_pos c_11]
      | rw [if_neg c_11, if_pos c_23, ex2_9]
      | rw [if_neg c_11, if_neg c_23, ex2_9]
  · refine g_bipush (v := 10) F dX6_byCurve_14 (by decide) ?_
    refine g_iload_n F 2 dX6_byCurve_16 rfl rfl ?_
    refine g_imul F dX6_byCurve_17 ?_
    refine g_goto F 36 dX6_byCurve_18 (by decide) ?_
    refine g_iret F hr hlk rfl dX6_byCurve_36 ?_
    refine ⟨?_, rfl⟩
    unfold byC
    first
    | rw [if_pos c_11]
    | rw [if_neg c_11, if_pos c_23, ex2_9]
    | rw [if_neg c_11, if_neg c_23, ex2_9]
set_option maxHeartbeats 4000000 in
set_option maxRecDepth 100000 in
theorem c_X6_due {l : Launch} {G : Gm} (hj : Aj G) {I : Ii} {pm : Pm} {σ : Sg} {x : Int32} {r : Nat} (ex : x = nI r) (hr8 : r < 8) : CI l G yX6_due (wz yX6_due cX6_due 3 (some .int)) (rmL 1) [.ref (G.2.2 16 0), .int x] (upR I 17 0 σ) pm (fun rr u => rr = dueS σ r ∧ u = (upR I 17 0 σ, pm)) := by
  refine CI.walk hj (by decide +kernel) (by show _ ≤ 3; exact Nat.le_of_ble_eq_true rfl) ?_
  intro p e s m args below meth c F hr hlk
  refine g_aload_n F 0 dX6_due_0 rfl rfl ?_
  refine g_iload_n F 1 dX6_due_1 rfl rfl ?_
  refine g_iconst (v := 2) F dX6_due_2 (by decide) ?_
  refine g_callIv (na := 2) F 16 _ (c_X6_get hj (r := r) (f := 2) ex rfl (by omega)) (by decide) rfl rfl lk_X6_36 rfl rfl (by decide +kernel) ⟨rfl, rfl, Nat.le_of_ble_eq_true rfl, Nat.le_of_ble_eq_true rfl, Nat.le_of_ble_eq_true rfl, Nat.le_of_ble_eq_true rfl, Nat.le_of_ble_eq_true rfl⟩ dX6_due_3 (fun r_3 u_3 h_3 => ?_)
  obtain ⟨rfl, rfl⟩ := h_3
  try dsimp only
  refine g_aload_n F 0 dX6_due_6 rfl rfl ?_
  refine g_iload_n F 1 dX6_due_7 rfl rfl ?_
  refine g_bipush (v := 6) F dX6_due_8 (by decide) ?_
  refine g_callIv (na := 2) F 16 _ (c_X6_get hj (r := r) (f := 6) ex rfl (by omega)) (by decide) rfl rfl lk_X6_36 rfl rfl (by decide +kernel) ⟨rfl, rfl, Nat.le_of_ble_eq_true rfl, Nat.le_of_ble_eq_true rfl, Nat.le_of_ble_eq_true rfl, Nat.le_of_ble_eq_true rfl, Nat.le_of_ble_eq_true rfl⟩ dX6_due_10 (fun r_10 u_10 h_10 => ?_)
  obtain ⟨rfl, rfl⟩ := h_10
  try dsimp only
  refine g_callIs (na := 2) F (c_X6_byCurve hj) lk_X6_47 rfl rfl (by decide +kernel) ⟨rfl, rfl, Nat.le_of_ble_eq_true rfl, Nat.le_of_ble_eq_true rfl, Nat.le_of_ble_eq_true rfl, Nat.le_of_ble_eq_true rfl, Nat.le_of_ble_eq_true rfl⟩ dX6_due_13 (fun r_13 u_13 h_13 => ?_)
  obtain ⟨rfl, rfl⟩ := h_13
  try dsimp only
  refine g_topi (fun x2_16 ex2_16 => ?_)
  refine g_istore_n (L' := [(2, _), (0, _), (1, _)]) F dX6_due_16 rfl (by decide) rfl ?_
  refine g_aload_n F 1 dX6_due_17 rfl rfl ?_
  refine g_iload_n F 2 dX6_due_18 rfl rfl ?_
  refine g_bipush (v := 7) F dX6_due_19 (by decide) ?_
  refine g_callIv (na := 2) F 16 _ (c_X6_get hj (r := r) (f := 7) ex rfl (by omega)) (by decide) rfl rfl lk_X6_36 rfl rfl (by decide +kernel) ⟨rfl, rfl, Nat.le_of_ble_eq_true rfl, Nat.le_of_ble_eq_true rfl, Nat.le_of_ble_eq_true rfl, Nat.le_of_ble_eq_true rfl, Nat.le_of_ble_eq_true rfl⟩ dX6_due_21 (fun r_21 u_21 h_21 => ?_)
  obtain ⟨rfl, rfl⟩ := h_21
  try dsimp only
  refine g_iconst (v := 1) F dX6_due_24 (by decide) ?_
  refine g_icmp_ne F 32 dX6_due_25 (by decide) (fun c_25 => ?_) (fun c_25 => ?_)
  · refine g_iload_n F 0 dX6_due_32 rfl rfl ?_
    refine g_ineg F dX6_due_33 ?_
    refine g_iret F hr hlk rfl dX6_due_34 ?_
    refine ⟨?_, rfl⟩
    unfold dueS dueC
    first
    | rw [if_pos c_25, ex2_16]
    | rw [if_neg c_25, ex2_16]
  · refine g_iload_n F 0 dX6_due_28 rfl rfl ?_
    refine g_goto F 34 dX6_due_29 (by decide) ?_
    refine g_iret F hr hlk rfl dX6_due_34 ?_
    refine ⟨?_, rfl⟩
    unfold dueS dueC
    first
    | rw [if_pos c_25, ex2_16]
    | rw [if_neg c_25, ex2_16]
set_option maxHeartbeats 4000000 in
set_option maxRecDepth 100000 in
theorem c_X6_hears {l : Launch} {G : Gm} (hj : Aj G) {I : Ii} {pm : Pm} {σ : Sg} {x d : Int32} {r : Nat} (ex : x = nI r) (hr8 : r < 8) : CV l G yX6_hears (wz yX6_hears cX6_hears 3 none) (rmL 1) [.ref (G.2.2 16 0), .int x, .int d] (upR I 17 0 σ) pm (fun u => u = (upR I 17 0 (hearS r d σ), pm)) := by
  refine CV.walk hj (by decide +kernel) (by show _ ≤ 3; exact Nat.le_of_ble_eq_true rfl) ?_
  intro p e s m args below meth c F hr hlk
  refine g_aload_n F 0 dX6_hears_0 rfl rfl ?_
  refine g_iload_n F 1 dX6_hears_1 rfl rfl ?_
  refine g_bipush (v := 9) F dX6_hears_2 (by decide) ?_
  refine g_aload_n F 0 dX6_hears_4 rfl rfl ?_
  refine g_iload_n F 1 dX6_hears_5 rfl rfl ?_
  refine g_bipush (v := 9) F dX6_hears_6 (by decide) ?_
  refine g_callIv (na := 2) F 16 _ (c_X6_get hj (r := r) (f := 9) ex rfl (by omega)) (by decide) rfl rfl lk_X6_36 rfl rfl (by decide +kernel) ⟨rfl, rfl, Nat.le_of_ble_eq_true rfl, Nat.le_of_ble_eq_true rfl, Nat.le_of_ble_eq_true rfl, Nat.le_of_ble_eq_true rfl, Nat.le_of_ble_eq_true rfl⟩ dX6_hears_8 (fun r_8 u_8 h_8 => ?_)
  obtain ⟨rfl, rfl⟩ := h_8
  try dsimp only
  refine g_iconst (v := 1) F dX6_hears_11 (by decide) ?_
  refine g_iadd F dX6_hears_12 ?_
  refine g_callVv (na := 3) F 16 _ (c_X6_lay hj (r := r) (f := 9) ex rfl (by omega)) (by decide) rfl rfl lk_X6_50 rfl rfl (by decide +kernel) ⟨rfl, rfl, Nat.le_of_ble_eq_true rfl, Nat.le_of_ble_eq_true rfl, Nat.le_of_ble_eq_true rfl, Nat.le_of_ble_eq_true rfl, Nat.le_of_ble_eq_true rfl⟩ dX6_hears_13 (fun u_13 h_13 => ?_)
  subst h_13
  try dsimp only
  refine g_iload_n F 2 dX6_hears_16 rfl rfl ?_
  refine g_bipush (v := 31) F dX6_hears_17 (by decide) ?_
  refine g_icmp_ne F 40 dX6_hears_19 (by decide) (fun c_19 => ?_) (fun c_19 => ?_)
  · refine g_iload_n F 2 dX6_hears_40 rfl rfl ?_
    refine g_bipush (v := 64) F dX6_hears_41 (by decide) ?_
    refine g_bipush (v := 67) F dX6_hears_43 (by decide) ?_
    refine g_callIs (na := 3) F (c_X6_in hj) lk_X6_54 rfl rfl (by decide +kernel) ⟨rfl, rfl, Nat.le_of_ble_eq_true rfl, Nat.le_of_ble_eq_true rfl, Nat.le_of_ble_eq_true rfl, Nat.le_of_ble_eq_true rfl, Nat.le_of_ble_eq_true rfl⟩ dX6_hears_45 (fun r_45 u_45 h_45 => ?_)
    obtain ⟨rfl, rfl⟩ := h_45
    try dsimp only
    refine g_if_eq F 65 dX6_hears_48 (by decide) (fun c_48 => ?_) (fun c_48 => ?_)
    · have Q2 := bz_0.mp c_48
      refine g_iload_n F 2 dX6_hears_65 rfl rfl ?_
      refine g_sipush (v := 128) F dX6_hears_66 (by decide) ?_
      refine g_irem F dX6_hears_69 (by decide) ?_
      refine g_iconst (v := 0) F dX6_hears_70 (by decide) ?_
      refine g_bipush (v := 28) F dX6_hears_71 (by decide) ?_
      refine g_callIs (na := 3) F (c_X6_in hj) lk_X6_54 rfl rfl (by decide +kernel) ⟨rfl, rfl, Nat.le_of_ble_eq_true rfl, Nat.le_of_ble_eq_true rfl, Nat.le_of_ble_eq_true rfl, Nat.le_of_ble_eq_true rfl, Nat.le_of_ble_eq_true rfl⟩ dX6_hears_73 (fun r_73 u_73 h_73 => ?_)
      obtain ⟨rfl, rfl⟩ := h_73
      try dsimp only
      refine g_if_eq F 103 dX6_hears_76 (by decide) (fun c_76 => ?_) (fun c_76 => ?_)
      · have Q3 := bz_0.mp c_76
        refine g_vret F hr hlk dX6_hears_103 ?_
        unfold hearS
        first
        | rw [if_pos c_19]
        | rw [if_neg c_19, if_pos Q2]
        | rw [if_neg c_19, if_neg Q2, if_pos Q3]
        | rw [if_neg c_19, if_neg Q2, if_neg Q3]
      · have Q3 := bz_n.mp c_76
        refine g_aload_n F 0 dX6_hears_79 rfl rfl ?_
        refine g_iload_n F 1 dX6_hears_80 rfl rfl ?_
        refine g_bipush (v := 6) F dX6_hears_81 (by decide) ?_
        refine g_iload_n F 2 dX6_hears_83 rfl rfl ?_
        refine g_sipush (v := 128) F dX6_hears_84 (by decide) ?_
        refine g_irem F dX6_hears_87 (by decide) ?_
        refine g_callVv (na := 3) F 16 _ (c_X6_lay hj (r := r) (f := 6) ex rfl (by omega)) (by decide) rfl rfl lk_X6_50 rfl rfl (by decide +kernel) ⟨rfl, rfl, Nat.le_of_ble_eq_true rfl, Nat.le_of_ble_eq_true rfl, Nat.le_of_ble_eq_true rfl, Nat.le_of_ble_eq_true rfl, Nat.le_of_ble_eq_true rfl⟩ dX6_hears_88 (fun u_88 h_88 => ?_)
        subst h_88
        try dsimp only
        refine g_aload_n F 0 dX6_hears_91 rfl rfl ?_
        refine g_iload_n F 1 dX6_hears_92 rfl rfl ?_
        refine g_bipush (v := 7) F dX6_hears_93 (by decide) ?_
        refine g_iload_n F 2 dX6_hears_95 rfl rfl ?_
        refine g_sipush (v := 128) F dX6_hears_96 (by decide) ?_
        refine g_idiv F dX6_hears_99 (by decide) ?_
        refine g_callVv (na := 3) F 16 _ (c_X6_lay hj (r := r) (f := 7) ex rfl (by omega)) (by decide) rfl rfl lk_X6_50 rfl rfl (by decide +kernel) ⟨rfl, rfl, Nat.le_of_ble_eq_true rfl, Nat.le_of_ble_eq_true rfl, Nat.le_of_ble_eq_true rfl, Nat.le_of_ble_eq_true rfl, Nat.le_of_ble_eq_true rfl⟩ dX6_hears_100 (fun u_100 h_100 => ?_)
        subst h_100
        try dsimp only
        refine g_vret F hr hlk dX6_hears_103 ?_
        unfold hearS
        first
        | rw [if_pos c_19]
        | rw [if_neg c_19, if_pos Q2]
        | rw [if_neg c_19, if_neg Q2, if_pos Q3]
        | rw [if_neg c_19, if_neg Q2, if_neg Q3]
    · have Q2 := bz_n.mp c_48
      refine g_aload_n F 0 dX6_hears_51 rfl rfl ?_
      refine g_iload_n F 1 dX6_hears_52 rfl rfl ?_
      refine g_bipush (v := 8) F dX6_hears_53 (by decide) ?_
      refine g_iload_n F 2 dX6_hears_55 rfl rfl ?_
      refine g_bipush (v := 64) F dX6_hears_56 (by decide) ?_
      refine g_isub F dX6_hears_58 ?_
      refine g_callVv (na := 3) F 16 _ (c_X6_lay hj (r := r) (f := 8) ex rfl (by omega)) (by decide) rfl rfl lk_X6_50 rfl rfl (by decide +kernel) ⟨rfl, rfl, Nat.le_of_ble_eq_true rfl, Nat.le_of_ble_eq_true rfl, Nat.le_of_ble_eq_true rfl, Nat.le_of_ble_eq_true rfl, Nat.le_of_ble_eq_true rfl⟩ dX6_hears_59 (fun u_59 h_59 => ?_)
      subst h_59
      try dsimp only
      refine g_goto F 103 dX6_hears_62 (by decide) ?_
      refine g_vret F hr hlk dX6_hears_103 ?_
      unfold hearS
      first
      | rw [if_pos c_19]
      | rw [if_neg c_19, if_pos Q2]
      | rw [if_neg c_19, if_neg Q2, if_pos Q3]
      | rw [if_neg c_19, if_neg Q2, if_neg Q3]
  · have Q1 := c_19
    refine g_aload_n F 0 dX6_hears_22 rfl rfl ?_
    refine g_iload_n F 1 dX6_hears_23 rfl rfl ?_
    refine g_bipush (v := 6) F dX6_hears_24 (by decide) ?_
    refine g_iconst (v := 0) F dX6_hears_26 (by decide) ?_
    refine g_callVv (na := 3) F 16 _ (c_X6_lay hj (r := r) (f := 6) ex rfl (by omega)) (by decide) rfl rfl lk_X6_50 rfl rfl (by decide +kernel) ⟨rfl, rfl, Nat.le_of_ble_eq_true rfl, Nat.le_of_ble_eq_true rfl, Nat.le_of_ble_eq_true rfl, Nat.le_of_ble_eq_true rfl, Nat.le_of_ble_eq_true rfl⟩ dX6_hears_27 (fun u_27 h_27 => ?_)
    subst h_27
    try dsimp only
    refine g_aload_n F 0 dX6_hears_30 rfl rfl ?_
    refine g_iload_n F 1 dX6_hears_31 rfl rfl ?_
    refine g_iconst (v := 5) F dX6_hears_32 (by decide) ?_
    refine g_iconst (v := 0) F dX6_hears_33 (by decide) ?_
    refine g_callVv (na := 3) F 16 _ (c_X6_lay hj (r := r) (f := 5) ex rfl (by omega)) (by decide) rfl rfl lk_X6_50 rfl rfl (by decide +kernel) ⟨rfl, rfl, Nat.le_of_ble_eq_true rfl, Nat.le_of_ble_eq_true rfl, Nat.le_of_ble_eq_true rfl, Nat.le_of_ble_eq_true rfl, Nat.le_of_ble_eq_true rfl⟩ dX6_hears_34 (fun u_34 h_34 => ?_)
    subst h_34
    try dsimp only
    refine g_goto F 103 dX6_hears_37 (by decide) ?_
    refine g_vret F hr hlk dX6_hears_103 ?_
    unfold hearS
    first
    | rw [if_pos c_19]
    | rw [if_neg c_19, if_pos Q2]
    | rw [if_neg c_19, if_neg Q2, if_pos Q3]
    | rw [if_neg c_19, if_neg Q2, if_neg Q3]
set_option maxHeartbeats 4000000 in
set_option maxRecDepth 100000 in
theorem c_X6_comes {l : Launch} {G : Gm} (hj : Aj G) {I : Ii} {pm : Pm} {σ : Sg} {n h : Nat} (V : Iv n h σ) {a d ck : Int32} (hd : 0 ≤ d.toInt ∧ d.toInt ≤ 255) : CI l G yX6_comes (wz yX6_comes cX6_comes 6 (some .int)) (rmL 3) [.ref (G.2.2 16 0), .int a, .int d, .int ck] (upR I 17 0 σ) pm (fun r u => r = (comS n a d ck σ).2 ∧ u = (upR I 17 0 (comS n a d ck σ).1, pm)) := by
  refine CI.walk hj (by decide +kernel) (by show _ ≤ 6; exact Nat.le_of_ble_eq_true rfl) ?_
  intro p e s m args below meth c F hr hlk
  have hn8 := V.2.1
  have LOOP : ∀ j, j ≤ n → ck = a ^^^ d → ∀ (q : Sg × Int32) (hc xj : Int32), xj = nI j → q = cmL a d j (upd σ 3 (σ 3 + 1), 0) → hc = q.2 → GG p l e (rmL 3) s m args below meth c G (AA G) 6 0 0 (MQ below (va_Qi (fun (r : Int32) (u : Ii × Pm) => r = (comS n a d ck σ).2 ∧ u = (upR I 17 0 (comS n a d ck σ).1, pm)) (fun (u : Ii × Pm) t => Wd G u.1 u.2 t.heap) (AA G)) args s 0 0 (AA G)) (upR I 17 0 q.1) pm [(0, .ref (G.2.2 16 0)), (1, .int a), (2, .int d), (3, .int ck), (4, .int hc), (5, .int xj)] 35 [] := by
    refine dn_ind ?_
    intro j hjn ih hz q hc xj ej hq eh
    have V2 : Iv n h q.1 := by rw [hq]; exact Iv.cml hd (V.num (fun i hi => upd_n (by omega)) (by simp [upd])) j hjn
    refine g_iload F 5 dX6_comes_35 rfl ?_
    refine g_aload_n F 0 dX6_comes_37 rfl rfl ?_
    refine gf_16_1 F (by decide) mFL_X6_7 dX6_comes_38 ?_
    refine g_bipush (v := 6) F dX6_comes_41 (by decide) ?_
    refine ga_17 (j := 6) F (by decide) rfl (by omega) dX6_comes_43 ?_
    refine g_eqi rd17 ?_
    refine g_icmp_ge F 87 dX6_comes_44 (by decide) (fun c_44 => ?_) (fun c_44 => ?_)
    · have n_44 := nx_get (a := j) (b := n) ej V2.1 (by omega) (by omega) c_44
      refine g_iload F 4 dX6_comes_87 rfl ?_
      refine g_iret F hr hlk rfl dX6_comes_89 ?_
      have hjn2 : j = n := by omega
      subst hjn2
      unfold comS
      rw [if_pos hz, ← hq]
      exact ⟨eh, rfl⟩
    · have n_44 := nx_gef (a := j) (b := n) ej V2.1 (by omega) (by omega) c_44
      refine g_iload_n F 1 dX6_comes_47 rfl rfl ?_
      refine g_if_eq F 62 dX6_comes_48 (by decide) (fun c_48 => ?_) (fun c_48 => ?_)
      · have H1 : a = 0 ∨ q.1 (16 + 11 * j) = a := Or.inl c_48
        refine g_aload_n F 0 dX6_comes_62 rfl rfl ?_
        refine g_iload F 5 dX6_comes_63 rfl ?_
        refine g_callIv (na := 1) F 16 _ (c_X6_isShort hj ej (by omega) (V2.2.2.2.2.1 j (by omega))) (by decide) rfl rfl lk_X6_58 rfl rfl (by decide +kernel) ⟨rfl, rfl, Nat.le_of_ble_eq_true rfl, Nat.le_of_ble_eq_true rfl, Nat.le_of_ble_eq_true rfl, Nat.le_of_ble_eq_true rfl, Nat.le_of_ble_eq_true rfl⟩ dX6_comes_65 (fun r_65 u_65 h_65 => ?_)
        obtain ⟨rfl, rfl⟩ := h_65
        try dsimp only
        refine g_if_ne F 81 dX6_comes_68 (by decide) (fun c_68 => ?_) (fun c_68 => ?_)
        · have HH : ¬ hrdS a q.1 j := fun w => w.2 (bz_n.mp c_68)
          refine g_iincC (q := 1) (L' := [(5, _), (0, _), (1, _), (2, _), (3, _), (4, _)]) F 5 dX6_comes_81 (by decide) rfl (by decide) rfl ?_
          refine g_goto F 35 dX6_comes_84 (by decide) ?_
          refine g_sub [1, 2, 3, 4, 5, 0] rfl ?_
          first
          | exact ih (by omega) hz (hearS j d q.1, q.2 + 1) _ _ (nx_add ej rfl) (by rw [cmL, ← hq, cmStep, if_pos HH]) (by rw [eh])
          | exact ih (by omega) hz q _ _ (nx_add ej rfl) (by rw [cmL, ← hq, cmStep, if_neg HH]) eh
        · have HH : hrdS a q.1 j := ⟨H1, bz_0.mp c_68⟩
          refine g_aload_n F 0 dX6_comes_71 rfl rfl ?_
          refine g_iload F 5 dX6_comes_72 rfl ?_
          refine g_iload_n F 2 dX6_comes_74 rfl rfl ?_
          refine g_callVv (na := 2) F 16 _ (c_X6_hears hj ej (by omega)) (by decide) rfl rfl lk_X6_62 rfl rfl (by decide +kernel) ⟨rfl, rfl, Nat.le_of_ble_eq_true rfl, Nat.le_of_ble_eq_true rfl, Nat.le_of_ble_eq_true rfl, Nat.le_of_ble_eq_true rfl, Nat.le_of_ble_eq_true rfl⟩ dX6_comes_75 (fun u_75 h_75 => ?_)
          subst h_75
          try dsimp only
          refine g_iincC (q := 1) (L' := [(4, _), (0, _), (1, _), (2, _), (3, _), (5, _)]) F 4 dX6_comes_78 (by decide) rfl (by decide) rfl ?_
          refine g_iincC (q := 1) (L' := [(5, _), (4, _), (0, _), (1, _), (2, _), (3, _)]) F 5 dX6_comes_81 (by decide) rfl (by decide) rfl ?_
          refine g_goto F 35 dX6_comes_84 (by decide) ?_
          refine g_sub [2, 3, 4, 5, 1, 0] rfl ?_
          first
          | exact ih (by omega) hz (hearS j d q.1, q.2 + 1) _ _ (nx_add ej rfl) (by rw [cmL, ← hq, cmStep, if_pos HH]) (by rw [eh])
          | exact ih (by omega) hz q _ _ (nx_add ej rfl) (by rw [cmL, ← hq, cmStep, if_neg HH]) eh
      · refine g_aload_n F 0 dX6_comes_51 rfl rfl ?_
        refine g_iload F 5 dX6_comes_52 rfl ?_
        refine g_iconst (v := 0) F dX6_comes_54 (by decide) ?_
        refine g_callIv (na := 2) F 16 _ (c_X6_get0 hj (r := j) ej rfl (by omega)) (by decide) rfl rfl lk_X6_36 rfl rfl (by decide +kernel) ⟨rfl, rfl, Nat.le_of_ble_eq_true rfl, Nat.le_of_ble_eq_true rfl, Nat.le_of_ble_eq_true rfl, Nat.le_of_ble_eq_true rfl, Nat.le_of_ble_eq_true rfl⟩ dX6_comes_55 (fun r_55 u_55 h_55 => ?_)
        obtain ⟨rfl, rfl⟩ := h_55
        try dsimp only
        refine g_iload_n F 1 dX6_comes_58 rfl rfl ?_
        refine g_icmp_ne F 81 dX6_comes_59 (by decide) (fun c_59 => ?_) (fun c_59 => ?_)
        · have HH : ¬ hrdS a q.1 j := fun w => w.1.elim c_48 (fun w2 => c_59 w2)
          refine g_iincC (q := 1) (L' := [(5, _), (0, _), (1, _), (2, _), (3, _), (4, _)]) F 5 dX6_comes_81 (by decide) rfl (by decide) rfl ?_
          refine g_goto F 35 dX6_comes_84 (by decide) ?_
          refine g_sub [1, 2, 3, 4, 5, 0] rfl ?_
          first
          | exact ih (by omega) hz (hearS j d q.1, q.2 + 1) _ _ (nx_add ej rfl) (by rw [cmL, ← hq, cmStep, if_pos HH]) (by rw [eh])
          | exact ih (by omega) hz q _ _ (nx_add ej rfl) (by rw [cmL, ← hq, cmStep, if_neg HH]) eh
        · have H1 : a = 0 ∨ q.1 (16 + 11 * j) = a := Or.inr c_59
          refine g_aload_n F 0 dX6_comes_62 rfl rfl ?_
          refine g_iload F 5 dX6_comes_63 rfl ?_
          refine g_callIv (na := 1) F 16 _ (c_X6_isShort hj ej (by omega) (V2.2.2.2.2.1 j (by omega))) (by decide) rfl rfl lk_X6_58 rfl rfl (by decide +kernel) ⟨rfl, rfl, Nat.le_of_ble_eq_true rfl, Nat.le_of_ble_eq_true rfl, Nat.le_of_ble_eq_true rfl, Nat.le_of_ble_eq_true rfl, Nat.le_of_ble_eq_true rfl⟩ dX6_comes_65 (fun r_65 u_65 h_65 => ?_)
          obtain ⟨rfl, rfl⟩ := h_65
          try dsimp only
          refine g_if_ne F 81 dX6_comes_68 (by decide) (fun c_68 => ?_) (fun c_68 => ?_)
          · have HH : ¬ hrdS a q.1 j := fun w => w.2 (bz_n.mp c_68)
            refine g_iincC (q := 1) (L' := [(5, _), (0, _), (1, _), (2, _), (3, _), (4, _)]) F 5 dX6_comes_81 (by decide) rfl (by decide) rfl ?_
            refine g_goto F 35 dX6_comes_84 (by decide) ?_
            refine g_sub [1, 2, 3, 4, 5, 0] rfl ?_
            first
            | exact ih (by omega) hz (hearS j d q.1, q.2 + 1) _ _ (nx_add ej rfl) (by rw [cmL, ← hq, cmStep, if_pos HH]) (by rw [eh])
            | exact ih (by omega) hz q _ _ (nx_add ej rfl) (by rw [cmL, ← hq, cmStep, if_neg HH]) eh
          · have HH : hrdS a q.1 j := ⟨H1, bz_0.mp c_68⟩
            refine g_aload_n F 0 dX6_comes_71 rfl rfl ?_
            refine g_iload F 5 dX6_comes_72 rfl ?_
            refine g_iload_n F 2 dX6_comes_74 rfl rfl ?_
            refine g_callVv (na := 2) F 16 _ (c_X6_hears hj ej (by omega)) (by decide) rfl rfl lk_X6_62 rfl rfl (by decide +kernel) ⟨rfl, rfl, Nat.le_of_ble_eq_true rfl, Nat.le_of_ble_eq_true rfl, Nat.le_of_ble_eq_true rfl, Nat.le_of_ble_eq_true rfl, Nat.le_of_ble_eq_true rfl⟩ dX6_comes_75 (fun u_75 h_75 => ?_)
            subst h_75
            try dsimp only
            refine g_iincC (q := 1) (L' := [(4, _), (0, _), (1, _), (2, _), (3, _), (5, _)]) F 4 dX6_comes_78 (by decide) rfl (by decide) rfl ?_
            refine g_iincC (q := 1) (L' := [(5, _), (4, _), (0, _), (1, _), (2, _), (3, _)]) F 5 dX6_comes_81 (by decide) rfl (by decide) rfl ?_
            refine g_goto F 35 dX6_comes_84 (by decide) ?_
            refine g_sub [2, 3, 4, 5, 1, 0] rfl ?_
            first
            | exact ih (by omega) hz (hearS j d q.1, q.2 + 1) _ _ (nx_add ej rfl) (by rw [cmL, ← hq, cmStep, if_pos HH]) (by rw [eh])
            | exact ih (by omega) hz q _ _ (nx_add ej rfl) (by rw [cmL, ← hq, cmStep, if_neg HH]) eh
  refine g_aload_n F 0 dX6_comes_0 rfl rfl ?_
  refine gf_16_1 F (by decide) mFL_X6_7 dX6_comes_1 ?_
  refine g_iconst (v := 3) F dX6_comes_4 (by decide) ?_
  refine g_dup2 F dX6_comes_5 rfl rfl ?_
  refine ga_17 (j := 3) F (by decide) rfl (by omega) dX6_comes_6 ?_
  refine g_eqi rd17 ?_
  refine g_iconst (v := 1) F dX6_comes_7 (by decide) ?_
  refine g_iadd F dX6_comes_8 ?_
  refine gs_17 (j := 3) F (by decide) rfl (by omega) dX6_comes_9 ?_
  refine g_I wr17 ?_
  refine g_iload_n F 3 dX6_comes_10 rfl rfl ?_
  refine g_iload_n F 1 dX6_comes_11 rfl rfl ?_
  refine g_iload_n F 2 dX6_comes_12 rfl rfl ?_
  refine g_ixor F dX6_comes_13 ?_
  refine g_icmp_eq F 29 dX6_comes_14 (by decide) (fun c_14 => ?_) (fun c_14 => ?_)
  · refine g_iconst (v := 0) F dX6_comes_29 (by decide) ?_
    refine g_istore (L' := [(4, _), (0, _), (1, _), (2, _), (3, _)]) F dX6_comes_30 (by decide) rfl ?_
    refine g_iconst (v := 0) F dX6_comes_32 (by decide) ?_
    refine g_istore (L' := [(5, _), (4, _), (0, _), (1, _), (2, _), (3, _)]) F dX6_comes_33 (by decide) rfl ?_
    refine g_sub [2, 3, 4, 5, 1, 0] rfl ?_
    exact LOOP 0 (Nat.zero_le _) c_14 (upd σ 3 (σ 3 + 1), 0) _ _ (by first | rfl | assumption) rfl (by first | rfl | assumption)
  · refine g_aload_n F 0 dX6_comes_17 rfl rfl ?_
    refine gf_16_1 F (by decide) mFL_X6_7 dX6_comes_18 ?_
    refine g_iconst (v := 4) F dX6_comes_21 (by decide) ?_
    refine g_dup2 F dX6_comes_22 rfl rfl ?_
    refine ga_17 (j := 4) F (by decide) rfl (by omega) dX6_comes_23 ?_
    refine g_eqi rd17 ?_
    refine g_eqi (upd_n (by decide)) ?_
    refine g_iconst (v := 1) F dX6_comes_24 (by decide) ?_
    refine g_iadd F dX6_comes_25 ?_
    refine gs_17 (j := 4) F (by decide) rfl (by omega) dX6_comes_26 ?_
    refine g_I wr17 ?_
    refine g_iconst (v := 0) F dX6_comes_27 (by decide) ?_
    refine g_iret F hr hlk rfl dX6_comes_28 ?_
    unfold comS
    rw [if_neg c_14]
    exact ⟨rfl, rfl⟩
