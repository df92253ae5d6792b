/-! PART 14: what a layout tells, and its small changes -/
theorem rng {x M : Int32} {m : Nat} (hM : M.toInt = m) (h0 : 0 ≤ x) (h1 : x ≤ M) : x.toInt.toNat ≤ m ∧ x = nI x.toInt.toNat := by
  have e0 := i_le.mp h0
  have e1 := i_le.mp h1
  have e3 : (0 : Int32).toInt = 0 := rfl
  rw [e3] at e0
  exact ⟨by omega, nat_of e0⟩
def lcS (σ : Sg) (x : Int32) : Nat → Int32
  | 0 => 0
  | j + 1 => if σ (16 + 11 * j + 3) / 100 = x then lcS σ x j + 1 else lcS σ x j
def bwS (σ : Sg) : Nat → Int32
  | 0 => 0
  | b + 1 => if 0 < σ (8 + b) then bwS σ b + 1 else bwS σ b
def cbS (σ : Sg) (n : Nat) : Nat → Int32
  | 0 => 0
  | b + 1 => if 1 < lcS σ (nI b) n then cbS σ n b + 1 else cbS σ n b
def ssS (σ : Sg) : Nat → Int32
  | 0 => 0
  | j + 1 => ssS σ j + σ (16 + 11 * j + 5)
def rkS (σ : Sg) (a : Int32) : Nat → Nat
  | 0 => 0
  | j + 1 => if rkS σ a j < j then rkS σ a j else if σ (16 + 11 * j) = a then j else j + 1
theorem rk_none {σ : Sg} {a : Int32} : ∀ j, (∀ r, r < j → ¬ σ (16 + 11 * r) = a) → rkS σ a j = j := by
  intro j
  induction j with
  | zero => exact fun _ => rfl
  | succ j ih =>
    intro h
    have h1 := ih (fun r hr => h r (by omega))
    unfold rkS
    rw [h1, if_neg (Nat.lt_irrefl _), if_neg (h j (by omega))]
theorem rk_some {σ : Sg} {a : Int32} {p : Nat} (h0 : ∀ r, r < p → ¬ σ (16 + 11 * r) = a) (h1 : σ (16 + 11 * p) = a) : ∀ n, p < n → rkS σ a n = p := by
  intro n
  induction n with
  | zero => exact fun h => absurd h (by omega)
  | succ n ih =>
    intro h
    unfold rkS
    by_cases hp : p < n
    · rw [ih hp, if_pos hp]
    · have e : p = n := by omega
      subst e
      rw [rk_none p h0, if_neg (Nat.lt_irrefl _), if_pos h1]
theorem rk_le (σ : Sg) (a : Int32) : ∀ n, rkS σ a n ≤ n := by
  intro n
  induction n with
  | zero => exact Nat.le_refl _
  | succ n ih =>
    unfold rkS
    split
    · omega
    · split <;> omega
theorem inL7 {k j : Nat} (hk : k < 11) (hj : j < 8) : 8 * k + j < 88 := by omega
def LQ (G : Gm) (pm : Pm) (k n : Nat) (σ : Sg) (a : Int32) : Option Nat := if rkS σ a n < n then some (G.2.2 7 (8 * k + pm k (rkS σ a n))) else none
theorem lq_n {n : Nat} {x : Int32} (h8 : n ≤ 8) : (0 ≤ x ∧ x ≤ nI n - 1) ↔ ∃ q, q < n ∧ x = nI q := by
  constructor
  · exact fun h => wait_in (by omega) h.1 h.2
  · rintro ⟨q, hq, rfl⟩
    refine ⟨nI_pos' (by omega), ?_⟩
    rw [show nI n - 1 = nI (n - 1) from nx_sub rfl (b := 1) rfl (by omega)]
    exact nI_le (by omega) (by omega)

set_option maxHeartbeats 4000000 in
set_option maxRecDepth 100000 in
theorem c_X1_locosIn {l : Launch} {G : Gm} (hj : Aj G) {I : Ii} {pm : Pm} {k : Nat} (hk : k < 11) {n h : Nat} {σ : Sg} (R : Rp n h I pm k σ) {x : Int32} : CI l G yX1_locosIn (wz yX1_locosIn cX1_locosIn 4 (some .int)) (rmL 1) [.ref (G.2.2 0 k), .int x] I pm (fun r u => r = lcS σ x n ∧ u = (I, pm)) := by
  refine CI.walk hj (by decide +kernel) (by show _ ≤ 4; exact Nat.le_of_ble_eq_true rfl) ?_
  intro p e s m args below meth c F hr hlk
  have hn8 := R.n8
  have LOOP : ∀ j, j ≤ n → ∀ (xc xj : Int32), xj = nI j → xc = lcS σ x j → GG p l e (rmL 1) s m args below meth c G (AA G) 4 0 0 (MQ below (va_Qi (fun (r : Int32) (u : Ii × Pm) => r = lcS σ x n ∧ u = (I, pm)) (fun (u : Ii × Pm) t => Wd G u.1 u.2 t.heap) (AA G)) args s 0 0 (AA G)) I pm [(0, .ref (G.2.2 0 k)), (1, .int x), (2, .int xc), (3, .int xj)] 4 [] := by
    refine dn_ind ?_
    intro j hjl ih xc xj ej ec
    refine g_iload_n F 3 dX1_locosIn_4 rfl rfl ?_
    refine g_aload_n F 0 dX1_locosIn_5 rfl rfl ?_
    refine gf_0_3 F hk mFL_X1_29 dX1_locosIn_6 ?_
    refine g_icmp_ge F 34 dX1_locosIn_9 (by decide) (fun c_9 => ?_) (fun c_9 => ?_)
    · have n_9 := nx_get (a := j) (b := n) ej R.cnt (by omega) (by omega) c_9
      refine g_iload_n F 2 dX1_locosIn_34 rfl rfl ?_
      refine g_iret F hr hlk rfl dX1_locosIn_35 ?_
      exact ⟨by rw [ec, show j = n by omega], rfl⟩
    · have n_9 := nx_gef (a := j) (b := n) ej R.cnt (by omega) (by omega) c_9
      have hi7 : 8 * k + pm k j < 88 := inL7 hk (R.p8 (by omega))
      have eb : I 7 (8 * k + pm k j) 3 = σ (16 + 11 * j + 3) := R.lc (f := 3) (by omega) (by decide)
      refine g_aload_n F 0 dX1_locosIn_12 rfl rfl ?_
      refine gf_0_0 F hk mFL_X1_11 dX1_locosIn_13 ?_
      refine g_iload_n F 3 dX1_locosIn_16 rfl rfl ?_
      refine ga_1 (j := j) F hk ej (by omega) dX1_locosIn_17 ?_
      refine g_callIv (na := 0) F 7 _ (c_X2_blockNumber hj hi7) hi7 rfl rfl lk_X1_87 rfl rfl (by decide +kernel) ⟨rfl, rfl, Nat.le_of_ble_eq_true rfl, Nat.le_of_ble_eq_true rfl, Nat.le_of_ble_eq_true rfl, Nat.le_of_ble_eq_true rfl, Nat.le_of_ble_eq_true rfl⟩ dX1_locosIn_18 (fun r_18 u_18 h_18 => ?_)
      obtain ⟨rfl, rfl⟩ := h_18
      try dsimp only
      refine g_iload_n F 1 dX1_locosIn_21 rfl rfl ?_
      refine g_icmp_ne F 28 dX1_locosIn_22 (by decide) (fun c_22 => ?_) (fun c_22 => ?_)
      · have c22 : ¬ σ (16 + 11 * j + 3) / 100 = x := fun e => c_22 (by rw [eb, e])
        refine g_iincC (q := 1) (L' := [(3, _), (0, _), (1, _), (2, _)]) F 3 dX1_locosIn_28 (by decide) rfl (by decide) rfl ?_
        refine g_goto F 4 dX1_locosIn_31 (by decide) ?_
        refine g_sub [1, 2, 3, 0] rfl ?_
        first
        | exact ih (by omega) _ _ (nx_add ej rfl) (by rw [lcS, if_pos c22, ec])
        | exact ih (by omega) _ _ (nx_add ej rfl) (by rw [lcS, if_neg c22, ec])
      · have c22 : σ (16 + 11 * j + 3) / 100 = x := by rw [← eb]; exact c_22
        refine g_iincC (q := 1) (L' := [(2, _), (0, _), (1, _), (3, _)]) F 2 dX1_locosIn_25 (by decide) rfl (by decide) rfl ?_
        refine g_iincC (q := 1) (L' := [(3, _), (2, _), (0, _), (1, _)]) F 3 dX1_locosIn_28 (by decide) rfl (by decide) rfl ?_
        refine g_goto F 4 dX1_locosIn_31 (by decide) ?_
        refine g_sub [2, 3, 1, 0] rfl ?_
        first
        | exact ih (by omega) _ _ (nx_add ej rfl) (by rw [lcS, if_pos c22, ec])
        | exact ih (by omega) _ _ (nx_add ej rfl) (by rw [lcS, if_neg c22, ec])
  refine g_iconst (v := 0) F dX1_locosIn_0 (by decide) ?_
  refine g_istore_n (L' := [(2, _), (0, _), (1, _)]) F dX1_locosIn_1 rfl (by decide) rfl ?_
  refine g_iconst (v := 0) F dX1_locosIn_2 (by decide) ?_
  refine g_istore_n (L' := [(3, _), (2, _), (0, _), (1, _)]) F dX1_locosIn_3 rfl (by decide) rfl ?_
  refine g_sub [2, 3, 1, 0] rfl ?_
  exact LOOP 0 (Nat.zero_le _) _ _ rfl rfl
set_option maxHeartbeats 4000000 in
set_option maxRecDepth 100000 in
theorem c_X1_blocksWithShort {l : Launch} {G : Gm} (hj : Aj G) {I : Ii} {pm : Pm} {k : Nat} (hk : k < 11) {n h : Nat} {σ : Sg} (R : Rp n h I pm k σ) : CI l G yX1_blocksWithShort (wz yX1_blocksWithShort cX1_blocksWithShort 3 (some .int)) (rmL 0) [.ref (G.2.2 0 k)] I pm (fun r u => r = bwS σ 8 ∧ u = (I, pm)) := by
  refine CI.walk hj (by decide +kernel) (by show _ ≤ 3; exact Nat.le_of_ble_eq_true rfl) ?_
  intro p e s m args below meth c F hr hlk
  have LOOP : ∀ j, j ≤ 8 → ∀ (xc xj : Int32), xj = nI j → xc = bwS σ j → GG p l e (rmL 0) s m args below meth c G (AA G) 3 0 0 (MQ below (va_Qi (fun (r : Int32) (u : Ii × Pm) => r = bwS σ 8 ∧ u = (I, pm)) (fun (u : Ii × Pm) t => Wd G u.1 u.2 t.heap) (AA G)) args s 0 0 (AA G)) I pm [(0, .ref (G.2.2 0 k)), (1, .int xc), (2, .int xj)] 4 [] := by
    refine dn_ind ?_
    intro j hjl ih xc xj ej ec
    refine g_iload_n F 2 dX1_blocksWithShort_4 rfl rfl ?_
    refine g_bipush (v := 8) F dX1_blocksWithShort_5 (by decide) ?_
    refine g_icmp_ge F 28 dX1_blocksWithShort_7 (by decide) (fun c_7 => ?_) (fun c_7 => ?_)
    · have n_7 := nx_get (a := j) (b := 8) ej rfl (by omega) (by omega) c_7
      refine g_iload_n F 1 dX1_blocksWithShort_28 rfl rfl ?_
      refine g_iret F hr hlk rfl dX1_blocksWithShort_29 ?_
      exact ⟨by rw [ec, show j = 8 by omega], rfl⟩
    · have n_7 := nx_gef (a := j) (b := 8) ej rfl (by omega) (by omega) c_7
      have eb : I 6 k j = σ (8 + j) := R.sh (by omega)
      refine g_aload_n F 0 dX1_blocksWithShort_10 rfl rfl ?_
      refine gf_0_2 F hk mFL_X1_24 dX1_blocksWithShort_11 ?_
      refine g_iload_n F 2 dX1_blocksWithShort_14 rfl rfl ?_
      refine ga_6 (j := j) F hk ej (by omega) dX1_blocksWithShort_15 ?_
      refine g_if_le F 22 dX1_blocksWithShort_16 (by decide) (fun c_16 => ?_) (fun c_16 => ?_)
      · have c22 : ¬ 0 < σ (8 + j) := by rw [← eb]; exact Int32.not_lt.mpr c_16
        refine g_iincC (q := 1) (L' := [(2, _), (0, _), (1, _)]) F 2 dX1_blocksWithShort_22 (by decide) rfl (by decide) rfl ?_
        refine g_goto F 4 dX1_blocksWithShort_25 (by decide) ?_
        refine g_sub [1, 2, 0] rfl ?_
        first
        | exact ih (by omega) _ _ (nx_add ej rfl) (by rw [bwS, if_pos c22, ec])
        | exact ih (by omega) _ _ (nx_add ej rfl) (by rw [bwS, if_neg c22, ec])
      · have c22 : 0 < σ (8 + j) := by rw [← eb]; exact Int32.not_le.mp c_16
        refine g_iincC (q := 1) (L' := [(1, _), (0, _), (2, _)]) F 1 dX1_blocksWithShort_19 (by decide) rfl (by decide) rfl ?_
        refine g_iincC (q := 1) (L' := [(2, _), (1, _), (0, _)]) F 2 dX1_blocksWithShort_22 (by decide) rfl (by decide) rfl ?_
        refine g_goto F 4 dX1_blocksWithShort_25 (by decide) ?_
        refine g_sub [2, 1, 0] rfl ?_
        first
        | exact ih (by omega) _ _ (nx_add ej rfl) (by rw [bwS, if_pos c22, ec])
        | exact ih (by omega) _ _ (nx_add ej rfl) (by rw [bwS, if_neg c22, ec])
  refine g_iconst (v := 0) F dX1_blocksWithShort_0 (by decide) ?_
  refine g_istore_n (L' := [(1, _), (0, _)]) F dX1_blocksWithShort_1 rfl (by decide) rfl ?_
  refine g_iconst (v := 0) F dX1_blocksWithShort_2 (by decide) ?_
  refine g_istore_n (L' := [(2, _), (1, _), (0, _)]) F dX1_blocksWithShort_3 rfl (by decide) rfl ?_
  refine g_sub [2, 1, 0] rfl ?_
  exact LOOP 0 (Nat.zero_le _) _ _ rfl rfl
set_option maxHeartbeats 4000000 in
set_option maxRecDepth 100000 in
theorem c_X1_crowdedBlocks {l : Launch} {G : Gm} (hj : Aj G) {I : Ii} {pm : Pm} {k : Nat} (hk : k < 11) {n h : Nat} {σ : Sg} (R : Rp n h I pm k σ) : CI l G yX1_crowdedBlocks (wz yX1_crowdedBlocks cX1_crowdedBlocks 3 (some .int)) (rmL 2) [.ref (G.2.2 0 k)] I pm (fun r u => r = cbS σ n 8 ∧ u = (I, pm)) := by
  refine CI.walk hj (by decide +kernel) (by show _ ≤ 3; exact Nat.le_of_ble_eq_true rfl) ?_
  intro p e s m args below meth c F hr hlk
  have LOOP : ∀ j, j ≤ 8 → ∀ (xc xj : Int32), xj = nI j → xc = cbS σ n j → GG p l e (rmL 2) s m args below meth c G (AA G) 3 0 0 (MQ below (va_Qi (fun (r : Int32) (u : Ii × Pm) => r = cbS σ n 8 ∧ u = (I, pm)) (fun (u : Ii × Pm) t => Wd G u.1 u.2 t.heap) (AA G)) args s 0 0 (AA G)) I pm [(0, .ref (G.2.2 0 k)), (1, .int xc), (2, .int xj)] 4 [] := by
    refine dn_ind ?_
    intro j hjl ih xc xj ej ec
    refine g_iload_n F 2 dX1_crowdedBlocks_4 rfl rfl ?_
    refine g_bipush (v := 8) F dX1_crowdedBlocks_5 (by decide) ?_
    refine g_icmp_ge F 28 dX1_crowdedBlocks_7 (by decide) (fun c_7 => ?_) (fun c_7 => ?_)
    · have n_7 := nx_get (a := j) (b := 8) ej rfl (by omega) (by omega) c_7
      refine g_iload_n F 1 dX1_crowdedBlocks_28 rfl rfl ?_
      refine g_iret F hr hlk rfl dX1_crowdedBlocks_29 ?_
      exact ⟨by rw [ec, show j = 8 by omega], rfl⟩
    · have n_7 := nx_gef (a := j) (b := 8) ej rfl (by omega) (by omega) c_7
      refine g_aload_n F 0 dX1_crowdedBlocks_10 rfl rfl ?_
      refine g_iload_n F 2 dX1_crowdedBlocks_11 rfl rfl ?_
      refine g_callIv (na := 1) F 0 _ (c_X1_locosIn hj hk R) hk rfl rfl lk_X1_136 rfl rfl (by decide +kernel) ⟨rfl, rfl, Nat.le_of_ble_eq_true rfl, Nat.le_of_ble_eq_true rfl, Nat.le_of_ble_eq_true rfl, Nat.le_of_ble_eq_true rfl, Nat.le_of_ble_eq_true rfl⟩ dX1_crowdedBlocks_12 (fun r_12 u_12 h_12 => ?_)
      obtain ⟨rfl, rfl⟩ := h_12
      try dsimp only
      refine g_iconst (v := 1) F dX1_crowdedBlocks_15 (by decide) ?_
      refine g_icmp_le F 22 dX1_crowdedBlocks_16 (by decide) (fun c_16 => ?_) (fun c_16 => ?_)
      · have c22 : ¬ 1 < lcS σ (nI j) n := by rw [← ej]; exact Int32.not_lt.mpr c_16
        refine g_iincC (q := 1) (L' := [(2, _), (0, _), (1, _)]) F 2 dX1_crowdedBlocks_22 (by decide) rfl (by decide) rfl ?_
        refine g_goto F 4 dX1_crowdedBlocks_25 (by decide) ?_
        refine g_sub [1, 2, 0] rfl ?_
        first
        | exact ih (by omega) _ _ (nx_add ej rfl) (by rw [cbS, if_pos c22, ec])
        | exact ih (by omega) _ _ (nx_add ej rfl) (by rw [cbS, if_neg c22, ec])
      · have c22 : 1 < lcS σ (nI j) n := by rw [← ej]; exact Int32.not_le.mp c_16
        refine g_iincC (q := 1) (L' := [(1, _), (0, _), (2, _)]) F 1 dX1_crowdedBlocks_19 (by decide) rfl (by decide) rfl ?_
        refine g_iincC (q := 1) (L' := [(2, _), (1, _), (0, _)]) F 2 dX1_crowdedBlocks_22 (by decide) rfl (by decide) rfl ?_
        refine g_goto F 4 dX1_crowdedBlocks_25 (by decide) ?_
        refine g_sub [2, 1, 0] rfl ?_
        first
        | exact ih (by omega) _ _ (nx_add ej rfl) (by rw [cbS, if_pos c22, ec])
        | exact ih (by omega) _ _ (nx_add ej rfl) (by rw [cbS, if_neg c22, ec])
  refine g_iconst (v := 0) F dX1_crowdedBlocks_0 (by decide) ?_
  refine g_istore_n (L' := [(1, _), (0, _)]) F dX1_crowdedBlocks_1 rfl (by decide) rfl ?_
  refine g_iconst (v := 0) F dX1_crowdedBlocks_2 (by decide) ?_
  refine g_istore_n (L' := [(2, _), (1, _), (0, _)]) F dX1_crowdedBlocks_3 rfl (by decide) rfl ?_
  refine g_sub [2, 1, 0] rfl ?_
  exact LOOP 0 (Nat.zero_le _) _ _ rfl rfl
set_option maxHeartbeats 4000000 in
set_option maxRecDepth 100000 in
theorem c_X1_speedSum {l : Launch} {G : Gm} (hj : Aj G) {I : Ii} {pm : Pm} {k : Nat} (hk : k < 11) {n h : Nat} {σ : Sg} (R : Rp n h I pm k σ) : CI l G yX1_speedSum (wz yX1_speedSum cX1_speedSum 3 (some .int)) (rmL 0) [.ref (G.2.2 0 k)] I pm (fun r u => r = ssS σ n ∧ u = (I, pm)) := by
  refine CI.walk hj (by decide +kernel) (by show _ ≤ 3; exact Nat.le_of_ble_eq_true rfl) ?_
  intro p e s m args below meth c F hr hlk
  have hn8 := R.n8
  have LOOP : ∀ j, j ≤ n → ∀ (xc xj : Int32), xj = nI j → xc = ssS σ j → GG p l e (rmL 0) s m args below meth c G (AA G) 3 0 0 (MQ below (va_Qi (fun (r : Int32) (u : Ii × Pm) => r = ssS σ n ∧ u = (I, pm)) (fun (u : Ii × Pm) t => Wd G u.1 u.2 t.heap) (AA G)) args s 0 0 (AA G)) I pm [(0, .ref (G.2.2 0 k)), (1, .int xc), (2, .int xj)] 4 [] := by
    refine dn_ind ?_
    intro j hjl ih xc xj ej ec
    refine g_iload_n F 2 dX1_speedSum_4 rfl rfl ?_
    refine g_aload_n F 0 dX1_speedSum_5 rfl rfl ?_
    refine gf_0_3 F hk mFL_X1_29 dX1_speedSum_6 ?_
    refine g_icmp_ge F 30 dX1_speedSum_9 (by decide) (fun c_9 => ?_) (fun c_9 => ?_)
    · have n_9 := nx_get (a := j) (b := n) ej R.cnt (by omega) (by omega) c_9
      refine g_iload_n F 1 dX1_speedSum_30 rfl rfl ?_
      refine g_iret F hr hlk rfl dX1_speedSum_31 ?_
      exact ⟨by rw [ec, show j = n by omega], rfl⟩
    · have n_9 := nx_gef (a := j) (b := n) ej R.cnt (by omega) (by omega) c_9
      have hi7 : 8 * k + pm k j < 88 := inL7 hk (R.p8 (by omega))
      have eb : I 7 (8 * k + pm k j) 5 = σ (16 + 11 * j + 5) := R.lc (f := 5) (by omega) (by decide)
      refine g_iload_n F 1 dX1_speedSum_12 rfl rfl ?_
      refine g_aload_n F 0 dX1_speedSum_13 rfl rfl ?_
      refine gf_0_0 F hk mFL_X1_11 dX1_speedSum_14 ?_
      refine g_iload_n F 2 dX1_speedSum_17 rfl rfl ?_
      refine ga_1 (j := j) F hk ej (by omega) dX1_speedSum_18 ?_
      refine gf_7_5 F hi7 mFL_X1_105 dX1_speedSum_19 ?_
      refine g_iadd F dX1_speedSum_22 ?_
      refine g_topi (fun x1_23 ex1_23 => ?_)
      refine g_istore_n (L' := [(1, _), (0, _), (2, _)]) F dX1_speedSum_23 rfl (by decide) rfl ?_
      refine g_iincC (q := 1) (L' := [(2, _), (1, _), (0, _)]) F 2 dX1_speedSum_24 (by decide) rfl (by decide) rfl ?_
      refine g_goto F 4 dX1_speedSum_27 (by decide) ?_
      refine g_sub [2, 1, 0] rfl ?_
      exact ih (by omega) _ _ (nx_add ej rfl) (by rw [ex1_23, ec, eb]; rfl)
  refine g_iconst (v := 0) F dX1_speedSum_0 (by decide) ?_
  refine g_istore_n (L' := [(1, _), (0, _)]) F dX1_speedSum_1 rfl (by decide) rfl ?_
  refine g_iconst (v := 0) F dX1_speedSum_2 (by decide) ?_
  refine g_istore_n (L' := [(2, _), (1, _), (0, _)]) F dX1_speedSum_3 rfl (by decide) rfl ?_
  refine g_sub [2, 1, 0] rfl ?_
  exact LOOP 0 (Nat.zero_le _) _ _ rfl rfl
set_option maxHeartbeats 4000000 in
set_option maxRecDepth 100000 in
theorem c_X1_rankOf {l : Launch} {G : Gm} (hj : Aj G) {I : Ii} {pm : Pm} {k : Nat} (hk : k < 11) {n h : Nat} {σ : Sg} (R : Rp n h I pm k σ) {x : Int32} : CI l G yX1_rankOf (wz yX1_rankOf cX1_rankOf 3 (some .int)) (rmL 0) [.ref (G.2.2 0 k), .int x] I pm (fun r u => r = nI (rkS σ x n) ∧ u = (I, pm)) := by
  refine CI.walk hj (by decide +kernel) (by show _ ≤ 3; exact Nat.le_of_ble_eq_true rfl) ?_
  intro p e s m args below meth c F hr hlk
  have hn8 := R.n8
  have LOOP : ∀ j, j ≤ n → (∀ r, r < j → ¬ σ (16 + 11 * r) = x) → ∀ (xj : Int32), xj = nI j → GG p l e (rmL 0) s m args below meth c G (AA G) 3 0 0 (MQ below (va_Qi (fun (r : Int32) (u : Ii × Pm) => r = nI (rkS σ x n) ∧ u = (I, pm)) (fun (u : Ii × Pm) t => Wd G u.1 u.2 t.heap) (AA G)) args s 0 0 (AA G)) I pm [(0, .ref (G.2.2 0 k)), (1, .int x), (2, .int xj)] 2 [] := by
    refine dn_ind ?_
    intro j hjl ih hno xj ej
    refine g_iload_n F 2 dX1_rankOf_2 rfl rfl ?_
    refine g_aload_n F 0 dX1_rankOf_3 rfl rfl ?_
    refine gf_0_3 F hk mFL_X1_29 dX1_rankOf_4 ?_
    refine g_icmp_ge F 29 dX1_rankOf_7 (by decide) (fun c_7 => ?_) (fun c_7 => ?_)
    · have n_7 := nx_get (a := j) (b := n) ej R.cnt (by omega) (by omega) c_7
      refine g_iload_n F 2 dX1_rankOf_29 rfl rfl ?_
      refine g_iret F hr hlk rfl dX1_rankOf_30 ?_
      first
      | exact ⟨by rw [ej, rk_some hno (by rw [← eb]; exact c_20) n (by omega)], rfl⟩
      | exact ⟨by rw [ej, show n = j by omega, rk_none j hno], rfl⟩
    · have n_7 := nx_gef (a := j) (b := n) ej R.cnt (by omega) (by omega) c_7
      have hi7 : 8 * k + pm k j < 88 := inL7 hk (R.p8 (by omega))
      have eb : I 7 (8 * k + pm k j) 0 = σ (16 + 11 * j) := R.lc (f := 0) (by omega) (by decide)
      refine g_aload_n F 0 dX1_rankOf_10 rfl rfl ?_
      refine gf_0_0 F hk mFL_X1_11 dX1_rankOf_11 ?_
      refine g_iload_n F 2 dX1_rankOf_14 rfl rfl ?_
      refine ga_1 (j := j) F hk ej (by omega) dX1_rankOf_15 ?_
      refine gf_7_0 F hi7 mFL_X1_76 dX1_rankOf_16 ?_
      refine g_iload_n F 1 dX1_rankOf_19 rfl rfl ?_
      refine g_icmp_eq F 29 dX1_rankOf_20 (by decide) (fun c_20 => ?_) (fun c_20 => ?_)
      · refine g_iload_n F 2 dX1_rankOf_29 rfl rfl ?_
        refine g_iret F hr hlk rfl dX1_rankOf_30 ?_
        first
        | exact ⟨by rw [ej, rk_some hno (by rw [← eb]; exact c_20) n (by omega)], rfl⟩
        | exact ⟨by rw [ej, show n = j by omega, rk_none j hno], rfl⟩
      · refine g_iincC (q := 1) (L' := [(2, _), (0, _), (1, _)]) F 2 dX1_rankOf_23 (by decide) rfl (by decide) rfl ?_
        refine g_goto F 2 dX1_rankOf_26 (by decide) ?_
        refine g_sub [1, 2, 0] rfl ?_
        exact ih (by omega) (fun r hr => by
          by_cases e : r = j
          · rw [e, ← eb]; exact c_20
          · exact hno r (by omega)) _ (nx_add ej rfl)
  refine g_iconst (v := 0) F dX1_rankOf_0 (by decide) ?_
  refine g_istore_n (L' := [(2, _), (0, _), (1, _)]) F dX1_rankOf_1 rfl (by decide) rfl ?_
  refine g_sub [1, 2, 0] rfl ?_
  exact LOOP 0 (Nat.zero_le _) (fun r hr => absurd hr (by omega)) _ rfl
set_option maxHeartbeats 4000000 in
set_option maxRecDepth 100000 in
theorem c_X1_locoAt {l : Launch} {G : Gm} (hj : Aj G) {I : Ii} {pm : Pm} {k : Nat} (hk : k < 11) {n h : Nat} {σ : Sg} (R : Rp n h I pm k σ) {x : Int32} : CQ l G yX1_locoAt (wz yX1_locoAt cX1_locoAt 2 (some (.object "LocoFrames$Loco"))) (rmL 1) [.ref (G.2.2 0 k), .int x] I pm (fun r u => (¬ (0 ≤ x ∧ x ≤ nI n - 1) ∧ r = none ∧ u = (I, pm)) ∨ ((0 ≤ x ∧ x ≤ nI n - 1) ∧ r = some (G.2.2 7 (8 * k + pm k x.toInt.toNat)) ∧ u = (I, pm))) := by
  have hn8 := R.n8
  refine CQ.walk hj (by decide +kernel) (by show _ ≤ 2; exact Nat.le_of_ble_eq_true rfl) ?_
  intro p e s m args below meth c F hr hlk
  refine g_iload_n F 1 dX1_locoAt_0 rfl rfl ?_
  refine g_iconst (v := 0) F dX1_locoAt_1 (by decide) ?_
  refine g_aload_n F 0 dX1_locoAt_2 rfl rfl ?_
  refine gf_0_3 F hk mFL_X1_29 dX1_locoAt_3 ?_
  refine g_iconst (v := 1) F dX1_locoAt_6 (by decide) ?_
  refine g_isub F dX1_locoAt_7 ?_
  refine g_callIn (na := 3) F (c_X5_within hj) (gw mCO_yX5_within) F.2.2.1.1 mST_yX5_within mIN_RX5 rfl rfl (by decide +kernel) ⟨rfl, rfl, Nat.le_of_ble_eq_true rfl, Nat.le_of_ble_eq_true rfl, Nat.le_of_ble_eq_true rfl, Nat.le_of_ble_eq_true rfl, Nat.le_of_ble_eq_true rfl⟩ dX1_locoAt_8 (fun r_8 u_8 h_8 => ?_)
  obtain ⟨rfl, rfl⟩ := h_8
  try dsimp only
  refine g_if_eq F 23 dX1_locoAt_11 (by decide) (fun c_11 => ?_) (fun c_11 => ?_)
  · have N1 := bz_0.mp c_11
    rw [R.cnt] at N1
    refine g_null F dX1_locoAt_23 ?_
    refine g_aret F (r := none) rfl hr hlk dX1_locoAt_24 ?_
    exact Or.inl ⟨N1, rfl, rfl⟩
  · have P1 := bz_n.mp c_11
    rw [R.cnt] at P1
    obtain ⟨q, hq, eq⟩ := (lq_n hn8).mp P1
    have hxq : x.toInt.toNat = q := by rw [eq, nI_toInt (by omega)]; rfl
    have ex : x = nI x.toInt.toNat := by rw [hxq]; exact eq
    refine g_aload_n F 0 dX1_locoAt_14 rfl rfl ?_
    refine gf_0_0 F hk mFL_X1_11 dX1_locoAt_15 ?_
    refine g_iload_n F 1 dX1_locoAt_18 rfl rfl ?_
    refine ga_1 (j := x.toInt.toNat) F hk ex (by omega) dX1_locoAt_19 ?_
    refine g_goto F 24 dX1_locoAt_20 (by decide) ?_
    refine g_aret F (r := some _) rfl hr hlk dX1_locoAt_24 ?_
    exact Or.inr ⟨P1, rfl, rfl⟩
set_option maxHeartbeats 4000000 in
set_option maxRecDepth 100000 in
theorem c_X1_locoWith {l : Launch} {G : Gm} (hj : Aj G) {I : Ii} {pm : Pm} {k : Nat} (hk : k < 11) {n h : Nat} {σ : Sg} (R : Rp n h I pm k σ) {x : Int32} : CQ l G yX1_locoWith (wz yX1_locoWith cX1_locoWith 2 (some (.object "LocoFrames$Loco"))) (rmL 2) [.ref (G.2.2 0 k), .int x] I pm (fun r u => r = LQ G pm k n σ x ∧ u = (I, pm)) := by
  have hn8 := R.n8
  have hle := rk_le σ x n
  refine CQ.walk hj (by decide +kernel) (by show _ ≤ 2; exact Nat.le_of_ble_eq_true rfl) ?_
  intro p e s m args below meth c F hr hlk
  refine g_aload_n F 0 dX1_locoWith_0 rfl rfl ?_
  refine g_aload_n F 0 dX1_locoWith_1 rfl rfl ?_
  refine g_iload_n F 1 dX1_locoWith_2 rfl rfl ?_
  refine g_callIv (na := 1) F 0 _ (c_X1_rankOf hj hk R) hk rfl rfl lk_X1_68 rfl rfl (by decide +kernel) ⟨rfl, rfl, Nat.le_of_ble_eq_true rfl, Nat.le_of_ble_eq_true rfl, Nat.le_of_ble_eq_true rfl, Nat.le_of_ble_eq_true rfl, Nat.le_of_ble_eq_true rfl⟩ dX1_locoWith_3 (fun r_3 u_3 h_3 => ?_)
  obtain ⟨rfl, rfl⟩ := h_3
  try dsimp only
  refine g_callQv (na := 1) F 0 _ (c_X1_locoAt hj hk R) hk rfl rfl lk_X1_72 rfl rfl (by decide +kernel) ⟨rfl, rfl, Nat.le_of_ble_eq_true rfl, Nat.le_of_ble_eq_true rfl, Nat.le_of_ble_eq_true rfl, Nat.le_of_ble_eq_true rfl, Nat.le_of_ble_eq_true rfl⟩ dX1_locoWith_6 (fun r_6 u_6 h_6 => ?_)
  rcases h_6 with ⟨hq, rfl, rfl⟩ | ⟨hq, rfl, rfl⟩
  · try dsimp only
    refine g_aret F (r := none) rfl hr hlk dX1_locoWith_9 ?_
    refine ⟨?_, rfl⟩
    unfold LQ
    rw [if_neg (fun hlt => hq ((lq_n hn8).mpr ⟨_, hlt, rfl⟩))]
  · try dsimp only
    refine g_aret F (r := some _) rfl hr hlk dX1_locoWith_9 ?_
    refine ⟨?_, rfl⟩
    obtain ⟨q, hlt, eq⟩ := (lq_n hn8).mp hq
    have e1 : rkS σ x n = q := (nI_eq (by omega) (by omega)).mp eq
    unfold LQ
    rw [nI_toInt (by omega), if_pos (by omega)]
    rfl
set_option maxHeartbeats 4000000 in
set_option maxRecDepth 100000 in
theorem c_X1_changeNoise {l : Launch} {G : Gm} (hj : Aj G) {I : Ii} {pm : Pm} {k : Nat} (hk : k < 11) {n h : Nat} {σ : Sg} (R : Rp n h I pm k σ) {x : Int32} : CI l G yX1_changeNoise (wz yX1_changeNoise cX1_changeNoise 3 (some .int)) (rmL 1) [.ref (G.2.2 0 k), .int x] I pm (fun r u => (¬ (0 ≤ x ∧ x ≤ 9) ∧ r = -2 ∧ u = (I, pm)) ∨ ((0 ≤ x ∧ x ≤ 9) ∧ r = σ 1 ∧ Rp n h u.1 u.2 k (upd σ 1 x) ∧ Fr k I pm u.1 u.2)) := by
  refine CI.walk hj (by decide +kernel) (by show _ ≤ 3; exact Nat.le_of_ble_eq_true rfl) ?_
  intro p e s m args below meth c F hr hlk
  refine g_iload_n F 1 dX1_changeNoise_0 rfl rfl ?_
  refine g_iconst (v := 0) F dX1_changeNoise_1 (by decide) ?_
  refine g_bipush (v := 9) F dX1_changeNoise_2 (by decide) ?_
  refine g_callIn (na := 3) F (c_X5_within hj) (gw mCO_yX5_within) F.2.2.1.1 mST_yX5_within mIN_RX5 rfl rfl (by decide +kernel) ⟨rfl, rfl, Nat.le_of_ble_eq_true rfl, Nat.le_of_ble_eq_true rfl, Nat.le_of_ble_eq_true rfl, Nat.le_of_ble_eq_true rfl, Nat.le_of_ble_eq_true rfl⟩ dX1_changeNoise_4 (fun r_4 u_4 h_4 => ?_)
  obtain ⟨rfl, rfl⟩ := h_4
  try dsimp only
  refine g_if_ne F 13 dX1_changeNoise_7 (by decide) (fun c_7 => ?_) (fun c_7 => ?_)
  · have P1 := bz_n.mp c_7
    refine g_aload_n F 0 dX1_changeNoise_13 rfl rfl ?_
    refine gf_0_5 F hk mFL_X1_49 dX1_changeNoise_14 ?_
    refine g_topi (fun x2_17 ex2_17 => ?_)
    refine g_istore_n (L' := [(2, _), (0, _), (1, _)]) F dX1_changeNoise_17 rfl (by decide) rfl ?_
    refine g_aload_n F 1 dX1_changeNoise_18 rfl rfl ?_
    refine g_iload_n F 2 dX1_changeNoise_19 rfl rfl ?_
    refine gp_0_5 F hk mFL_X1_49 dX1_changeNoise_20 ?_
    refine g_iload_n F 0 dX1_changeNoise_23 rfl rfl ?_
    refine g_iret F hr hlk rfl dX1_changeNoise_24 ?_
    refine Or.inr ⟨P1, ex2_17.trans R.1.2.2.1, ?_, Fr.up (inL_0 (by decide))⟩
    exact R.num (fun K i j hK => up3_k hK) (fun i hi => upd_n (by omega)) (by simp [up3, upd]; exact R.1.1) (by simp [up3, upd]; exact R.1.2.1) (by simp [up3, upd]) (by simp [up3, upd]; exact R.1.2.2.2.1) (by simp [up3, upd]; exact R.1.2.2.2.2.1) (by simp [up3, upd]; exact R.1.2.2.2.2.2.1) (by simp [up3, upd]; exact R.1.2.2.2.2.2.2.1)
  · have N1 := bz_0.mp c_7
    refine g_bipush (v := -2) F dX1_changeNoise_10 (by decide) ?_
    refine g_iret F hr hlk rfl dX1_changeNoise_12 ?_
    exact Or.inl ⟨N1, rfl, rfl⟩
theorem Rp.short {n h : Nat} {I : Ii} {pm : Pm} {k : Nat} {σ : Sg} (R : Rp n h I pm k σ) {b : Nat} (hb : b < 8) (v : Int32) : Rp n h (up3 I 6 k b v) pm k (upd σ (8 + b) v) := by
  obtain ⟨⟨a1, a2, a3, a4, a5, a6, a7, a8⟩, b0, c, d, e1, e2, e3, e4, e5, e6⟩ := R
  have n0 : ∀ i, i < 8 → upd σ (8 + b) v i = σ i := fun i hi => upd_n (by omega)
  have n1 : ∀ i, 16 ≤ i → upd σ (8 + b) v i = σ i := fun i hi => upd_n (by omega)
  have u0 : ∀ K i j, K ≠ 6 → up3 I 6 k b v K i j = I K i j := fun K i j hK => up3_k hK
  refine ⟨⟨?_, ?_, ?_, ?_, ?_, ?_, ?_, ?_⟩, fun b' hb' => ?_, fun r' f' hr' hf' => ?_, fun j hj => ?_, e1, e2, by rw [n0 6 (by omega)]; exact e3, e4, by rw [n0 7 (by omega)]; exact e5, e6⟩
  · rw [u0 _ _ _ (by decide), n0 _ (by omega)]; exact a1
  · rw [u0 _ _ _ (by decide), n0 _ (by omega)]; exact a2
  · rw [u0 _ _ _ (by decide), n0 _ (by omega)]; exact a3
  · rw [u0 _ _ _ (by decide), u0 _ _ _ (by decide), n0 _ (by omega)]; exact a4
  · rw [u0 _ _ _ (by decide), n0 _ (by omega)]; exact a5
  · rw [u0 _ _ _ (by decide), n0 _ (by omega)]; exact a6
  · rw [u0 _ _ _ (by decide), n0 _ (by omega)]; exact a7
  · rw [u0 _ _ _ (by decide), n0 _ (by omega)]; exact a8
  · by_cases hq : b' = b
    · subst hq
      rw [up3_s, upd_s]
    · rw [up3_n (fun e => hq e.2.2), upd_n (by omega)]
      exact b0 b' hb'
  · rw [u0 _ _ _ (by decide), n1 _ (by omega)]; exact c r' f' hr' hf'
  · rw [u0 _ _ _ (by decide), u0 _ _ _ (by decide), u0 _ _ _ (by decide), n1 _ (by omega), n1 _ (by omega), n1 _ (by omega)]; exact d j hj
set_option maxHeartbeats 4000000 in
set_option maxRecDepth 100000 in
theorem c_X1_changeShort {l : Launch} {G : Gm} (hj : Aj G) {I : Ii} {pm : Pm} {k : Nat} (hk : k < 11) {n h : Nat} {σ : Sg} (R : Rp n h I pm k σ) {x y : Int32} : CI l G yX1_changeShort (wz yX1_changeShort cX1_changeShort 4 (some .int)) (rmL 2) [.ref (G.2.2 0 k), .int x, .int y] I pm (fun r u => (¬ (0 ≤ x ∧ x ≤ 7) ∧ r = -1 ∧ u = (I, pm)) ∨ ((0 ≤ x ∧ x ≤ 7) ∧ ¬ (0 ≤ y ∧ y ≤ 99) ∧ r = -2 ∧ u = (I, pm)) ∨ ((0 ≤ x ∧ x ≤ 7) ∧ (0 ≤ y ∧ y ≤ 99) ∧ r = σ (8 + x.toInt.toNat) ∧ Rp n h u.1 u.2 k (upd σ (8 + x.toInt.toNat) y) ∧ Fr k I pm u.1 u.2)) := by
  refine CI.walk hj (by decide +kernel) (by show _ ≤ 4; exact Nat.le_of_ble_eq_true rfl) ?_
  intro p e s m args below meth c F hr hlk
  refine g_iload_n F 1 dX1_changeShort_0 rfl rfl ?_
  refine g_callIn (na := 1) F (c_X5_isBlock hj) (gw mCO_yX5_isBlock) F.2.2.1.2.2.1 mST_yX5_isBlock mIN_RX5 rfl rfl (by decide +kernel) ⟨rfl, rfl, Nat.le_of_ble_eq_true rfl, Nat.le_of_ble_eq_true rfl, Nat.le_of_ble_eq_true rfl, Nat.le_of_ble_eq_true rfl, Nat.le_of_ble_eq_true rfl⟩ dX1_changeShort_1 (fun r_1 u_1 h_1 => ?_)
  obtain ⟨rfl, rfl⟩ := h_1
  try dsimp only
  refine g_if_ne F 9 dX1_changeShort_4 (by decide) (fun c_4 => ?_) (fun c_4 => ?_)
  · have P1 := bz_n.mp c_4
    have ex := rng (m := 7) rfl P1.1 P1.2
    refine g_iload_n F 2 dX1_changeShort_9 rfl rfl ?_
    refine g_iconst (v := 0) F dX1_changeShort_10 (by decide) ?_
    refine g_bipush (v := 99) F dX1_changeShort_11 (by decide) ?_
    refine g_callIn (na := 3) F (c_X5_within hj) (gw mCO_yX5_within) F.2.2.1.1 mST_yX5_within mIN_RX5 rfl rfl (by decide +kernel) ⟨rfl, rfl, Nat.le_of_ble_eq_true rfl, Nat.le_of_ble_eq_true rfl, Nat.le_of_ble_eq_true rfl, Nat.le_of_ble_eq_true rfl, Nat.le_of_ble_eq_true rfl⟩ dX1_changeShort_13 (fun r_13 u_13 h_13 => ?_)
    obtain ⟨rfl, rfl⟩ := h_13
    try dsimp only
    refine g_if_ne F 22 dX1_changeShort_16 (by decide) (fun c_16 => ?_) (fun c_16 => ?_)
    · have P2 := bz_n.mp c_16
      refine g_aload_n F 0 dX1_changeShort_22 rfl rfl ?_
      refine gf_0_2 F hk mFL_X1_24 dX1_changeShort_23 ?_
      refine g_iload_n F 1 dX1_changeShort_26 rfl rfl ?_
      refine ga_6 (j := x.toInt.toNat) F hk ex.2 (by omega) dX1_changeShort_27 ?_
      refine g_topi (fun x3_28 ex3_28 => ?_)
      refine g_istore_n (L' := [(3, _), (0, _), (1, _), (2, _)]) F dX1_changeShort_28 rfl (by decide) rfl ?_
      refine g_aload_n F 1 dX1_changeShort_29 rfl rfl ?_
      refine gf_0_2 F hk mFL_X1_24 dX1_changeShort_30 ?_
      refine g_iload_n F 2 dX1_changeShort_33 rfl rfl ?_
      refine g_iload_n F 3 dX1_changeShort_34 rfl rfl ?_
      refine gs_6 (j := x.toInt.toNat) F hk ex.2 (by omega) dX1_changeShort_35 ?_
      refine g_iload_n F 0 dX1_changeShort_36 rfl rfl ?_
      refine g_iret F hr hlk rfl dX1_changeShort_37 ?_
      exact Or.inr (Or.inr ⟨P1, P2, ex3_28.trans (R.sh (by omega)), R.short (by omega) y, Fr.up (inL_0 (by decide))⟩)
    · have N2 := bz_0.mp c_16
      refine g_bipush (v := -2) F dX1_changeShort_19 (by decide) ?_
      refine g_iret F hr hlk rfl dX1_changeShort_21 ?_
      exact Or.inr (Or.inl ⟨P1, N2, rfl, rfl⟩)
  · have N1 := bz_0.mp c_4
    refine g_iconst (v := -1) F dX1_changeShort_7 (by decide) ?_
    refine g_iret F hr hlk rfl dX1_changeShort_8 ?_
    exact Or.inl ⟨N1, rfl, rfl⟩
