/-! PART 33: the reference: what refuses; an order is laid -/
def orJ (h : Nat) (σ : Sg) (j k : Nat) : Sg := fun i => if 104 + 3 * (j + 1) ≤ i ∧ i < 107 + 3 * h then σ (i - 3) else if 104 + 3 * j ≤ i ∧ i < 104 + 3 * j + k then σ (i - 3) else σ i
theorem orJ_0 {h : Nat} {σ : Sg} : orJ h σ h 0 = σ := by
  funext i
  unfold orJ
  rw [if_neg (by omega), if_neg (by omega)]
theorem orJ_s {h j k : Nat} {σ : Sg} (hj : 1 ≤ j) (hk : k < 3) : upd (orJ h σ j k) (104 + 3 * j + k) (orJ h σ j k (104 + 3 * j - 3 + k)) = orJ h σ j (k + 1) := by
  funext i
  by_cases c : i = 104 + 3 * j + k
  · rw [c, upd_s]
    unfold orJ
    rw [if_neg (by omega), if_neg (by omega), if_neg (by omega), if_pos (by omega)]
    congr 1
    omega
  · rw [upd_n c]
    unfold orJ
    by_cases q : 104 + 3 * (j + 1) ≤ i ∧ i < 107 + 3 * h
    · rw [if_pos q, if_pos q]
    · rw [if_neg q, if_neg q]
      by_cases z : 104 + 3 * j ≤ i ∧ i < 104 + 3 * j + k
      · rw [if_pos z, if_pos (by omega)]
      · rw [if_neg z, if_neg (by omega)]
theorem orJ_3 {h j : Nat} {σ : Sg} (hj : 1 ≤ j) (hh : j ≤ h) : orJ h σ j 3 = orJ h σ (j - 1) 0 := by
  funext i
  unfold orJ
  by_cases q : 104 + 3 * (j + 1) ≤ i ∧ i < 107 + 3 * h
  · rw [if_pos q, if_pos (by omega)]
  · rw [if_neg q]
    by_cases z : 104 + 3 * j ≤ i ∧ i < 104 + 3 * j + 3
    · rw [if_pos z, if_pos (by omega)]
    · rw [if_neg z, if_neg (by omega), if_neg (by omega)]
theorem orJ_fin {h p : Nat} {σ : Sg} {a d t : Int32} (e : iposS σ t h = p) (hp : p ≤ h) : upd (upd (upd (upd (orJ h σ p 0) (104 + 3 * p) a) (104 + 3 * p + 1) d) (104 + 3 * p + 2) t) 7 (nI (h + 1)) = ordS h a d t σ := by
  funext i
  unfold ordS
  rw [e]
  by_cases c7 : i = 7
  · rw [c7, upd_s, if_pos rfl]
  · rw [upd_n c7, if_neg c7]
    by_cases q : 104 ≤ i ∧ i < 107 + 3 * h
    · rw [if_pos q]
      by_cases c1 : (i - 104) / 3 < p
      · rw [if_pos c1, upd_n (by omega), upd_n (by omega), upd_n (by omega)]
        unfold orJ
        rw [if_neg (by omega), if_neg (by omega)]
      · rw [if_neg c1]
        by_cases c2 : (i - 104) / 3 = p
        · rw [if_pos c2]
          by_cases m0 : (i - 104) % 3 = 0
          · rw [if_pos m0, upd_n (by omega), upd_n (by omega), show i = 104 + 3 * p by omega, upd_s]
          · rw [if_neg m0]
            by_cases m1 : (i - 104) % 3 = 1
            · rw [if_pos m1, upd_n (by omega), show i = 104 + 3 * p + 1 by omega, upd_s]
            · rw [if_neg m1, show i = 104 + 3 * p + 2 by omega, upd_s]
        · rw [if_neg c2, upd_n (by omega), upd_n (by omega), upd_n (by omega)]
          unfold orJ
          rw [if_pos (by omega)]
    · rw [if_neg q, upd_n (by omega), upd_n (by omega), upd_n (by omega)]
      unfold orJ
      rw [if_neg (by omega), if_neg (by omega)]
theorem orJ_fin2 {h p : Nat} {σ : Sg} {a d t : Int32} (e : iposS σ t h = p) (hp : p ≤ h) : upd (upd (upd (upd (orJ h σ p 0) (104 + 3 * p) a) (104 + 3 * p + 1) d) (104 + 3 * p + 2) t) 7 (nI h + 1) = ordS h a d t σ := by
  rw [show nI h + 1 = nI (h + 1) from nI_1 h]
  exact orJ_fin e hp
theorem orJ_lo {h j k i : Nat} {σ : Sg} (hi : i < 104 + 3 * j) : orJ h σ j k i = σ i := by
  unfold orJ
  rw [if_neg (by omega), if_neg (by omega)]

set_option maxHeartbeats 4000000 in
set_option maxRecDepth 100000 in
theorem c_X6_refusesOrder {l : Launch} {G : Gm} (hj : Aj G) {I : Ii} {pm : Pm} {σ : Sg} {n h : Nat} (V : Iv n h σ) {a d t : Int32} : CI l G yX6_refusesOrder (wz yX6_refusesOrder cX6_refusesOrder 4 (some .int)) (rmL 1) [.ref (G.2.2 16 0), .int a, .int d, .int t] (upR I 17 0 σ) pm (fun r u => ((¬ okO a d t ∧ r = -2) ∨ (okO a d t ∧ h = 20 ∧ r = -4) ∨ (okO a d t ∧ h < 20 ∧ r = 0)) ∧ u = (upR I 17 0 σ, pm)) := by
  have hh20 := V.2.2.2.1
  refine CI.walk hj (by decide +kernel) (by show _ ≤ 4; exact Nat.le_of_ble_eq_true rfl) ?_
  intro p e s m args below meth c F hr hlk
  refine g_iload_n F 1 dX6_refusesOrder_0 rfl rfl ?_
  refine g_iconst (v := 0) F dX6_refusesOrder_1 (by decide) ?_
  refine g_bipush (v := 99) F dX6_refusesOrder_2 (by decide) ?_
  refine g_callIs (na := 3) F (c_X6_in hj) lk_X6_54 rfl rfl (by decide +kernel) ⟨rfl, rfl, Nat.le_of_ble_eq_true rfl, Nat.le_of_ble_eq_true rfl, Nat.le_of_ble_eq_true rfl, Nat.le_of_ble_eq_true rfl, Nat.le_of_ble_eq_true rfl⟩ dX6_refusesOrder_4 (fun r_4 u_4 h_4 => ?_)
  obtain ⟨rfl, rfl⟩ := h_4
  try dsimp only
  refine g_if_eq F 30 dX6_refusesOrder_7 (by decide) (fun c_7 => ?_) (fun c_7 => ?_)
  · have N7 := bz_0.mp c_7
    refine g_bipush (v := -2) F dX6_refusesOrder_30 (by decide) ?_
    refine g_iret F hr hlk rfl dX6_refusesOrder_32 ?_
    refine ⟨Or.inl ⟨fun q => ?_, rfl⟩, rfl⟩
    first
    | exact N27 q.2.2
    | exact N18 q.2.1
    | exact N7 q.1
  · have P7 := bz_n.mp c_7
    refine g_iload_n F 2 dX6_refusesOrder_10 rfl rfl ?_
    refine g_iconst (v := 0) F dX6_refusesOrder_11 (by decide) ?_
    refine g_sipush (v := 255) F dX6_refusesOrder_12 (by decide) ?_
    refine g_callIs (na := 3) F (c_X6_in hj) lk_X6_54 rfl rfl (by decide +kernel) ⟨rfl, rfl, Nat.le_of_ble_eq_true rfl, Nat.le_of_ble_eq_true rfl, Nat.le_of_ble_eq_true rfl, Nat.le_of_ble_eq_true rfl, Nat.le_of_ble_eq_true rfl⟩ dX6_refusesOrder_15 (fun r_15 u_15 h_15 => ?_)
    obtain ⟨rfl, rfl⟩ := h_15
    try dsimp only
    refine g_if_eq F 30 dX6_refusesOrder_18 (by decide) (fun c_18 => ?_) (fun c_18 => ?_)
    · have N18 := bz_0.mp c_18
      refine g_bipush (v := -2) F dX6_refusesOrder_30 (by decide) ?_
      refine g_iret F hr hlk rfl dX6_refusesOrder_32 ?_
      refine ⟨Or.inl ⟨fun q => ?_, rfl⟩, rfl⟩
      first
      | exact N27 q.2.2
      | exact N18 q.2.1
      | exact N7 q.1
    · have P18 := bz_n.mp c_18
      refine g_iload_n F 3 dX6_refusesOrder_21 rfl rfl ?_
      refine g_iconst (v := 0) F dX6_refusesOrder_22 (by decide) ?_
      refine g_iconst (v := 3) F dX6_refusesOrder_23 (by decide) ?_
      refine g_callIs (na := 3) F (c_X6_in hj) lk_X6_54 rfl rfl (by decide +kernel) ⟨rfl, rfl, Nat.le_of_ble_eq_true rfl, Nat.le_of_ble_eq_true rfl, Nat.le_of_ble_eq_true rfl, Nat.le_of_ble_eq_true rfl, Nat.le_of_ble_eq_true rfl⟩ dX6_refusesOrder_24 (fun r_24 u_24 h_24 => ?_)
      obtain ⟨rfl, rfl⟩ := h_24
      try dsimp only
      refine g_if_ne F 33 dX6_refusesOrder_27 (by decide) (fun c_27 => ?_) (fun c_27 => ?_)
      · have P27 := bz_n.mp c_27
        refine g_aload_n F 0 dX6_refusesOrder_33 rfl rfl ?_
        refine gf_16_1 F (by decide) mFL_X6_7 dX6_refusesOrder_34 ?_
        refine g_bipush (v := 7) F dX6_refusesOrder_37 (by decide) ?_
        refine ga_17 (j := 7) F (by decide) rfl (by omega) dX6_refusesOrder_39 ?_
        refine g_eqi rd17 ?_
        refine g_bipush (v := 20) F dX6_refusesOrder_40 (by decide) ?_
        refine g_icmp_ne F 50 dX6_refusesOrder_42 (by decide) (fun c_42 => ?_) (fun c_42 => ?_)
        · have n_42 := nx_net (a := h) (b := 20) V.2.2.1 rfl (by omega) (by omega) c_42
          refine g_iconst (v := 0) F dX6_refusesOrder_50 (by decide) ?_
          refine g_iret F hr hlk rfl dX6_refusesOrder_51 ?_
          exact ⟨Or.inr (Or.inr ⟨⟨P7, P18, P27⟩, by omega, rfl⟩), rfl⟩
        · have n_42 := nx_nef (a := h) (b := 20) V.2.2.1 rfl (by omega) (by omega) c_42
          refine g_bipush (v := -4) F dX6_refusesOrder_45 (by decide) ?_
          refine g_goto F 51 dX6_refusesOrder_47 (by decide) ?_
          refine g_iret F hr hlk rfl dX6_refusesOrder_51 ?_
          exact ⟨Or.inr (Or.inl ⟨⟨P7, P18, P27⟩, by omega, rfl⟩), rfl⟩
      · have N27 := bz_0.mp c_27
        refine g_bipush (v := -2) F dX6_refusesOrder_30 (by decide) ?_
        refine g_iret F hr hlk rfl dX6_refusesOrder_32 ?_
        refine ⟨Or.inl ⟨fun q => ?_, rfl⟩, rfl⟩
        first
        | exact N27 q.2.2
        | exact N18 q.2.1
        | exact N7 q.1
set_option maxHeartbeats 4000000 in
set_option maxRecDepth 100000 in
theorem c_X6_refusesFrame {l : Launch} {G : Gm} (hj : Aj G) {I : Ii} {pm : Pm} {a d t : Int32} : CI l G yX6_refusesFrame (wz yX6_refusesFrame cX6_refusesFrame 3 (some .int)) (rmL 1) [.int a, .int d, .int t] I pm (fun r u => ((¬ okF a d t ∧ r = -2) ∨ (okF a d t ∧ r = 0)) ∧ u = (I, pm)) := by
  refine CI.walk hj (by decide +kernel) (by show _ ≤ 3; exact Nat.le_of_ble_eq_true rfl) ?_
  intro p e s m args below meth c F hr hlk
  refine g_iload_n F 0 dX6_refusesFrame_0 rfl rfl ?_
  refine g_iconst (v := 0) F dX6_refusesFrame_1 (by decide) ?_
  refine g_sipush (v := 255) F dX6_refusesFrame_2 (by decide) ?_
  refine g_callIs (na := 3) F (c_X6_in hj) lk_X6_54 rfl rfl (by decide +kernel) ⟨rfl, rfl, Nat.le_of_ble_eq_true rfl, Nat.le_of_ble_eq_true rfl, Nat.le_of_ble_eq_true rfl, Nat.le_of_ble_eq_true rfl, Nat.le_of_ble_eq_true rfl⟩ dX6_refusesFrame_5 (fun r_5 u_5 h_5 => ?_)
  obtain ⟨rfl, rfl⟩ := h_5
  try dsimp only
  refine g_if_eq F 37 dX6_refusesFrame_8 (by decide) (fun c_8 => ?_) (fun c_8 => ?_)
  · have N8 := bz_0.mp c_8
    refine g_bipush (v := -2) F dX6_refusesFrame_37 (by decide) ?_
    refine g_iret F hr hlk rfl dX6_refusesFrame_39 ?_
    refine ⟨Or.inl ⟨fun q => ?_, rfl⟩, rfl⟩
    first
    | exact N30 q.2.2
    | exact N19 q.2.1
    | exact N8 q.1
  · have P8 := bz_n.mp c_8
    refine g_iload_n F 1 dX6_refusesFrame_11 rfl rfl ?_
    refine g_iconst (v := 0) F dX6_refusesFrame_12 (by decide) ?_
    refine g_sipush (v := 255) F dX6_refusesFrame_13 (by decide) ?_
    refine g_callIs (na := 3) F (c_X6_in hj) lk_X6_54 rfl rfl (by decide +kernel) ⟨rfl, rfl, Nat.le_of_ble_eq_true rfl, Nat.le_of_ble_eq_true rfl, Nat.le_of_ble_eq_true rfl, Nat.le_of_ble_eq_true rfl, Nat.le_of_ble_eq_true rfl⟩ dX6_refusesFrame_16 (fun r_16 u_16 h_16 => ?_)
    obtain ⟨rfl, rfl⟩ := h_16
    try dsimp only
    refine g_if_eq F 37 dX6_refusesFrame_19 (by decide) (fun c_19 => ?_) (fun c_19 => ?_)
    · have N19 := bz_0.mp c_19
      refine g_bipush (v := -2) F dX6_refusesFrame_37 (by decide) ?_
      refine g_iret F hr hlk rfl dX6_refusesFrame_39 ?_
      refine ⟨Or.inl ⟨fun q => ?_, rfl⟩, rfl⟩
      first
      | exact N30 q.2.2
      | exact N19 q.2.1
      | exact N8 q.1
    · have P19 := bz_n.mp c_19
      refine g_iload_n F 2 dX6_refusesFrame_22 rfl rfl ?_
      refine g_iconst (v := 0) F dX6_refusesFrame_23 (by decide) ?_
      refine g_sipush (v := 255) F dX6_refusesFrame_24 (by decide) ?_
      refine g_callIs (na := 3) F (c_X6_in hj) lk_X6_54 rfl rfl (by decide +kernel) ⟨rfl, rfl, Nat.le_of_ble_eq_true rfl, Nat.le_of_ble_eq_true rfl, Nat.le_of_ble_eq_true rfl, Nat.le_of_ble_eq_true rfl, Nat.le_of_ble_eq_true rfl⟩ dX6_refusesFrame_27 (fun r_27 u_27 h_27 => ?_)
      obtain ⟨rfl, rfl⟩ := h_27
      try dsimp only
      refine g_if_eq F 37 dX6_refusesFrame_30 (by decide) (fun c_30 => ?_) (fun c_30 => ?_)
      · have N30 := bz_0.mp c_30
        refine g_bipush (v := -2) F dX6_refusesFrame_37 (by decide) ?_
        refine g_iret F hr hlk rfl dX6_refusesFrame_39 ?_
        refine ⟨Or.inl ⟨fun q => ?_, rfl⟩, rfl⟩
        first
        | exact N30 q.2.2
        | exact N19 q.2.1
        | exact N8 q.1
      · have P30 := bz_n.mp c_30
        refine g_iconst (v := 0) F dX6_refusesFrame_33 (by decide) ?_
        refine g_goto F 39 dX6_refusesFrame_34 (by decide) ?_
        refine g_iret F hr hlk rfl dX6_refusesFrame_39 ?_
        exact ⟨Or.inr ⟨⟨P8, P19, P30⟩, rfl⟩, rfl⟩
set_option maxHeartbeats 4000000 in
set_option maxRecDepth 100000 in
theorem c_X6_refusesShorts {l : Launch} {G : Gm} (hj : Aj G) {I : Ii} {pm : Pm} {b t : Int32} : CI l G yX6_refusesShorts (wz yX6_refusesShorts cX6_refusesShorts 2 (some .int)) (rmL 1) [.int b, .int t] I pm (fun r u => ((¬ (0 ≤ b ∧ b ≤ 7) ∧ r = -1) ∨ ((0 ≤ b ∧ b ≤ 7) ∧ ¬ (0 ≤ t ∧ t ≤ 99) ∧ r = -2) ∨ ((0 ≤ b ∧ b ≤ 7) ∧ (0 ≤ t ∧ t ≤ 99) ∧ r = 0)) ∧ u = (I, pm)) := by
  refine CI.walk hj (by decide +kernel) (by show _ ≤ 2; exact Nat.le_of_ble_eq_true rfl) ?_
  intro p e s m args below meth c F hr hlk
  refine g_iload_n F 0 dX6_refusesShorts_0 rfl rfl ?_
  refine g_iconst (v := 0) F dX6_refusesShorts_1 (by decide) ?_
  refine g_bipush (v := 7) F dX6_refusesShorts_2 (by decide) ?_
  refine g_callIs (na := 3) F (c_X6_in hj) lk_X6_54 rfl rfl (by decide +kernel) ⟨rfl, rfl, Nat.le_of_ble_eq_true rfl, Nat.le_of_ble_eq_true rfl, Nat.le_of_ble_eq_true rfl, Nat.le_of_ble_eq_true rfl, Nat.le_of_ble_eq_true rfl⟩ dX6_refusesShorts_4 (fun r_4 u_4 h_4 => ?_)
  obtain ⟨rfl, rfl⟩ := h_4
  try dsimp only
  refine g_if_ne F 14 dX6_refusesShorts_7 (by decide) (fun c_7 => ?_) (fun c_7 => ?_)
  · have P7 := bz_n.mp c_7
    refine g_iload_n F 1 dX6_refusesShorts_14 rfl rfl ?_
    refine g_iconst (v := 0) F dX6_refusesShorts_15 (by decide) ?_
    refine g_bipush (v := 99) F dX6_refusesShorts_16 (by decide) ?_
    refine g_callIs (na := 3) F (c_X6_in hj) lk_X6_54 rfl rfl (by decide +kernel) ⟨rfl, rfl, Nat.le_of_ble_eq_true rfl, Nat.le_of_ble_eq_true rfl, Nat.le_of_ble_eq_true rfl, Nat.le_of_ble_eq_true rfl, Nat.le_of_ble_eq_true rfl⟩ dX6_refusesShorts_18 (fun r_18 u_18 h_18 => ?_)
    obtain ⟨rfl, rfl⟩ := h_18
    try dsimp only
    refine g_if_eq F 28 dX6_refusesShorts_21 (by decide) (fun c_21 => ?_) (fun c_21 => ?_)
    · have N21 := bz_0.mp c_21
      refine g_bipush (v := -2) F dX6_refusesShorts_28 (by decide) ?_
      refine g_iret F hr hlk rfl dX6_refusesShorts_30 ?_
      exact ⟨Or.inr (Or.inl ⟨P7, N21, rfl⟩), rfl⟩
    · have P21 := bz_n.mp c_21
      refine g_iconst (v := 0) F dX6_refusesShorts_24 (by decide) ?_
      refine g_goto F 30 dX6_refusesShorts_25 (by decide) ?_
      refine g_iret F hr hlk rfl dX6_refusesShorts_30 ?_
      exact ⟨Or.inr (Or.inr ⟨P7, P21, rfl⟩), rfl⟩
  · have N7 := bz_0.mp c_7
    refine g_iconst (v := -1) F dX6_refusesShorts_10 (by decide) ?_
    refine g_goto F 30 dX6_refusesShorts_11 (by decide) ?_
    refine g_iret F hr hlk rfl dX6_refusesShorts_30 ?_
    exact ⟨Or.inl ⟨N7, rfl⟩, rfl⟩
set_option maxHeartbeats 4000000 in
set_option maxRecDepth 100000 in
theorem c_X6_refusesPass {l : Launch} {G : Gm} (hj : Aj G) {I : Ii} {pm : Pm} {σ : Sg} {x : Int32} : CI l G yX6_refusesPass (wz yX6_refusesPass cX6_refusesPass 2 (some .int)) (rmL 1) [.ref (G.2.2 16 0), .int x] (upR I 17 0 σ) pm (fun r u => ((¬ (1 ≤ x ∧ x ≤ 99) ∧ r = -2) ∨ ((1 ≤ x ∧ x ≤ 99) ∧ 99999 < σ 0 + x ∧ r = -5) ∨ ((1 ≤ x ∧ x ≤ 99) ∧ ¬ 99999 < σ 0 + x ∧ r = 0)) ∧ u = (upR I 17 0 σ, pm)) := by
  refine CI.walk hj (by decide +kernel) (by show _ ≤ 2; exact Nat.le_of_ble_eq_true rfl) ?_
  intro p e s m args below meth c F hr hlk
  refine g_iload_n F 1 dX6_refusesPass_0 rfl rfl ?_
  refine g_iconst (v := 1) F dX6_refusesPass_1 (by decide) ?_
  refine g_bipush (v := 99) F dX6_refusesPass_2 (by decide) ?_
  refine g_callIs (na := 3) F (c_X6_in hj) lk_X6_54 rfl rfl (by decide +kernel) ⟨rfl, rfl, Nat.le_of_ble_eq_true rfl, Nat.le_of_ble_eq_true rfl, Nat.le_of_ble_eq_true rfl, Nat.le_of_ble_eq_true rfl, Nat.le_of_ble_eq_true rfl⟩ dX6_refusesPass_4 (fun r_4 u_4 h_4 => ?_)
  obtain ⟨rfl, rfl⟩ := h_4
  try dsimp only
  refine g_if_ne F 15 dX6_refusesPass_7 (by decide) (fun c_7 => ?_) (fun c_7 => ?_)
  · have P7 := bz_n.mp c_7
    refine g_aload_n F 0 dX6_refusesPass_15 rfl rfl ?_
    refine gf_16_1 F (by decide) mFL_X6_7 dX6_refusesPass_16 ?_
    refine g_iconst (v := 0) F dX6_refusesPass_19 (by decide) ?_
    refine ga_17 (j := 0) F (by decide) rfl (by omega) dX6_refusesPass_20 ?_
    refine g_eqi rd17 ?_
    refine g_iload_n F 1 dX6_refusesPass_21 rfl rfl ?_
    refine g_iadd F dX6_refusesPass_22 ?_
    refine g_ldc F mCN_X6_105 dX6_refusesPass_23 ?_
    refine g_icmp_le F 33 dX6_refusesPass_25 (by decide) (fun c_25 => ?_) (fun c_25 => ?_)
    · refine g_iconst (v := 0) F dX6_refusesPass_33 (by decide) ?_
      refine g_iret F hr hlk rfl dX6_refusesPass_34 ?_
      exact ⟨Or.inr (Or.inr ⟨P7, Int32.not_lt.mpr c_25, rfl⟩), rfl⟩
    · refine g_bipush (v := -5) F dX6_refusesPass_28 (by decide) ?_
      refine g_goto F 34 dX6_refusesPass_30 (by decide) ?_
      refine g_iret F hr hlk rfl dX6_refusesPass_34 ?_
      exact ⟨Or.inr (Or.inl ⟨P7, Int32.not_le.mp c_25, rfl⟩), rfl⟩
  · have N7 := bz_0.mp c_7
    refine g_bipush (v := -2) F dX6_refusesPass_10 (by decide) ?_
    refine g_goto F 34 dX6_refusesPass_12 (by decide) ?_
    refine g_iret F hr hlk rfl dX6_refusesPass_34 ?_
    exact ⟨Or.inl ⟨N7, rfl⟩, rfl⟩
set_option maxHeartbeats 4000000 in
set_option maxRecDepth 100000 in
theorem c_X6_laysOrder {l : Launch} {G : Gm} (hj : Aj G) {I : Ii} {pm : Pm} {σ : Sg} {n h : Nat} (V : Iv n h σ) (hh : h < 20) {a d t : Int32} : CI l G yX6_laysOrder (wz yX6_laysOrder cX6_laysOrder 6 (some .int)) (rmL 0) [.ref (G.2.2 16 0), .int a, .int d, .int t] (upR I 17 0 σ) pm (fun r u => r = nI (h + 1) ∧ u = (upR I 17 0 (ordS h a d t σ), pm)) := by
  refine CI.walk hj (by decide +kernel) (by show _ ≤ 6; exact Nat.le_of_ble_eq_true rfl) ?_
  intro p e s m args below meth c F hr hlk
  have FIN : ∀ j, j ≤ h → iposS σ t h = j → ∀ xj, xj = nI j → GG p l e (rmL 0) s m args below meth c G (AA G) 6 0 0 (MQ below (va_Qi (fun (r : Int32) (u : Ii × Pm) => r = nI (h + 1) ∧ u = (upR I 17 0 (ordS h a d t σ), pm)) (fun (u : Ii × Pm) t => Wd G u.1 u.2 t.heap) (AA G)) args s 0 0 (AA G)) (upR I 17 0 (orJ h σ j 0)) pm [(0, .ref (G.2.2 16 0)), (1, .int a), (2, .int d), (3, .int t), (4, .int xj)] 85 [] := by
    intro j hjh ep xj ej
    have e7 : ∀ z1 z2 z3, upd (upd (upd (orJ h σ j 0) (104 + 3 * j) z1) (104 + 3 * j + 1) z2) (104 + 3 * j + 2) z3 7 = nI h := fun z1 z2 z3 => by
      rw [upd_n (by omega), upd_n (by omega), upd_n (by omega), orJ_lo (by omega)]
      exact V.2.2.1
    refine g_aload_n F 0 dX6_laysOrder_85 rfl rfl ?_
    refine gf_16_1 F (by decide) mFL_X6_7 dX6_laysOrder_86 ?_
    refine g_bipush (v := 104) F dX6_laysOrder_89 (by decide) ?_
    refine g_iconst (v := 3) F dX6_laysOrder_91 (by decide) ?_
    refine g_iload F 4 dX6_laysOrder_92 rfl ?_
    refine g_imul F dX6_laysOrder_94 ?_
    refine g_iadd F dX6_laysOrder_95 ?_
    refine g_iload_n F 1 dX6_laysOrder_96 rfl rfl ?_
    refine gs_17 (j := (104 + (3 * j))) F (by decide) (nx_add rfl (nx_mul rfl ej)) (by omega) dX6_laysOrder_97 ?_
    refine g_I wr17 ?_
    refine g_aload_n F 0 dX6_laysOrder_98 rfl rfl ?_
    refine gf_16_1 F (by decide) mFL_X6_7 dX6_laysOrder_99 ?_
    refine g_bipush (v := 104) F dX6_laysOrder_102 (by decide) ?_
    refine g_iconst (v := 3) F dX6_laysOrder_104 (by decide) ?_
    refine g_iload F 4 dX6_laysOrder_105 rfl ?_
    refine g_imul F dX6_laysOrder_107 ?_
    refine g_iadd F dX6_laysOrder_108 ?_
    refine g_iconst (v := 1) F dX6_laysOrder_109 (by decide) ?_
    refine g_iadd F dX6_laysOrder_110 ?_
    refine g_iload_n F 2 dX6_laysOrder_111 rfl rfl ?_
    refine gs_17 (j := ((104 + (3 * j)) + 1)) F (by decide) (nx_add (nx_add rfl (nx_mul rfl ej)) rfl) (by omega) dX6_laysOrder_112 ?_
    refine g_I wr17 ?_
    refine g_aload_n F 0 dX6_laysOrder_113 rfl rfl ?_
    refine gf_16_1 F (by decide) mFL_X6_7 dX6_laysOrder_114 ?_
    refine g_bipush (v := 104) F dX6_laysOrder_117 (by decide) ?_
    refine g_iconst (v := 3) F dX6_laysOrder_119 (by decide) ?_
    refine g_iload F 4 dX6_laysOrder_120 rfl ?_
    refine g_imul F dX6_laysOrder_122 ?_
    refine g_iadd F dX6_laysOrder_123 ?_
    refine g_iconst (v := 2) F dX6_laysOrder_124 (by decide) ?_
    refine g_iadd F dX6_laysOrder_125 ?_
    refine g_iload_n F 3 dX6_laysOrder_126 rfl rfl ?_
    refine gs_17 (j := ((104 + (3 * j)) + 2)) F (by decide) (nx_add (nx_add rfl (nx_mul rfl ej)) rfl) (by omega) dX6_laysOrder_127 ?_
    refine g_I wr17 ?_
    refine g_aload_n F 0 dX6_laysOrder_128 rfl rfl ?_
    refine gf_16_1 F (by decide) mFL_X6_7 dX6_laysOrder_129 ?_
    refine g_bipush (v := 7) F dX6_laysOrder_132 (by decide) ?_
    refine g_dup2 F dX6_laysOrder_134 rfl rfl ?_
    refine ga_17 (j := 7) F (by decide) rfl (by omega) dX6_laysOrder_135 ?_
    refine g_eqi rd17 ?_
    refine g_eqi (e7 _ _ _) ?_
    refine g_iconst (v := 1) F dX6_laysOrder_136 (by decide) ?_
    refine g_iadd F dX6_laysOrder_137 ?_
    refine gs_17 (j := 7) F (by decide) rfl (by omega) dX6_laysOrder_138 ?_
    refine g_I wr17 ?_
    refine g_I (congrArg (fun z => upR I 17 0 z) (orJ_fin2 ep hjh)) ?_
    refine g_aload_n F 0 dX6_laysOrder_139 rfl rfl ?_
    refine gf_16_1 F (by decide) mFL_X6_7 dX6_laysOrder_140 ?_
    refine g_bipush (v := 7) F dX6_laysOrder_143 (by decide) ?_
    refine ga_17 (j := 7) F (by decide) rfl (by omega) dX6_laysOrder_145 ?_
    refine g_eqi rd17 ?_
    refine g_iret F hr hlk rfl dX6_laysOrder_146 ?_
    exact ⟨if_pos rfl, rfl⟩
  have LOOP : ∀ j, j ≤ h → iposS σ t h = iposS σ t j → ∀ xj, xj = nI j → GG p l e (rmL 0) s m args below meth c G (AA G) 6 0 0 (MQ below (va_Qi (fun (r : Int32) (u : Ii × Pm) => r = nI (h + 1) ∧ u = (upR I 17 0 (ordS h a d t σ), pm)) (fun (u : Ii × Pm) t => Wd G u.1 u.2 t.heap) (AA G)) args s 0 0 (AA G)) (upR I 17 0 (orJ h σ j 0)) pm [(0, .ref (G.2.2 16 0)), (1, .int a), (2, .int d), (3, .int t), (4, .int xj)] 9 [] := by
    refine up_ind ?_
    intro j ih hjh ep xj ej
    have INNER : 1 ≤ j → iposS σ t h = iposS σ t (j - 1) → ∀ k, k ≤ 3 → ∀ xk, xk = nI k → GG p l e (rmL 0) s m args below meth c G (AA G) 6 0 0 (MQ below (va_Qi (fun (r : Int32) (u : Ii × Pm) => r = nI (h + 1) ∧ u = (upR I 17 0 (ordS h a d t σ), pm)) (fun (u : Ii × Pm) t => Wd G u.1 u.2 t.heap) (AA G)) args s 0 0 (AA G)) (upR I 17 0 (orJ h σ j k)) pm [(0, .ref (G.2.2 16 0)), (1, .int a), (2, .int d), (3, .int t), (4, .int xj), (5, .int xk)] 35 [] := by
      intro hj1 ep2
      refine dn_ind ?_
      intro k hk3 ihk xk ek
      refine g_iload F 5 dX6_laysOrder_35 rfl ?_
      refine g_iconst (v := 3) F dX6_laysOrder_37 (by decide) ?_
      refine g_icmp_ge F 79 dX6_laysOrder_38 (by decide) (fun c_38 => ?_) (fun c_38 => ?_)
      · have n_38 := nx_get (a := k) (b := 3) ek rfl (by omega) (by omega) c_38
        refine g_iincC (q := -1) (L' := [(4, _), (0, _), (1, _), (2, _), (3, _), (5, _)]) F 4 dX6_laysOrder_79 (by decide) rfl (by decide) rfl ?_
        refine g_goto F 9 dX6_laysOrder_82 (by decide) ?_
        refine g_sub [1, 2, 3, 4, 0] rfl ?_
        refine g_I (congrArg (fun z => upR I 17 0 z) (show orJ h σ j k = orJ h σ (j - 1) 0 by rw [show k = 3 by omega]; exact orJ_3 hj1 hjh)) ?_
        exact ih (j - 1) (by omega) (by omega) ep2 _ (nx_dec ej hj1)
      · have n_38 := nx_gef (a := k) (b := 3) ek rfl (by omega) (by omega) c_38
        refine g_aload_n F 0 dX6_laysOrder_41 rfl rfl ?_
        refine gf_16_1 F (by decide) mFL_X6_7 dX6_laysOrder_42 ?_
        refine g_bipush (v := 104) F dX6_laysOrder_45 (by decide) ?_
        refine g_iconst (v := 3) F dX6_laysOrder_47 (by decide) ?_
        refine g_iload F 4 dX6_laysOrder_48 rfl ?_
        refine g_imul F dX6_laysOrder_50 ?_
        refine g_iadd F dX6_laysOrder_51 ?_
        refine g_iload F 5 dX6_laysOrder_52 rfl ?_
        refine g_iadd F dX6_laysOrder_54 ?_
        refine g_aload_n F 0 dX6_laysOrder_55 rfl rfl ?_
        refine gf_16_1 F (by decide) mFL_X6_7 dX6_laysOrder_56 ?_
        refine g_bipush (v := 104) F dX6_laysOrder_59 (by decide) ?_
        refine g_iconst (v := 3) F dX6_laysOrder_61 (by decide) ?_
        refine g_iload F 4 dX6_laysOrder_62 rfl ?_
        refine g_imul F dX6_laysOrder_64 ?_
        refine g_iadd F dX6_laysOrder_65 ?_
        refine g_iconst (v := 3) F dX6_laysOrder_66 (by decide) ?_
        refine g_isub F dX6_laysOrder_67 ?_
        refine g_iload F 5 dX6_laysOrder_68 rfl ?_
        refine g_iadd F dX6_laysOrder_70 ?_
        refine ga_17 (j := (((104 + (3 * j)) - 3) + k)) F (by decide) (nx_add (nx_sub (nx_add rfl (nx_mul rfl ej)) rfl (by omega)) ek) (by omega) dX6_laysOrder_71 ?_
        refine g_eqi rd17 ?_
        refine gs_17 (j := ((104 + (3 * j)) + k)) F (by decide) (nx_add (nx_add rfl (nx_mul rfl ej)) ek) (by omega) dX6_laysOrder_72 ?_
        refine g_I wr17 ?_
        refine g_iincC (q := 1) (L' := [(5, _), (0, _), (1, _), (2, _), (3, _), (4, _)]) F 5 dX6_laysOrder_73 (by decide) rfl (by decide) rfl ?_
        refine g_goto F 35 dX6_laysOrder_76 (by decide) ?_
        refine g_sub [1, 2, 3, 4, 5, 0] rfl ?_
        refine g_I (congrArg (fun z => upR I 17 0 z) (orJ_s hj1 (by omega))) ?_
        exact ihk (by omega) _ (nx_add ek rfl)
    refine g_iload F 4 dX6_laysOrder_9 rfl ?_
    refine g_if_le F 85 dX6_laysOrder_11 (by decide) (fun c_11 => ?_) (fun c_11 => ?_)
    · have n_11 := nx_let (a := j) (b := 0) ej rfl (by omega) (by omega) c_11
      have EP : iposS σ t h = j := by rw [ep, show j = 0 by omega]; rfl
      refine g_sub [0, 1, 2, 3, 4] rfl ?_
      exact FIN j hjh EP _ ej
    · have n_11 := nx_lef (a := j) (b := 0) ej rfl (by omega) (by omega) c_11
      refine g_aload_n F 0 dX6_laysOrder_14 rfl rfl ?_
      refine gf_16_1 F (by decide) mFL_X6_7 dX6_laysOrder_15 ?_
      refine g_bipush (v := 104) F dX6_laysOrder_18 (by decide) ?_
      refine g_iconst (v := 3) F dX6_laysOrder_20 (by decide) ?_
      refine g_iload F 4 dX6_laysOrder_21 rfl ?_
      refine g_imul F dX6_laysOrder_23 ?_
      refine g_iadd F dX6_laysOrder_24 ?_
      refine g_iconst (v := 1) F dX6_laysOrder_25 (by decide) ?_
      refine g_isub F dX6_laysOrder_26 ?_
      refine ga_17 (j := ((104 + (3 * j)) - 1)) F (by decide) (nx_sub (nx_add rfl (nx_mul rfl ej)) rfl (by omega)) (by omega) dX6_laysOrder_27 ?_
      refine g_eqi rd17 ?_
      refine g_eqi (show _ = σ (104 + 3 * (j - 1) + 2) by rw [orJ_lo (by omega), show 104 + 3 * j - 1 = 104 + 3 * (j - 1) + 2 by omega]) ?_
      refine g_iload_n F 3 dX6_laysOrder_28 rfl rfl ?_
      refine g_icmp_ge F 85 dX6_laysOrder_29 (by decide) (fun c_29 => ?_) (fun c_29 => ?_)
      · have EP : iposS σ t h = j := by
          rw [ep]
          obtain ⟨i, rfl⟩ : ∃ i, j = i + 1 := ⟨j - 1, by omega⟩
          exact if_neg (Int32.not_lt.mpr c_29)
        refine g_sub [0, 1, 2, 3, 4] rfl ?_
        exact FIN j hjh EP _ ej
      · have EP : iposS σ t h = iposS σ t (j - 1) := by
          rw [ep]
          obtain ⟨i, rfl⟩ : ∃ i, j = i + 1 := ⟨j - 1, by omega⟩
          exact if_pos (Int32.not_le.mp c_29)
        refine g_iconst (v := 0) F dX6_laysOrder_32 (by decide) ?_
        refine g_istore (L' := [(5, _), (0, _), (1, _), (2, _), (3, _), (4, _)]) F dX6_laysOrder_33 (by decide) rfl ?_
        refine g_sub [1, 2, 3, 4, 5, 0] rfl ?_
        exact INNER (by omega) EP 0 (by decide) _ (by first | rfl | assumption)
  refine g_aload_n F 0 dX6_laysOrder_0 rfl rfl ?_
  refine gf_16_1 F (by decide) mFL_X6_7 dX6_laysOrder_1 ?_
  refine g_bipush (v := 7) F dX6_laysOrder_4 (by decide) ?_
  refine ga_17 (j := 7) F (by decide) rfl (by omega) dX6_laysOrder_6 ?_
  refine g_eqi rd17 ?_
  refine g_topi (fun x4_7 ex4_7 => ?_)
  refine g_istore (L' := [(4, _), (0, _), (1, _), (2, _), (3, _)]) F dX6_laysOrder_7 (by decide) rfl ?_
  refine g_sub [1, 2, 3, 4, 0] rfl ?_
  refine g_I (congrArg (fun z => upR I 17 0 z) (orJ_0 (h := h)).symm) ?_
  exact LOOP h (Nat.le_refl _) rfl _ (by first | exact V.2.2.1 | exact ex4_7.trans V.2.2.1)
