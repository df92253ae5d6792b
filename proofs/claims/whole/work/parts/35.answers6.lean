/-! PART 35: the reference's answers -/
theorem tld_a {σ : Sg} {r js : Nat} (h : js < 4) : tldS σ r (nI js) = σ (16 + 11 * r + (js + 1)) := by
  unfold tldS
  rcases (show js = 0 ∨ js = 1 ∨ js = 2 ∨ js = 3 by omega) with rfl | rfl | rfl | rfl
  · rw [if_pos (by decide)]
  · rw [if_neg (by decide), if_pos (by decide)]
  · rw [if_neg (by decide), if_neg (by decide), if_pos (by decide)]
  · rw [if_neg (by decide), if_neg (by decide), if_neg (by decide), if_pos (by decide)]
theorem tld_b {σ : Sg} {r js : Nat} (h : 6 ≤ js) (h8 : js ≤ 8) : tldS σ r (nI js) = σ (16 + 11 * r + js) := by
  unfold tldS
  rcases (show js = 6 ∨ js = 7 ∨ js = 8 by omega) with rfl | rfl | rfl
  · rw [if_neg (by decide), if_neg (by decide), if_neg (by decide), if_neg (by decide), if_neg (by decide), if_neg (by decide), if_pos (by decide)]
  · rw [if_neg (by decide), if_neg (by decide), if_neg (by decide), if_neg (by decide), if_neg (by decide), if_neg (by decide), if_neg (by decide), if_pos (by decide)]
  · rw [if_neg (by decide), if_neg (by decide), if_neg (by decide), if_neg (by decide), if_neg (by decide), if_neg (by decide), if_neg (by decide), if_neg (by decide), if_pos (by decide)]
theorem tld_c {σ : Sg} {r : Nat} : tldS σ r 4 = σ (16 + 11 * r + 5) + 1000 ∧ tldS σ r 5 = dueS σ r + 1000 ∧ tldS σ r 9 = σ (16 + 11 * r + 3) / 100 ∧ tldS σ r 10 = σ (16 + 11 * r + 9) ∧ tldS σ r 11 = σ (16 + 11 * r + 10) + 1000 := by
  unfold tldS
  refine ⟨?_, ?_, ?_, ?_, ?_⟩
  · rw [if_neg (by decide), if_neg (by decide), if_neg (by decide), if_neg (by decide), if_pos (by decide)]
  · rw [if_neg (by decide), if_neg (by decide), if_neg (by decide), if_neg (by decide), if_neg (by decide), if_pos (by decide)]
  · rw [if_neg (by decide), if_neg (by decide), if_neg (by decide), if_neg (by decide), if_neg (by decide), if_neg (by decide), if_neg (by decide), if_neg (by decide), if_neg (by decide), if_pos (by decide)]
  · rw [if_neg (by decide), if_neg (by decide), if_neg (by decide), if_neg (by decide), if_neg (by decide), if_neg (by decide), if_neg (by decide), if_neg (by decide), if_neg (by decide), if_neg (by decide), if_pos (by decide)]
  · rw [if_neg (by decide), if_neg (by decide), if_neg (by decide), if_neg (by decide), if_neg (by decide), if_neg (by decide), if_neg (by decide), if_neg (by decide), if_neg (by decide), if_neg (by decide), if_neg (by decide), if_pos (by decide)]
theorem cnt_a {σ : Sg} {hn pl js : Nat} (h : 4 ≤ js) (h6 : js ≤ 6) : cntS σ hn pl (nI js) = σ (3 + js - 4) := by
  unfold cntS
  rcases (show js = 4 ∨ js = 5 ∨ js = 6 by omega) with rfl | rfl | rfl
  · rw [if_neg (by decide), if_neg (by decide), if_neg (by decide), if_neg (by decide), if_pos (by decide)]
  · rw [if_neg (by decide), if_neg (by decide), if_neg (by decide), if_neg (by decide), if_neg (by decide), if_pos (by decide)]
  · rw [if_neg (by decide), if_neg (by decide), if_neg (by decide), if_neg (by decide), if_neg (by decide), if_neg (by decide), if_pos (by decide)]
def obS (σ : Sg) (n : Nat) (x : Int32) (j : Nat) : Int32 := if x = 7 then bwS σ j else cbS σ n j
theorem cnt_b {σ : Sg} {hn pl js n : Nat} (h : 7 ≤ js) (h8 : js ≤ 8) (hne : nof σ = n) : cntS σ hn pl (nI js) = obS σ n (nI js) 8 := by
  unfold cntS obS
  rcases (show js = 7 ∨ js = 8 by omega) with rfl | rfl
  · rw [if_neg (by decide), if_neg (by decide), if_neg (by decide), if_neg (by decide), if_neg (by decide), if_neg (by decide), if_neg (by decide), if_pos (by decide), if_pos (by decide)]
  · rw [if_neg (by decide), if_neg (by decide), if_neg (by decide), if_neg (by decide), if_neg (by decide), if_neg (by decide), if_neg (by decide), if_neg (by decide), if_pos (by decide), if_neg (by decide), hne]
theorem byC_28 {c : Int32} (h0 : 0 ≤ c.toInt) (h2 : c.toInt ≤ 2) : byC c (nI 28) = 280 := by
  have e : c = nI c.toInt.toNat := nat_of h0
  have key : ∀ q, q < 3 → byC (nI q) (nI 28) = 280 := by decide +kernel
  rw [e]
  exact key _ (by omega)

set_option maxHeartbeats 4000000 in
set_option maxRecDepth 100000 in
theorem c_X6_of {l : Launch} {G : Gm} (hj : Aj G) {I : Ii} {pm : Pm} {σ : Sg} {n h : Nat} (V : Iv n h σ) {a w : Int32} : CI l G yX6_of (wz yX6_of cX6_of 4 (some .int)) (rmL 2) [.ref (G.2.2 16 0), .int a, .int w] (upR I 17 0 σ) pm (fun r u => r = ofS σ a w ∧ u = (upR (up3 I 16 0 0 0) 17 0 σ, pm)) := by
  have hn8 := V.2.1
  have hh20 := V.2.2.2.1
  have hne := V.nofe
  have hhe := V.hofe
  refine CI.walk hj (by decide +kernel) (by show _ ≤ 4; exact Nat.le_of_ble_eq_true rfl) ?_
  intro p e s m args below meth c F hr hlk
  refine g_aload_n F 0 dX6_of_0 rfl rfl ?_
  refine g_iconst (v := 0) F dX6_of_1 (by decide) ?_
  refine gp_16_0 F (by decide) mFL_X6_32 dX6_of_2 ?_
  refine g_I (wr16 (by decide)) ?_
  refine g_aload_n F 0 dX6_of_5 rfl rfl ?_
  refine g_iload_n F 1 dX6_of_6 rfl rfl ?_
  refine g_callIv (na := 1) F 16 _ (c_X6_locoOf hj V.1 hn8) (by decide) rfl rfl lk_X6_87 rfl rfl (by decide +kernel) ⟨rfl, rfl, Nat.le_of_ble_eq_true rfl, Nat.le_of_ble_eq_true rfl, Nat.le_of_ble_eq_true rfl, Nat.le_of_ble_eq_true rfl, Nat.le_of_ble_eq_true rfl⟩ dX6_of_7 (fun r_7 u_7 h_7 => ?_)
  obtain ⟨rfl, rfl⟩ := h_7
  try dsimp only
  refine g_topi (fun x3_10 ex3_10 => ?_)
  refine g_istore_n (L' := [(3, _), (0, _), (1, _), (2, _)]) F dX6_of_10 rfl (by decide) rfl ?_
  refine g_iload_n F 0 dX6_of_11 rfl rfl ?_
  refine g_bipush (v := -6) F dX6_of_12 (by decide) ?_
  refine g_icmp_ne F 19 dX6_of_14 (by decide) (fun c_14 => ?_) (fun c_14 => ?_)
  · have RK : rkS σ a n < n ∧ x3_10 = nI (rkS σ a n) := by
      have := lco_t (σ := σ) (a := a) (n := n) (by rw [← ex3_10]; exact c_14)
      exact ⟨this.1, ex3_10.trans this.2⟩
    have LK := V.2.2.2.2.1 _ RK.1
    refine g_iload_n F 3 dX6_of_19 rfl rfl ?_
    by_cases hs_20 : 0 ≤ w.toInt ∧ w.toInt ≤ 11
    · obtain ⟨js_20, hj_20, ej_20⟩ := sw_in hs_20.1 hs_20.2 (by decide)
      rcases (show js_20 = 0 ∨ js_20 = 1 ∨ js_20 = 2 ∨ js_20 = 3 ∨ js_20 = 4 ∨ js_20 = 5 ∨ js_20 = 6 ∨ js_20 = 7 ∨ js_20 = 8 ∨ js_20 = 9 ∨ js_20 = 10 ∨ js_20 = 11 by omega) with hq | hq | hq | hq | hq | hq | hq | hq | hq | hq | hq | hq
      · have hs_20_0 : w = 0 := by rw [ej_20, hq] <;> rfl
        refine g_tableIn (off := 64) F 84 dX6_of_20 (by rw [hs_20_0]; decide) (by rw [hs_20_0]; decide) (by rw [hs_20_0]; rfl) (by decide) ?_
        have EJ : w = nI js_20 := by rw [ej_20]; exact congrArg nI (Nat.zero_add js_20)
        refine g_aload_n F 1 dX6_of_84 rfl rfl ?_
        refine g_iload_n F 0 dX6_of_85 rfl rfl ?_
        refine g_iload_n F 3 dX6_of_86 rfl rfl ?_
        refine g_iconst (v := 1) F dX6_of_87 (by decide) ?_
        refine g_iadd F dX6_of_88 ?_
        refine g_callIv (na := 2) F 16 _ (c_X6_get hj (r := (rkS σ a n)) (f := js_20 + 1) RK.2 (nx_add EJ rfl) (by omega)) (by decide) rfl rfl lk_X6_36 rfl rfl (by decide +kernel) ⟨rfl, rfl, Nat.le_of_ble_eq_true rfl, Nat.le_of_ble_eq_true rfl, Nat.le_of_ble_eq_true rfl, Nat.le_of_ble_eq_true rfl, Nat.le_of_ble_eq_true rfl⟩ dX6_of_89 (fun r_89 u_89 h_89 => ?_)
        obtain ⟨rfl, rfl⟩ := h_89
        try dsimp only
        refine g_iret F hr hlk rfl dX6_of_92 ?_
        refine ⟨?_, rfl⟩
        unfold ofS
        rw [hne, if_pos RK.1, EJ]
        exact (tld_a (by omega)).symm
      · have hs_20_1 : w = 1 := by rw [ej_20, hq] <;> rfl
        refine g_tableIn (off := 64) F 84 dX6_of_20 (by rw [hs_20_1]; decide) (by rw [hs_20_1]; decide) (by rw [hs_20_1]; rfl) (by decide) ?_
        have EJ : w = nI js_20 := by rw [ej_20]; exact congrArg nI (Nat.zero_add js_20)
        refine g_aload_n F 1 dX6_of_84 rfl rfl ?_
        refine g_iload_n F 0 dX6_of_85 rfl rfl ?_
        refine g_iload_n F 3 dX6_of_86 rfl rfl ?_
        refine g_iconst (v := 1) F dX6_of_87 (by decide) ?_
        refine g_iadd F dX6_of_88 ?_
        refine g_callIv (na := 2) F 16 _ (c_X6_get hj (r := (rkS σ a n)) (f := js_20 + 1) RK.2 (nx_add EJ rfl) (by omega)) (by decide) rfl rfl lk_X6_36 rfl rfl (by decide +kernel) ⟨rfl, rfl, Nat.le_of_ble_eq_true rfl, Nat.le_of_ble_eq_true rfl, Nat.le_of_ble_eq_true rfl, Nat.le_of_ble_eq_true rfl, Nat.le_of_ble_eq_true rfl⟩ dX6_of_89 (fun r_89 u_89 h_89 => ?_)
        obtain ⟨rfl, rfl⟩ := h_89
        try dsimp only
        refine g_iret F hr hlk rfl dX6_of_92 ?_
        refine ⟨?_, rfl⟩
        unfold ofS
        rw [hne, if_pos RK.1, EJ]
        exact (tld_a (by omega)).symm
      · have hs_20_2 : w = 2 := by rw [ej_20, hq] <;> rfl
        refine g_tableIn (off := 64) F 84 dX6_of_20 (by rw [hs_20_2]; decide) (by rw [hs_20_2]; decide) (by rw [hs_20_2]; rfl) (by decide) ?_
        have EJ : w = nI js_20 := by rw [ej_20]; exact congrArg nI (Nat.zero_add js_20)
        refine g_aload_n F 1 dX6_of_84 rfl rfl ?_
        refine g_iload_n F 0 dX6_of_85 rfl rfl ?_
        refine g_iload_n F 3 dX6_of_86 rfl rfl ?_
        refine g_iconst (v := 1) F dX6_of_87 (by decide) ?_
        refine g_iadd F dX6_of_88 ?_
        refine g_callIv (na := 2) F 16 _ (c_X6_get hj (r := (rkS σ a n)) (f := js_20 + 1) RK.2 (nx_add EJ rfl) (by omega)) (by decide) rfl rfl lk_X6_36 rfl rfl (by decide +kernel) ⟨rfl, rfl, Nat.le_of_ble_eq_true rfl, Nat.le_of_ble_eq_true rfl, Nat.le_of_ble_eq_true rfl, Nat.le_of_ble_eq_true rfl, Nat.le_of_ble_eq_true rfl⟩ dX6_of_89 (fun r_89 u_89 h_89 => ?_)
        obtain ⟨rfl, rfl⟩ := h_89
        try dsimp only
        refine g_iret F hr hlk rfl dX6_of_92 ?_
        refine ⟨?_, rfl⟩
        unfold ofS
        rw [hne, if_pos RK.1, EJ]
        exact (tld_a (by omega)).symm
      · have hs_20_3 : w = 3 := by rw [ej_20, hq] <;> rfl
        refine g_tableIn (off := 64) F 84 dX6_of_20 (by rw [hs_20_3]; decide) (by rw [hs_20_3]; decide) (by rw [hs_20_3]; rfl) (by decide) ?_
        have EJ : w = nI js_20 := by rw [ej_20]; exact congrArg nI (Nat.zero_add js_20)
        refine g_aload_n F 1 dX6_of_84 rfl rfl ?_
        refine g_iload_n F 0 dX6_of_85 rfl rfl ?_
        refine g_iload_n F 3 dX6_of_86 rfl rfl ?_
        refine g_iconst (v := 1) F dX6_of_87 (by decide) ?_
        refine g_iadd F dX6_of_88 ?_
        refine g_callIv (na := 2) F 16 _ (c_X6_get hj (r := (rkS σ a n)) (f := js_20 + 1) RK.2 (nx_add EJ rfl) (by omega)) (by decide) rfl rfl lk_X6_36 rfl rfl (by decide +kernel) ⟨rfl, rfl, Nat.le_of_ble_eq_true rfl, Nat.le_of_ble_eq_true rfl, Nat.le_of_ble_eq_true rfl, Nat.le_of_ble_eq_true rfl, Nat.le_of_ble_eq_true rfl⟩ dX6_of_89 (fun r_89 u_89 h_89 => ?_)
        obtain ⟨rfl, rfl⟩ := h_89
        try dsimp only
        refine g_iret F hr hlk rfl dX6_of_92 ?_
        refine ⟨?_, rfl⟩
        unfold ofS
        rw [hne, if_pos RK.1, EJ]
        exact (tld_a (by omega)).symm
      · have hs_20_4 : w = 4 := by rw [ej_20, hq] <;> rfl
        refine g_tableIn (off := 73) F 93 dX6_of_20 (by rw [hs_20_4]; decide) (by rw [hs_20_4]; decide) (by rw [hs_20_4]; rfl) (by decide) ?_
        have EJ : w = nI js_20 := by rw [ej_20]; exact congrArg nI (Nat.zero_add js_20)
        refine g_aload_n F 1 dX6_of_93 rfl rfl ?_
        refine g_iload_n F 0 dX6_of_94 rfl rfl ?_
        refine g_iconst (v := 5) F dX6_of_95 (by decide) ?_
        refine g_callIv (na := 2) F 16 _ (c_X6_get hj (r := (rkS σ a n)) (f := 5) RK.2 rfl (by omega)) (by decide) rfl rfl lk_X6_36 rfl rfl (by decide +kernel) ⟨rfl, rfl, Nat.le_of_ble_eq_true rfl, Nat.le_of_ble_eq_true rfl, Nat.le_of_ble_eq_true rfl, Nat.le_of_ble_eq_true rfl, Nat.le_of_ble_eq_true rfl⟩ dX6_of_96 (fun r_96 u_96 h_96 => ?_)
        obtain ⟨rfl, rfl⟩ := h_96
        try dsimp only
        refine g_sipush (v := 1000) F dX6_of_99 (by decide) ?_
        refine g_iadd F dX6_of_102 ?_
        refine g_iret F hr hlk rfl dX6_of_103 ?_
        refine ⟨?_, rfl⟩
        unfold ofS
        rw [hne, if_pos RK.1, hs_20_4]
        exact tld_c.1.symm
      · have hs_20_5 : w = 5 := by rw [ej_20, hq] <;> rfl
        refine g_tableIn (off := 84) F 104 dX6_of_20 (by rw [hs_20_5]; decide) (by rw [hs_20_5]; decide) (by rw [hs_20_5]; rfl) (by decide) ?_
        have EJ : w = nI js_20 := by rw [ej_20]; exact congrArg nI (Nat.zero_add js_20)
        refine g_aload_n F 1 dX6_of_104 rfl rfl ?_
        refine g_iload_n F 0 dX6_of_105 rfl rfl ?_
        refine g_callIv (na := 1) F 16 _ (c_X6_due hj RK.2 (by omega)) (by decide) rfl rfl lk_X6_70 rfl rfl (by decide +kernel) ⟨rfl, rfl, Nat.le_of_ble_eq_true rfl, Nat.le_of_ble_eq_true rfl, Nat.le_of_ble_eq_true rfl, Nat.le_of_ble_eq_true rfl, Nat.le_of_ble_eq_true rfl⟩ dX6_of_106 (fun r_106 u_106 h_106 => ?_)
        obtain ⟨rfl, rfl⟩ := h_106
        try dsimp only
        refine g_sipush (v := 1000) F dX6_of_109 (by decide) ?_
        refine g_iadd F dX6_of_112 ?_
        refine g_iret F hr hlk rfl dX6_of_113 ?_
        refine ⟨?_, rfl⟩
        unfold ofS
        rw [hne, if_pos RK.1, hs_20_5]
        exact tld_c.2.1.symm
      · have hs_20_6 : w = 6 := by rw [ej_20, hq] <;> rfl
        refine g_tableIn (off := 94) F 114 dX6_of_20 (by rw [hs_20_6]; decide) (by rw [hs_20_6]; decide) (by rw [hs_20_6]; rfl) (by decide) ?_
        have EJ : w = nI js_20 := by rw [ej_20]; exact congrArg nI (Nat.zero_add js_20)
        refine g_aload_n F 1 dX6_of_114 rfl rfl ?_
        refine g_iload_n F 0 dX6_of_115 rfl rfl ?_
        refine g_iload_n F 3 dX6_of_116 rfl rfl ?_
        refine g_callIv (na := 2) F 16 _ (c_X6_get hj (r := (rkS σ a n)) (f := js_20) RK.2 EJ (by omega)) (by decide) rfl rfl lk_X6_36 rfl rfl (by decide +kernel) ⟨rfl, rfl, Nat.le_of_ble_eq_true rfl, Nat.le_of_ble_eq_true rfl, Nat.le_of_ble_eq_true rfl, Nat.le_of_ble_eq_true rfl, Nat.le_of_ble_eq_true rfl⟩ dX6_of_117 (fun r_117 u_117 h_117 => ?_)
        obtain ⟨rfl, rfl⟩ := h_117
        try dsimp only
        refine g_iret F hr hlk rfl dX6_of_120 ?_
        refine ⟨?_, rfl⟩
        unfold ofS
        rw [hne, if_pos RK.1, EJ]
        exact (tld_b (by omega) (by omega)).symm
      · have hs_20_7 : w = 7 := by rw [ej_20, hq] <;> rfl
        refine g_tableIn (off := 94) F 114 dX6_of_20 (by rw [hs_20_7]; decide) (by rw [hs_20_7]; decide) (by rw [hs_20_7]; rfl) (by decide) ?_
        have EJ : w = nI js_20 := by rw [ej_20]; exact congrArg nI (Nat.zero_add js_20)
        refine g_aload_n F 1 dX6_of_114 rfl rfl ?_
        refine g_iload_n F 0 dX6_of_115 rfl rfl ?_
        refine g_iload_n F 3 dX6_of_116 rfl rfl ?_
        refine g_callIv (na := 2) F 16 _ (c_X6_get hj (r := (rkS σ a n)) (f := js_20) RK.2 EJ (by omega)) (by decide) rfl rfl lk_X6_36 rfl rfl (by decide +kernel) ⟨rfl, rfl, Nat.le_of_ble_eq_true rfl, Nat.le_of_ble_eq_true rfl, Nat.le_of_ble_eq_true rfl, Nat.le_of_ble_eq_true rfl, Nat.le_of_ble_eq_true rfl⟩ dX6_of_117 (fun r_117 u_117 h_117 => ?_)
        obtain ⟨rfl, rfl⟩ := h_117
        try dsimp only
        refine g_iret F hr hlk rfl dX6_of_120 ?_
        refine ⟨?_, rfl⟩
        unfold ofS
        rw [hne, if_pos RK.1, EJ]
        exact (tld_b (by omega) (by omega)).symm
      · have hs_20_8 : w = 8 := by rw [ej_20, hq] <;> rfl
        refine g_tableIn (off := 94) F 114 dX6_of_20 (by rw [hs_20_8]; decide) (by rw [hs_20_8]; decide) (by rw [hs_20_8]; rfl) (by decide) ?_
        have EJ : w = nI js_20 := by rw [ej_20]; exact congrArg nI (Nat.zero_add js_20)
        refine g_aload_n F 1 dX6_of_114 rfl rfl ?_
        refine g_iload_n F 0 dX6_of_115 rfl rfl ?_
        refine g_iload_n F 3 dX6_of_116 rfl rfl ?_
        refine g_callIv (na := 2) F 16 _ (c_X6_get hj (r := (rkS σ a n)) (f := js_20) RK.2 EJ (by omega)) (by decide) rfl rfl lk_X6_36 rfl rfl (by decide +kernel) ⟨rfl, rfl, Nat.le_of_ble_eq_true rfl, Nat.le_of_ble_eq_true rfl, Nat.le_of_ble_eq_true rfl, Nat.le_of_ble_eq_true rfl, Nat.le_of_ble_eq_true rfl⟩ dX6_of_117 (fun r_117 u_117 h_117 => ?_)
        obtain ⟨rfl, rfl⟩ := h_117
        try dsimp only
        refine g_iret F hr hlk rfl dX6_of_120 ?_
        refine ⟨?_, rfl⟩
        unfold ofS
        rw [hne, if_pos RK.1, EJ]
        exact (tld_b (by omega) (by omega)).symm
      · have hs_20_9 : w = 9 := by rw [ej_20, hq] <;> rfl
        refine g_tableIn (off := 101) F 121 dX6_of_20 (by rw [hs_20_9]; decide) (by rw [hs_20_9]; decide) (by rw [hs_20_9]; rfl) (by decide) ?_
        have EJ : w = nI js_20 := by rw [ej_20]; exact congrArg nI (Nat.zero_add js_20)
        refine g_aload_n F 1 dX6_of_121 rfl rfl ?_
        refine g_iload_n F 0 dX6_of_122 rfl rfl ?_
        refine g_callIv (na := 1) F 16 _ (c_X6_blockOf hj RK.2 (by omega)) (by decide) rfl rfl lk_X6_43 rfl rfl (by decide +kernel) ⟨rfl, rfl, Nat.le_of_ble_eq_true rfl, Nat.le_of_ble_eq_true rfl, Nat.le_of_ble_eq_true rfl, Nat.le_of_ble_eq_true rfl, Nat.le_of_ble_eq_true rfl⟩ dX6_of_123 (fun r_123 u_123 h_123 => ?_)
        obtain ⟨rfl, rfl⟩ := h_123
        try dsimp only
        refine g_iret F hr hlk rfl dX6_of_126 ?_
        refine ⟨?_, rfl⟩
        unfold ofS
        rw [hne, if_pos RK.1, hs_20_9]
        exact tld_c.2.2.1.symm
      · have hs_20_10 : w = 10 := by rw [ej_20, hq] <;> rfl
        refine g_tableIn (off := 107) F 127 dX6_of_20 (by rw [hs_20_10]; decide) (by rw [hs_20_10]; decide) (by rw [hs_20_10]; rfl) (by decide) ?_
        have EJ : w = nI js_20 := by rw [ej_20]; exact congrArg nI (Nat.zero_add js_20)
        refine g_aload_n F 1 dX6_of_127 rfl rfl ?_
        refine g_iload_n F 0 dX6_of_128 rfl rfl ?_
        refine g_bipush (v := 9) F dX6_of_129 (by decide) ?_
        refine g_callIv (na := 2) F 16 _ (c_X6_get hj (r := (rkS σ a n)) (f := 9) RK.2 rfl (by omega)) (by decide) rfl rfl lk_X6_36 rfl rfl (by decide +kernel) ⟨rfl, rfl, Nat.le_of_ble_eq_true rfl, Nat.le_of_ble_eq_true rfl, Nat.le_of_ble_eq_true rfl, Nat.le_of_ble_eq_true rfl, Nat.le_of_ble_eq_true rfl⟩ dX6_of_131 (fun r_131 u_131 h_131 => ?_)
        obtain ⟨rfl, rfl⟩ := h_131
        try dsimp only
        refine g_iret F hr hlk rfl dX6_of_134 ?_
        refine ⟨?_, rfl⟩
        unfold ofS
        rw [hne, if_pos RK.1, hs_20_10]
        exact tld_c.2.2.2.1.symm
      · have hs_20_11 : w = 11 := by rw [ej_20, hq] <;> rfl
        refine g_tableIn (off := 115) F 135 dX6_of_20 (by rw [hs_20_11]; decide) (by rw [hs_20_11]; decide) (by rw [hs_20_11]; rfl) (by decide) ?_
        have EJ : w = nI js_20 := by rw [ej_20]; exact congrArg nI (Nat.zero_add js_20)
        refine g_aload_n F 1 dX6_of_135 rfl rfl ?_
        refine g_iload_n F 0 dX6_of_136 rfl rfl ?_
        refine g_bipush (v := 10) F dX6_of_137 (by decide) ?_
        refine g_callIv (na := 2) F 16 _ (c_X6_get hj (r := (rkS σ a n)) (f := 10) RK.2 rfl (by omega)) (by decide) rfl rfl lk_X6_36 rfl rfl (by decide +kernel) ⟨rfl, rfl, Nat.le_of_ble_eq_true rfl, Nat.le_of_ble_eq_true rfl, Nat.le_of_ble_eq_true rfl, Nat.le_of_ble_eq_true rfl, Nat.le_of_ble_eq_true rfl⟩ dX6_of_139 (fun r_139 u_139 h_139 => ?_)
        obtain ⟨rfl, rfl⟩ := h_139
        try dsimp only
        refine g_sipush (v := 1000) F dX6_of_142 (by decide) ?_
        refine g_iadd F dX6_of_145 ?_
        refine g_iret F hr hlk rfl dX6_of_146 ?_
        refine ⟨?_, rfl⟩
        unfold ofS
        rw [hne, if_pos RK.1, hs_20_11]
        exact tld_c.2.2.2.2.symm
    · refine g_tableOut F 147 dX6_of_20 (by omega) (by decide) ?_
      refine g_bipush (v := -2) F dX6_of_147 (by decide) ?_
      refine g_iret F hr hlk rfl dX6_of_149 ?_
      refine ⟨?_, rfl⟩
      unfold ofS
      rw [hne, if_pos RK.1]
      unfold tldS
      rw [if_neg (fun e => hs_20 (by rw [e]; decide)), if_neg (fun e => hs_20 (by rw [e]; decide)), if_neg (fun e => hs_20 (by rw [e]; decide)), if_neg (fun e => hs_20 (by rw [e]; decide)), if_neg (fun e => hs_20 (by rw [e]; decide)), if_neg (fun e => hs_20 (by rw [e]; decide)), if_neg (fun e => hs_20 (by rw [e]; decide)), if_neg (fun e => hs_20 (by rw [e]; decide)), if_neg (fun e => hs_20 (by rw [e]; decide)), if_neg (fun e => hs_20 (by rw [e]; decide)), if_neg (fun e => hs_20 (by rw [e]; decide)), if_neg (fun e => hs_20 (by rw [e]; decide))]
  · have NR : ¬ rkS σ a n < n := lco_f hn8 (ex3_10.symm.trans c_14)
    refine g_iconst (v := -1) F dX6_of_17 (by decide) ?_
    refine g_iret F hr hlk rfl dX6_of_18 ?_
    exact ⟨by unfold ofS; rw [hne, if_neg NR], rfl⟩
set_option maxHeartbeats 4000000 in
set_option maxRecDepth 100000 in
theorem c_X6_address {l : Launch} {G : Gm} (hj : Aj G) {I : Ii} {pm : Pm} {σ : Sg} {n h : Nat} (V : Iv n h σ) {x : Int32} : CI l G yX6_address (wz yX6_address cX6_address 2 (some .int)) (rmL 1) [.ref (G.2.2 16 0), .int x] (upR I 17 0 σ) pm (fun r u => r = adrS σ x ∧ u = (upR (up3 I 16 0 0 0) 17 0 σ, pm)) := by
  have hn8 := V.2.1
  have hh20 := V.2.2.2.1
  have hne := V.nofe
  have hhe := V.hofe
  refine CI.walk hj (by decide +kernel) (by show _ ≤ 2; exact Nat.le_of_ble_eq_true rfl) ?_
  intro p e s m args below meth c F hr hlk
  refine g_aload_n F 0 dX6_address_0 rfl rfl ?_
  refine g_iconst (v := 0) F dX6_address_1 (by decide) ?_
  refine gp_16_0 F (by decide) mFL_X6_32 dX6_address_2 ?_
  refine g_I (wr16 (by decide)) ?_
  refine g_iload_n F 1 dX6_address_5 rfl rfl ?_
  refine g_iconst (v := 0) F dX6_address_6 (by decide) ?_
  refine g_aload_n F 0 dX6_address_7 rfl rfl ?_
  refine gf_16_1 F (by decide) mFL_X6_7 dX6_address_8 ?_
  refine g_bipush (v := 6) F dX6_address_11 (by decide) ?_
  refine ga_17 (j := 6) F (by decide) rfl (by omega) dX6_address_13 ?_
  refine g_eqi rd17 ?_
  refine g_iconst (v := 1) F dX6_address_14 (by decide) ?_
  refine g_isub F dX6_address_15 ?_
  refine g_callIs (na := 3) F (c_X6_in hj) lk_X6_54 rfl rfl (by decide +kernel) ⟨rfl, rfl, Nat.le_of_ble_eq_true rfl, Nat.le_of_ble_eq_true rfl, Nat.le_of_ble_eq_true rfl, Nat.le_of_ble_eq_true rfl, Nat.le_of_ble_eq_true rfl⟩ dX6_address_16 (fun r_16 u_16 h_16 => ?_)
  obtain ⟨rfl, rfl⟩ := h_16
  try dsimp only
  refine g_if_eq F 31 dX6_address_19 (by decide) (fun c_19 => ?_) (fun c_19 => ?_)
  · have N1 := bz_0.mp c_19
    refine g_iconst (v := -1) F dX6_address_31 (by decide) ?_
    refine g_iret F hr hlk rfl dX6_address_32 ?_
    rw [V.1] at N1
    exact ⟨by unfold adrS; rw [hne, if_neg N1], rfl⟩
  · have P1 := bz_n.mp c_19
    rw [V.1] at P1
    obtain ⟨q, hqn, eq⟩ := (lq_n hn8).mp P1
    have hxq : x.toInt.toNat = q := by rw [eq, nI_toInt (by omega)]; rfl
    refine g_aload_n F 0 dX6_address_22 rfl rfl ?_
    refine g_iload_n F 1 dX6_address_23 rfl rfl ?_
    refine g_iconst (v := 0) F dX6_address_24 (by decide) ?_
    refine g_callIv (na := 2) F 16 _ (c_X6_get0 hj (r := q) eq rfl (by omega)) (by decide) rfl rfl lk_X6_36 rfl rfl (by decide +kernel) ⟨rfl, rfl, Nat.le_of_ble_eq_true rfl, Nat.le_of_ble_eq_true rfl, Nat.le_of_ble_eq_true rfl, Nat.le_of_ble_eq_true rfl, Nat.le_of_ble_eq_true rfl⟩ dX6_address_25 (fun r_25 u_25 h_25 => ?_)
    obtain ⟨rfl, rfl⟩ := h_25
    try dsimp only
    refine g_goto F 32 dX6_address_28 (by decide) ?_
    refine g_iret F hr hlk rfl dX6_address_32 ?_
    exact ⟨by unfold adrS; rw [hne, if_pos P1, hxq], rfl⟩
set_option maxHeartbeats 4000000 in
set_option maxRecDepth 100000 in
theorem c_X6_waiting {l : Launch} {G : Gm} (hj : Aj G) {I : Ii} {pm : Pm} {σ : Sg} {n h : Nat} (V : Iv n h σ) {x y : Int32} : CI l G yX6_waiting (wz yX6_waiting cX6_waiting 3 (some .int)) (rmL 1) [.ref (G.2.2 16 0), .int x, .int y] (upR I 17 0 σ) pm (fun r u => r = waitS (hof σ) σ x y ∧ u = (upR (up3 I 16 0 0 0) 17 0 σ, pm)) := by
  have hn8 := V.2.1
  have hh20 := V.2.2.2.1
  have hne := V.nofe
  have hhe := V.hofe
  refine CI.walk hj (by decide +kernel) (by show _ ≤ 3; exact Nat.le_of_ble_eq_true rfl) ?_
  intro p e s m args below meth c F hr hlk
  refine g_aload_n F 0 dX6_waiting_0 rfl rfl ?_
  refine g_iconst (v := 0) F dX6_waiting_1 (by decide) ?_
  refine gp_16_0 F (by decide) mFL_X6_32 dX6_waiting_2 ?_
  refine g_I (wr16 (by decide)) ?_
  refine g_iload_n F 1 dX6_waiting_5 rfl rfl ?_
  refine g_iconst (v := 0) F dX6_waiting_6 (by decide) ?_
  refine g_aload_n F 0 dX6_waiting_7 rfl rfl ?_
  refine gf_16_1 F (by decide) mFL_X6_7 dX6_waiting_8 ?_
  refine g_bipush (v := 7) F dX6_waiting_11 (by decide) ?_
  refine ga_17 (j := 7) F (by decide) rfl (by omega) dX6_waiting_13 ?_
  refine g_eqi rd17 ?_
  refine g_iconst (v := 1) F dX6_waiting_14 (by decide) ?_
  refine g_isub F dX6_waiting_15 ?_
  refine g_callIs (na := 3) F (c_X6_in hj) lk_X6_54 rfl rfl (by decide +kernel) ⟨rfl, rfl, Nat.le_of_ble_eq_true rfl, Nat.le_of_ble_eq_true rfl, Nat.le_of_ble_eq_true rfl, Nat.le_of_ble_eq_true rfl, Nat.le_of_ble_eq_true rfl⟩ dX6_waiting_16 (fun r_16 u_16 h_16 => ?_)
  obtain ⟨rfl, rfl⟩ := h_16
  try dsimp only
  refine g_if_ne F 24 dX6_waiting_19 (by decide) (fun c_19 => ?_) (fun c_19 => ?_)
  · have P1 := bz_n.mp c_19
    rw [V.2.2.1] at P1
    obtain ⟨q, hqn, eq⟩ := wait_in hh20 P1.1 P1.2
    have hxq : x.toInt.toNat = q := by rw [eq, nI_toInt (by omega)]; rfl
    have EX : x = nI x.toInt.toNat := by rw [hxq]; exact eq
    refine g_iload_n F 2 dX6_waiting_24 rfl rfl ?_
    refine g_iconst (v := 0) F dX6_waiting_25 (by decide) ?_
    refine g_iconst (v := 2) F dX6_waiting_26 (by decide) ?_
    refine g_callIs (na := 3) F (c_X6_in hj) lk_X6_54 rfl rfl (by decide +kernel) ⟨rfl, rfl, Nat.le_of_ble_eq_true rfl, Nat.le_of_ble_eq_true rfl, Nat.le_of_ble_eq_true rfl, Nat.le_of_ble_eq_true rfl, Nat.le_of_ble_eq_true rfl⟩ dX6_waiting_27 (fun r_27 u_27 h_27 => ?_)
    obtain ⟨rfl, rfl⟩ := h_27
    try dsimp only
    refine g_if_eq F 49 dX6_waiting_30 (by decide) (fun c_30 => ?_) (fun c_30 => ?_)
    · have N2 := bz_0.mp c_30
      refine g_bipush (v := -2) F dX6_waiting_49 (by decide) ?_
      refine g_iret F hr hlk rfl dX6_waiting_51 ?_
      refine ⟨?_, rfl⟩
      unfold waitS
      rw [hhe, if_pos P1]
      rw [if_neg (fun e => N2 (by rw [e]; decide)), if_neg (fun e => N2 (by rw [e]; decide)), if_neg (fun e => N2 (by rw [e]; decide))]
    · have P2 := bz_n.mp c_30
      have RG := rng (M := 2) (m := 2) rfl P2.1 P2.2
      have RG1 := RG.1
      refine g_aload_n F 0 dX6_waiting_33 rfl rfl ?_
      refine gf_16_1 F (by decide) mFL_X6_7 dX6_waiting_34 ?_
      refine g_bipush (v := 104) F dX6_waiting_37 (by decide) ?_
      refine g_iconst (v := 3) F dX6_waiting_39 (by decide) ?_
      refine g_iload_n F 1 dX6_waiting_40 rfl rfl ?_
      refine g_imul F dX6_waiting_41 ?_
      refine g_iadd F dX6_waiting_42 ?_
      refine g_iload_n F 2 dX6_waiting_43 rfl rfl ?_
      refine g_iadd F dX6_waiting_44 ?_
      refine ga_17 (j := ((104 + (3 * x.toInt.toNat)) + y.toInt.toNat)) F (by decide) (nx_add (nx_add rfl (nx_mul rfl EX)) RG.2) (by omega) dX6_waiting_45 ?_
      refine g_eqi rd17 ?_
      refine g_goto F 51 dX6_waiting_46 (by decide) ?_
      refine g_iret F hr hlk rfl dX6_waiting_51 ?_
      refine ⟨?_, rfl⟩
      unfold waitS
      rw [hhe, if_pos P1]
      rcases (show y.toInt.toNat = 0 ∨ y.toInt.toNat = 1 ∨ y.toInt.toNat = 2 by omega) with hy | hy | hy
      · have ey : y = 0 := by rw [RG.2, hy]; rfl
        rw [hy, if_pos ey, Nat.add_zero]
      · have ey : y = 1 := by rw [RG.2, hy]; rfl
        rw [hy, if_neg (by rw [ey]; decide), if_pos ey]
        congr 1
        omega
      · have ey : y = 2 := by rw [RG.2, hy]; rfl
        rw [hy, if_neg (by rw [ey]; decide), if_neg (by rw [ey]; decide), if_pos ey]
        congr 1
        omega
  · have N1 := bz_0.mp c_19
    rw [V.2.2.1] at N1
    refine g_iconst (v := -1) F dX6_waiting_22 (by decide) ?_
    refine g_iret F hr hlk rfl dX6_waiting_23 ?_
    exact ⟨by unfold waitS; rw [hhe, if_neg N1], rfl⟩
set_option maxHeartbeats 4000000 in
set_option maxRecDepth 100000 in
theorem c_X6_locosIn {l : Launch} {G : Gm} (hj : Aj G) {I : Ii} {pm : Pm} {σ : Sg} {n h : Nat} (V : Iv n h σ) {x : Int32} : CI l G yX6_locosIn (wz yX6_locosIn cX6_locosIn 4 (some .int)) (rmL 2) [.ref (G.2.2 16 0), .int x] (upR I 17 0 σ) pm (fun r u => r = lcS σ x n ∧ u = (upR I 17 0 σ, pm)) := by
  refine CI.walk hj (by decide +kernel) (by show _ ≤ 4; exact Nat.le_of_ble_eq_true rfl) ?_
  intro p e s m args below meth c F hr hlk
  have hn8 := V.2.1
  have hh20 := V.2.2.2.1
  have hne := V.nofe
  have hhe := V.hofe
  have LOOP : ∀ j, j ≤ n → ∀ (xc xj : Int32), xj = nI j → xc = lcS σ x j → GG p l e (rmL 2) s m args below meth c G (AA G) 4 0 0 (MQ below (va_Qi (fun (r : Int32) (u : Ii × Pm) => r = lcS σ x n ∧ u = (upR I 17 0 σ, pm)) (fun (u : Ii × Pm) t => Wd G u.1 u.2 t.heap) (AA G)) args s 0 0 (AA G)) (upR I 17 0 σ) pm [(0, .ref (G.2.2 16 0)), (1, .int x), (2, .int xc), (3, .int xj)] 4 [] := by
    refine dn_ind ?_
    intro j hjl ih xc xj ej ec
    refine g_iload_n F 3 dX6_locosIn_4 rfl rfl ?_
    refine g_aload_n F 0 dX6_locosIn_5 rfl rfl ?_
    refine gf_16_1 F (by decide) mFL_X6_7 dX6_locosIn_6 ?_
    refine g_bipush (v := 6) F dX6_locosIn_9 (by decide) ?_
    refine ga_17 (j := 6) F (by decide) rfl (by omega) dX6_locosIn_11 ?_
    refine g_eqi rd17 ?_
    refine g_icmp_ge F 38 dX6_locosIn_12 (by decide) (fun c_12 => ?_) (fun c_12 => ?_)
    · have n_12 := nx_get (a := j) (b := n) ej V.1 (by omega) (by omega) c_12
      refine g_iload_n F 2 dX6_locosIn_38 rfl rfl ?_
      refine g_iret F hr hlk rfl dX6_locosIn_39 ?_
      exact ⟨by rw [ec, show j = n by omega], rfl⟩
    · have n_12 := nx_gef (a := j) (b := n) ej V.1 (by omega) (by omega) c_12
      refine g_iload_n F 2 dX6_locosIn_15 rfl rfl ?_
      refine g_aload_n F 0 dX6_locosIn_16 rfl rfl ?_
      refine g_iload_n F 3 dX6_locosIn_17 rfl rfl ?_
      refine g_callIv (na := 1) F 16 _ (c_X6_blockOf hj ej (by omega)) (by decide) rfl rfl lk_X6_43 rfl rfl (by decide +kernel) ⟨rfl, rfl, Nat.le_of_ble_eq_true rfl, Nat.le_of_ble_eq_true rfl, Nat.le_of_ble_eq_true rfl, Nat.le_of_ble_eq_true rfl, Nat.le_of_ble_eq_true rfl⟩ dX6_locosIn_18 (fun r_18 u_18 h_18 => ?_)
      obtain ⟨rfl, rfl⟩ := h_18
      try dsimp only
      refine g_iload_n F 1 dX6_locosIn_21 rfl rfl ?_
      refine g_icmp_ne F 29 dX6_locosIn_22 (by decide) (fun c_22 => ?_) (fun c_22 => ?_)
      · refine g_iconst (v := 0) F dX6_locosIn_29 (by decide) ?_
        refine g_iadd F dX6_locosIn_30 ?_
        refine g_topi (fun x2_31 ex2_31 => ?_)
        refine g_istore_n (L' := [(2, _), (0, _), (1, _), (3, _)]) F dX6_locosIn_31 rfl (by decide) rfl ?_
        refine g_iincC (q := 1) (L' := [(3, _), (2, _), (0, _), (1, _)]) F 3 dX6_locosIn_32 (by decide) rfl (by decide) rfl ?_
        refine g_goto F 4 dX6_locosIn_35 (by decide) ?_
        refine g_sub [2, 3, 1, 0] rfl ?_
        first
        | exact ih (by omega) _ _ (nx_add ej rfl) (by rw [lcS, if_pos c_22, ex2_31, ec])
        | exact ih (by omega) _ _ (nx_add ej rfl) (by rw [lcS, if_neg c_22, ex2_31, ec, Int32.add_zero])
      · refine g_iconst (v := 1) F dX6_locosIn_25 (by decide) ?_
        refine g_goto F 30 dX6_locosIn_26 (by decide) ?_
        refine g_iadd F dX6_locosIn_30 ?_
        refine g_topi (fun x2_31 ex2_31 => ?_)
        refine g_istore_n (L' := [(2, _), (0, _), (1, _), (3, _)]) F dX6_locosIn_31 rfl (by decide) rfl ?_
        refine g_iincC (q := 1) (L' := [(3, _), (2, _), (0, _), (1, _)]) F 3 dX6_locosIn_32 (by decide) rfl (by decide) rfl ?_
        refine g_goto F 4 dX6_locosIn_35 (by decide) ?_
        refine g_sub [2, 3, 1, 0] rfl ?_
        first
        | exact ih (by omega) _ _ (nx_add ej rfl) (by rw [lcS, if_pos c_22, ex2_31, ec])
        | exact ih (by omega) _ _ (nx_add ej rfl) (by rw [lcS, if_neg c_22, ex2_31, ec, Int32.add_zero])
  refine g_iconst (v := 0) F dX6_locosIn_0 (by decide) ?_
  refine g_istore_n (L' := [(2, _), (0, _), (1, _)]) F dX6_locosIn_1 rfl (by decide) rfl ?_
  refine g_iconst (v := 0) F dX6_locosIn_2 (by decide) ?_
  refine g_istore_n (L' := [(3, _), (2, _), (0, _), (1, _)]) F dX6_locosIn_3 rfl (by decide) rfl ?_
  refine g_sub [2, 3, 1, 0] rfl ?_
  exact LOOP 0 (Nat.zero_le _) _ _ (by first | rfl | assumption) (by first | rfl | assumption)
set_option maxHeartbeats 4000000 in
set_option maxRecDepth 100000 in
theorem c_X6_block {l : Launch} {G : Gm} (hj : Aj G) {I : Ii} {pm : Pm} {σ : Sg} {n h : Nat} (V : Iv n h σ) {b w : Int32} : CI l G yX6_block (wz yX6_block cX6_block 3 (some .int)) (rmL 3) [.ref (G.2.2 16 0), .int b, .int w] (upR I 17 0 σ) pm (fun r u => r = blockS σ b w ∧ u = (upR (up3 I 16 0 0 0) 17 0 σ, pm)) := by
  have hn8 := V.2.1
  have hh20 := V.2.2.2.1
  have hne := V.nofe
  have hhe := V.hofe
  refine CI.walk hj (by decide +kernel) (by show _ ≤ 3; exact Nat.le_of_ble_eq_true rfl) ?_
  intro p e s m args below meth c F hr hlk
  refine g_aload_n F 0 dX6_block_0 rfl rfl ?_
  refine g_iconst (v := 0) F dX6_block_1 (by decide) ?_
  refine gp_16_0 F (by decide) mFL_X6_32 dX6_block_2 ?_
  refine g_I (wr16 (by decide)) ?_
  refine g_iload_n F 1 dX6_block_5 rfl rfl ?_
  refine g_iconst (v := 0) F dX6_block_6 (by decide) ?_
  refine g_bipush (v := 7) F dX6_block_7 (by decide) ?_
  refine g_callIs (na := 3) F (c_X6_in hj) lk_X6_54 rfl rfl (by decide +kernel) ⟨rfl, rfl, Nat.le_of_ble_eq_true rfl, Nat.le_of_ble_eq_true rfl, Nat.le_of_ble_eq_true rfl, Nat.le_of_ble_eq_true rfl, Nat.le_of_ble_eq_true rfl⟩ dX6_block_9 (fun r_9 u_9 h_9 => ?_)
  obtain ⟨rfl, rfl⟩ := h_9
  try dsimp only
  refine g_if_ne F 17 dX6_block_12 (by decide) (fun c_12 => ?_) (fun c_12 => ?_)
  · have P1 := bz_n.mp c_12
    have RG := rng (M := 7) (m := 7) rfl P1.1 P1.2
    have RG1 := RG.1
    refine g_iload_n F 2 dX6_block_17 rfl rfl ?_
    refine g_if_ne F 33 dX6_block_18 (by decide) (fun c_18 => ?_) (fun c_18 => ?_)
    · refine g_iload_n F 2 dX6_block_33 rfl rfl ?_
      refine g_iconst (v := 1) F dX6_block_34 (by decide) ?_
      refine g_icmp_ne F 46 dX6_block_35 (by decide) (fun c_35 => ?_) (fun c_35 => ?_)
      · refine g_bipush (v := -2) F dX6_block_46 (by decide) ?_
        refine g_iret F hr hlk rfl dX6_block_48 ?_
        refine ⟨?_, rfl⟩
        unfold blockS
        rw [if_pos P1]
        first
        | rw [if_pos c_18]
        | rw [if_neg c_18, if_pos c_35, hne]
        | rw [if_neg c_18, if_neg c_35]
      · refine g_aload_n F 0 dX6_block_38 rfl rfl ?_
        refine g_iload_n F 1 dX6_block_39 rfl rfl ?_
        refine g_callIv (na := 1) F 16 _ (c_X6_locosIn hj V) (by decide) rfl rfl lk_X6_112 rfl rfl (by decide +kernel) ⟨rfl, rfl, Nat.le_of_ble_eq_true rfl, Nat.le_of_ble_eq_true rfl, Nat.le_of_ble_eq_true rfl, Nat.le_of_ble_eq_true rfl, Nat.le_of_ble_eq_true rfl⟩ dX6_block_40 (fun r_40 u_40 h_40 => ?_)
        obtain ⟨rfl, rfl⟩ := h_40
        try dsimp only
        refine g_goto F 48 dX6_block_43 (by decide) ?_
        refine g_iret F hr hlk rfl dX6_block_48 ?_
        refine ⟨?_, rfl⟩
        unfold blockS
        rw [if_pos P1]
        first
        | rw [if_pos c_18]
        | rw [if_neg c_18, if_pos c_35, hne]
        | rw [if_neg c_18, if_neg c_35]
    · refine g_aload_n F 0 dX6_block_21 rfl rfl ?_
      refine gf_16_1 F (by decide) mFL_X6_7 dX6_block_22 ?_
      refine g_bipush (v := 8) F dX6_block_25 (by decide) ?_
      refine g_iload_n F 1 dX6_block_27 rfl rfl ?_
      refine g_iadd F dX6_block_28 ?_
      refine ga_17 (j := (8 + b.toInt.toNat)) F (by decide) (nx_add rfl RG.2) (by omega) dX6_block_29 ?_
      refine g_eqi rd17 ?_
      refine g_goto F 48 dX6_block_30 (by decide) ?_
      refine g_iret F hr hlk rfl dX6_block_48 ?_
      refine ⟨?_, rfl⟩
      unfold blockS
      rw [if_pos P1]
      first
      | rw [if_pos c_18]
      | rw [if_neg c_18, if_pos c_35, hne]
      | rw [if_neg c_18, if_neg c_35]
  · have N1 := bz_0.mp c_12
    refine g_iconst (v := -1) F dX6_block_15 (by decide) ?_
    refine g_iret F hr hlk rfl dX6_block_16 ?_
    exact ⟨by unfold blockS; rw [if_neg N1], rfl⟩
set_option maxHeartbeats 4000000 in
set_option maxRecDepth 100000 in
theorem c_X6_overBlocks {l : Launch} {G : Gm} (hj : Aj G) {I : Ii} {pm : Pm} {σ : Sg} {n h : Nat} (V : Iv n h σ) {x : Int32} : CI l G yX6_overBlocks (wz yX6_overBlocks cX6_overBlocks 4 (some .int)) (rmL 3) [.ref (G.2.2 16 0), .int x] (upR I 17 0 σ) pm (fun r u => r = obS σ n x 8 ∧ u = (upR I 17 0 σ, pm)) := by
  refine CI.walk hj (by decide +kernel) (by show _ ≤ 4; exact Nat.le_of_ble_eq_true rfl) ?_
  intro p e s m args below meth c F hr hlk
  have hn8 := V.2.1
  have hh20 := V.2.2.2.1
  have hne := V.nofe
  have hhe := V.hofe
  have LOOP : ∀ j, j ≤ 8 → ∀ (xc xj : Int32), xj = nI j → xc = obS σ n x j → GG p l e (rmL 3) s m args below meth c G (AA G) 4 0 0 (MQ below (va_Qi (fun (r : Int32) (u : Ii × Pm) => r = obS σ n x 8 ∧ u = (upR I 17 0 σ, pm)) (fun (u : Ii × Pm) t => Wd G u.1 u.2 t.heap) (AA G)) args s 0 0 (AA G)) (upR I 17 0 σ) pm [(0, .ref (G.2.2 16 0)), (1, .int x), (2, .int xc), (3, .int xj)] 4 [] := by
    refine dn_ind ?_
    intro j hjl ih xc xj ej ec
    refine g_iload_n F 3 dX6_overBlocks_4 rfl rfl ?_
    refine g_bipush (v := 8) F dX6_overBlocks_5 (by decide) ?_
    refine g_icmp_ge F 59 dX6_overBlocks_7 (by decide) (fun c_7 => ?_) (fun c_7 => ?_)
    · have n_7 := nx_get (a := j) (b := 8) ej rfl (by omega) (by omega) c_7
      refine g_iload_n F 2 dX6_overBlocks_59 rfl rfl ?_
      refine g_iret F hr hlk rfl dX6_overBlocks_60 ?_
      exact ⟨by rw [ec, show j = 8 by omega], rfl⟩
    · have n_7 := nx_gef (a := j) (b := 8) ej rfl (by omega) (by omega) c_7
      refine g_iload_n F 2 dX6_overBlocks_10 rfl rfl ?_
      refine g_iload_n F 1 dX6_overBlocks_11 rfl rfl ?_
      refine g_bipush (v := 7) F dX6_overBlocks_12 (by decide) ?_
      refine g_icmp_ne F 37 dX6_overBlocks_14 (by decide) (fun c_14 => ?_) (fun c_14 => ?_)
      · refine g_aload_n F 0 dX6_overBlocks_37 rfl rfl ?_
        refine g_iload_n F 3 dX6_overBlocks_38 rfl rfl ?_
        refine g_callIv (na := 1) F 16 _ (c_X6_locosIn hj V) (by decide) rfl rfl lk_X6_112 rfl rfl (by decide +kernel) ⟨rfl, rfl, Nat.le_of_ble_eq_true rfl, Nat.le_of_ble_eq_true rfl, Nat.le_of_ble_eq_true rfl, Nat.le_of_ble_eq_true rfl, Nat.le_of_ble_eq_true rfl⟩ dX6_overBlocks_39 (fun r_39 u_39 h_39 => ?_)
        obtain ⟨rfl, rfl⟩ := h_39
        try dsimp only
        refine g_iconst (v := 1) F dX6_overBlocks_42 (by decide) ?_
        refine g_icmp_le F 50 dX6_overBlocks_43 (by decide) (fun c_43 => ?_) (fun c_43 => ?_)
        · refine g_iconst (v := 0) F dX6_overBlocks_50 (by decide) ?_
          refine g_iadd F dX6_overBlocks_51 ?_
          refine g_topi (fun x2_52 ex2_52 => ?_)
          refine g_istore_n (L' := [(2, _), (0, _), (1, _), (3, _)]) F dX6_overBlocks_52 rfl (by decide) rfl ?_
          refine g_iincC (q := 1) (L' := [(3, _), (2, _), (0, _), (1, _)]) F 3 dX6_overBlocks_53 (by decide) rfl (by decide) rfl ?_
          refine g_goto F 4 dX6_overBlocks_56 (by decide) ?_
          refine g_sub [2, 3, 1, 0] rfl ?_
          refine ih (by omega) _ _ (nx_add ej rfl) ?_
          rw [ex2_52, ec]
          unfold obS
          first
          | rw [if_pos c_14, if_pos c_14, bwS, if_pos (Int32.not_le.mp c_26)]
          | rw [if_pos c_14, if_pos c_14, bwS, if_neg (Int32.not_lt.mpr c_26), Int32.add_zero]
          | rw [if_neg c_14, if_neg c_14, cbS, ← ej, if_pos (Int32.not_le.mp c_43)]
          | rw [if_neg c_14, if_neg c_14, cbS, ← ej, if_neg (Int32.not_lt.mpr c_43), Int32.add_zero]
        · refine g_iconst (v := 1) F dX6_overBlocks_46 (by decide) ?_
          refine g_goto F 51 dX6_overBlocks_47 (by decide) ?_
          refine g_iadd F dX6_overBlocks_51 ?_
          refine g_topi (fun x2_52 ex2_52 => ?_)
          refine g_istore_n (L' := [(2, _), (0, _), (1, _), (3, _)]) F dX6_overBlocks_52 rfl (by decide) rfl ?_
          refine g_iincC (q := 1) (L' := [(3, _), (2, _), (0, _), (1, _)]) F 3 dX6_overBlocks_53 (by decide) rfl (by decide) rfl ?_
          refine g_goto F 4 dX6_overBlocks_56 (by decide) ?_
          refine g_sub [2, 3, 1, 0] rfl ?_
          refine ih (by omega) _ _ (nx_add ej rfl) ?_
          rw [ex2_52, ec]
          unfold obS
          first
          | rw [if_pos c_14, if_pos c_14, bwS, if_pos (Int32.not_le.mp c_26)]
          | rw [if_pos c_14, if_pos c_14, bwS, if_neg (Int32.not_lt.mpr c_26), Int32.add_zero]
          | rw [if_neg c_14, if_neg c_14, cbS, ← ej, if_pos (Int32.not_le.mp c_43)]
          | rw [if_neg c_14, if_neg c_14, cbS, ← ej, if_neg (Int32.not_lt.mpr c_43), Int32.add_zero]
      · refine g_aload_n F 0 dX6_overBlocks_17 rfl rfl ?_
        refine gf_16_1 F (by decide) mFL_X6_7 dX6_overBlocks_18 ?_
        refine g_bipush (v := 8) F dX6_overBlocks_21 (by decide) ?_
        refine g_iload_n F 3 dX6_overBlocks_23 rfl rfl ?_
        refine g_iadd F dX6_overBlocks_24 ?_
        refine ga_17 (j := (8 + j)) F (by decide) (nx_add rfl ej) (by omega) dX6_overBlocks_25 ?_
        refine g_eqi rd17 ?_
        refine g_if_le F 33 dX6_overBlocks_26 (by decide) (fun c_26 => ?_) (fun c_26 => ?_)
        · refine g_iconst (v := 0) F dX6_overBlocks_33 (by decide) ?_
          refine g_goto F 51 dX6_overBlocks_34 (by decide) ?_
          refine g_iadd F dX6_overBlocks_51 ?_
          refine g_topi (fun x2_52 ex2_52 => ?_)
          refine g_istore_n (L' := [(2, _), (0, _), (1, _), (3, _)]) F dX6_overBlocks_52 rfl (by decide) rfl ?_
          refine g_iincC (q := 1) (L' := [(3, _), (2, _), (0, _), (1, _)]) F 3 dX6_overBlocks_53 (by decide) rfl (by decide) rfl ?_
          refine g_goto F 4 dX6_overBlocks_56 (by decide) ?_
          refine g_sub [2, 3, 1, 0] rfl ?_
          refine ih (by omega) _ _ (nx_add ej rfl) ?_
          rw [ex2_52, ec]
          unfold obS
          first
          | rw [if_pos c_14, if_pos c_14, bwS, if_pos (Int32.not_le.mp c_26)]
          | rw [if_pos c_14, if_pos c_14, bwS, if_neg (Int32.not_lt.mpr c_26), Int32.add_zero]
          | rw [if_neg c_14, if_neg c_14, cbS, ← ej, if_pos (Int32.not_le.mp c_43)]
          | rw [if_neg c_14, if_neg c_14, cbS, ← ej, if_neg (Int32.not_lt.mpr c_43), Int32.add_zero]
        · refine g_iconst (v := 1) F dX6_overBlocks_29 (by decide) ?_
          refine g_goto F 51 dX6_overBlocks_30 (by decide) ?_
          refine g_iadd F dX6_overBlocks_51 ?_
          refine g_topi (fun x2_52 ex2_52 => ?_)
          refine g_istore_n (L' := [(2, _), (0, _), (1, _), (3, _)]) F dX6_overBlocks_52 rfl (by decide) rfl ?_
          refine g_iincC (q := 1) (L' := [(3, _), (2, _), (0, _), (1, _)]) F 3 dX6_overBlocks_53 (by decide) rfl (by decide) rfl ?_
          refine g_goto F 4 dX6_overBlocks_56 (by decide) ?_
          refine g_sub [2, 3, 1, 0] rfl ?_
          refine ih (by omega) _ _ (nx_add ej rfl) ?_
          rw [ex2_52, ec]
          unfold obS
          first
          | rw [if_pos c_14, if_pos c_14, bwS, if_pos (Int32.not_le.mp c_26)]
          | rw [if_pos c_14, if_pos c_14, bwS, if_neg (Int32.not_lt.mpr c_26), Int32.add_zero]
          | rw [if_neg c_14, if_neg c_14, cbS, ← ej, if_pos (Int32.not_le.mp c_43)]
          | rw [if_neg c_14, if_neg c_14, cbS, ← ej, if_neg (Int32.not_lt.mpr c_43), Int32.add_zero]
  refine g_iconst (v := 0) F dX6_overBlocks_0 (by decide) ?_
  refine g_istore_n (L' := [(2, _), (0, _), (1, _)]) F dX6_overBlocks_1 rfl (by decide) rfl ?_
  refine g_iconst (v := 0) F dX6_overBlocks_2 (by decide) ?_
  refine g_istore_n (L' := [(3, _), (2, _), (0, _), (1, _)]) F dX6_overBlocks_3 rfl (by decide) rfl ?_
  refine g_sub [2, 3, 1, 0] rfl ?_
  exact LOOP 0 (Nat.zero_le _) _ _ (by first | rfl | assumption) (by unfold obS; split <;> rfl)
set_option maxHeartbeats 4000000 in
set_option maxRecDepth 100000 in
theorem c_X6_allSpeeds {l : Launch} {G : Gm} (hj : Aj G) {I : Ii} {pm : Pm} {σ : Sg} {n h : Nat} (V : Iv n h σ) : CI l G yX6_allSpeeds (wz yX6_allSpeeds cX6_allSpeeds 3 (some .int)) (rmL 1) [.ref (G.2.2 16 0)] (upR I 17 0 σ) pm (fun r u => r = ssS σ n ∧ u = (upR I 17 0 σ, pm)) := by
  refine CI.walk hj (by decide +kernel) (by show _ ≤ 3; exact Nat.le_of_ble_eq_true rfl) ?_
  intro p e s m args below meth c F hr hlk
  have hn8 := V.2.1
  have hh20 := V.2.2.2.1
  have hne := V.nofe
  have hhe := V.hofe
  have LOOP : ∀ j, j ≤ n → ∀ (xc xj : Int32), xj = nI j → xc = ssS σ j → GG p l e (rmL 1) s m args below meth c G (AA G) 3 0 0 (MQ below (va_Qi (fun (r : Int32) (u : Ii × Pm) => r = ssS σ n ∧ u = (upR I 17 0 σ, pm)) (fun (u : Ii × Pm) t => Wd G u.1 u.2 t.heap) (AA G)) args s 0 0 (AA G)) (upR I 17 0 σ) pm [(0, .ref (G.2.2 16 0)), (1, .int xc), (2, .int xj)] 4 [] := by
    refine dn_ind ?_
    intro j hjl ih xc xj ej ec
    refine g_iload_n F 2 dX6_allSpeeds_4 rfl rfl ?_
    refine g_aload_n F 0 dX6_allSpeeds_5 rfl rfl ?_
    refine gf_16_1 F (by decide) mFL_X6_7 dX6_allSpeeds_6 ?_
    refine g_bipush (v := 6) F dX6_allSpeeds_9 (by decide) ?_
    refine ga_17 (j := 6) F (by decide) rfl (by omega) dX6_allSpeeds_11 ?_
    refine g_eqi rd17 ?_
    refine g_icmp_ge F 30 dX6_allSpeeds_12 (by decide) (fun c_12 => ?_) (fun c_12 => ?_)
    · have n_12 := nx_get (a := j) (b := n) ej V.1 (by omega) (by omega) c_12
      refine g_iload_n F 1 dX6_allSpeeds_30 rfl rfl ?_
      refine g_iret F hr hlk rfl dX6_allSpeeds_31 ?_
      exact ⟨by rw [ec, show j = n by omega], rfl⟩
    · have n_12 := nx_gef (a := j) (b := n) ej V.1 (by omega) (by omega) c_12
      refine g_iload_n F 1 dX6_allSpeeds_15 rfl rfl ?_
      refine g_aload_n F 0 dX6_allSpeeds_16 rfl rfl ?_
      refine g_iload_n F 2 dX6_allSpeeds_17 rfl rfl ?_
      refine g_iconst (v := 5) F dX6_allSpeeds_18 (by decide) ?_
      refine g_callIv (na := 2) F 16 _ (c_X6_get hj (r := j) (f := 5) ej rfl (by omega)) (by decide) rfl rfl lk_X6_36 rfl rfl (by decide +kernel) ⟨rfl, rfl, Nat.le_of_ble_eq_true rfl, Nat.le_of_ble_eq_true rfl, Nat.le_of_ble_eq_true rfl, Nat.le_of_ble_eq_true rfl, Nat.le_of_ble_eq_true rfl⟩ dX6_allSpeeds_19 (fun r_19 u_19 h_19 => ?_)
      obtain ⟨rfl, rfl⟩ := h_19
      try dsimp only
      refine g_iadd F dX6_allSpeeds_22 ?_
      refine g_topi (fun x1_23 ex1_23 => ?_)
      refine g_istore_n (L' := [(1, _), (0, _), (2, _)]) F dX6_allSpeeds_23 rfl (by decide) rfl ?_
      refine g_iincC (q := 1) (L' := [(2, _), (1, _), (0, _)]) F 2 dX6_allSpeeds_24 (by decide) rfl (by decide) rfl ?_
      refine g_goto F 4 dX6_allSpeeds_27 (by decide) ?_
      refine g_sub [2, 1, 0] rfl ?_
      exact ih (by omega) _ _ (nx_add ej rfl) (by rw [ex1_23, ec]; rfl)
  refine g_iconst (v := 0) F dX6_allSpeeds_0 (by decide) ?_
  refine g_istore_n (L' := [(1, _), (0, _)]) F dX6_allSpeeds_1 rfl (by decide) rfl ?_
  refine g_iconst (v := 0) F dX6_allSpeeds_2 (by decide) ?_
  refine g_istore_n (L' := [(2, _), (1, _), (0, _)]) F dX6_allSpeeds_3 rfl (by decide) rfl ?_
  refine g_sub [2, 1, 0] rfl ?_
  exact LOOP 0 (Nat.zero_le _) _ _ (by first | rfl | assumption) (by first | rfl | assumption)
set_option maxHeartbeats 4000000 in
set_option maxRecDepth 100000 in
theorem c_X6_count {l : Launch} {G : Gm} (hj : Aj G) {I : Ii} {pm : Pm} {σ : Sg} {n h : Nat} (V : Iv n h σ) {hn pl : Nat} (e4 : I 16 0 4 = nI hn) (e8 : I 16 0 8 = nI pl) {w : Int32} : CI l G yX6_count (wz yX6_count cX6_count 2 (some .int)) (rmL 4) [.ref (G.2.2 16 0), .int w] (upR I 17 0 σ) pm (fun r u => r = cntS σ hn pl w ∧ u = (upR (up3 I 16 0 0 0) 17 0 σ, pm)) := by
  have hn8 := V.2.1
  have hh20 := V.2.2.2.1
  have hne := V.nofe
  have hhe := V.hofe
  refine CI.walk hj (by decide +kernel) (by show _ ≤ 2; exact Nat.le_of_ble_eq_true rfl) ?_
  intro p e s m args below meth c F hr hlk
  refine g_aload_n F 0 dX6_count_0 rfl rfl ?_
  refine g_iconst (v := 0) F dX6_count_1 (by decide) ?_
  refine gp_16_0 F (by decide) mFL_X6_32 dX6_count_2 ?_
  refine g_I (wr16 (by decide)) ?_
  refine g_iload_n F 1 dX6_count_5 rfl rfl ?_
  by_cases hs_6 : 0 ≤ w.toInt ∧ w.toInt ≤ 11
  · obtain ⟨js_6, hj_6, ej_6⟩ := sw_in hs_6.1 hs_6.2 (by decide)
    rcases (show js_6 = 0 ∨ js_6 = 1 ∨ js_6 = 2 ∨ js_6 = 3 ∨ js_6 = 4 ∨ js_6 = 5 ∨ js_6 = 6 ∨ js_6 = 7 ∨ js_6 = 8 ∨ js_6 = 9 ∨ js_6 = 10 ∨ js_6 = 11 by omega) with hq | hq | hq | hq | hq | hq | hq | hq | hq | hq | hq | hq
    · have hs_6_0 : w = 0 := by rw [ej_6, hq] <;> rfl
      refine g_tableIn (off := 62) F 68 dX6_count_6 (by rw [hs_6_0]; decide) (by rw [hs_6_0]; decide) (by rw [hs_6_0]; rfl) (by decide) ?_
      have EJ : w = nI js_6 := by rw [ej_6]; exact congrArg nI (Nat.zero_add js_6)
      refine g_aload_n F 0 dX6_count_68 rfl rfl ?_
      refine gf_16_1 F (by decide) mFL_X6_7 dX6_count_69 ?_
      refine g_iconst (v := 0) F dX6_count_72 (by decide) ?_
      refine ga_17 (j := 0) F (by decide) rfl (by omega) dX6_count_73 ?_
      refine g_eqi rd17 ?_
      refine g_iret F hr hlk rfl dX6_count_74 ?_
      refine ⟨?_, rfl⟩
      rw [hs_6_0]
      unfold cntS
      rw [if_pos (by decide)]
      first
      | done
      | (done)
    · have hs_6_1 : w = 1 := by rw [ej_6, hq] <;> rfl
      refine g_tableIn (off := 69) F 75 dX6_count_6 (by rw [hs_6_1]; decide) (by rw [hs_6_1]; decide) (by rw [hs_6_1]; rfl) (by decide) ?_
      have EJ : w = nI js_6 := by rw [ej_6]; exact congrArg nI (Nat.zero_add js_6)
      refine g_aload_n F 0 dX6_count_75 rfl rfl ?_
      refine gf_16_1 F (by decide) mFL_X6_7 dX6_count_76 ?_
      refine g_bipush (v := 6) F dX6_count_79 (by decide) ?_
      refine ga_17 (j := 6) F (by decide) rfl (by omega) dX6_count_81 ?_
      refine g_eqi rd17 ?_
      refine g_iret F hr hlk rfl dX6_count_82 ?_
      refine ⟨?_, rfl⟩
      rw [hs_6_1]
      unfold cntS
      rw [if_neg (by decide)]
      rw [if_pos (by decide)]
      first
      | done
      | (done)
    · have hs_6_2 : w = 2 := by rw [ej_6, hq] <;> rfl
      refine g_tableIn (off := 77) F 83 dX6_count_6 (by rw [hs_6_2]; decide) (by rw [hs_6_2]; decide) (by rw [hs_6_2]; rfl) (by decide) ?_
      have EJ : w = nI js_6 := by rw [ej_6]; exact congrArg nI (Nat.zero_add js_6)
      refine g_aload_n F 0 dX6_count_83 rfl rfl ?_
      refine gf_16_1 F (by decide) mFL_X6_7 dX6_count_84 ?_
      refine g_bipush (v := 7) F dX6_count_87 (by decide) ?_
      refine ga_17 (j := 7) F (by decide) rfl (by omega) dX6_count_89 ?_
      refine g_eqi rd17 ?_
      refine g_iret F hr hlk rfl dX6_count_90 ?_
      refine ⟨?_, rfl⟩
      rw [hs_6_2]
      unfold cntS
      rw [if_neg (by decide)]
      rw [if_neg (by decide)]
      rw [if_pos (by decide)]
      first
      | done
      | (done)
    · have hs_6_3 : w = 3 := by rw [ej_6, hq] <;> rfl
      refine g_tableIn (off := 85) F 91 dX6_count_6 (by rw [hs_6_3]; decide) (by rw [hs_6_3]; decide) (by rw [hs_6_3]; rfl) (by decide) ?_
      have EJ : w = nI js_6 := by rw [ej_6]; exact congrArg nI (Nat.zero_add js_6)
      refine g_aload_n F 0 dX6_count_91 rfl rfl ?_
      refine gf_16_1 F (by decide) mFL_X6_7 dX6_count_92 ?_
      refine g_iconst (v := 1) F dX6_count_95 (by decide) ?_
      refine ga_17 (j := 1) F (by decide) rfl (by omega) dX6_count_96 ?_
      refine g_eqi rd17 ?_
      refine g_iret F hr hlk rfl dX6_count_97 ?_
      refine ⟨?_, rfl⟩
      rw [hs_6_3]
      unfold cntS
      rw [if_neg (by decide)]
      rw [if_neg (by decide)]
      rw [if_neg (by decide)]
      rw [if_pos (by decide)]
      first
      | done
      | (done)
    · have hs_6_4 : w = 4 := by rw [ej_6, hq] <;> rfl
      refine g_tableIn (off := 92) F 98 dX6_count_6 (by rw [hs_6_4]; decide) (by rw [hs_6_4]; decide) (by rw [hs_6_4]; rfl) (by decide) ?_
      have EJ : w = nI js_6 := by rw [ej_6]; exact congrArg nI (Nat.zero_add js_6)
      refine g_aload_n F 0 dX6_count_98 rfl rfl ?_
      refine gf_16_1 F (by decide) mFL_X6_7 dX6_count_99 ?_
      refine g_iconst (v := 3) F dX6_count_102 (by decide) ?_
      refine g_iload_n F 1 dX6_count_103 rfl rfl ?_
      refine g_iadd F dX6_count_104 ?_
      refine g_iconst (v := 4) F dX6_count_105 (by decide) ?_
      refine g_isub F dX6_count_106 ?_
      refine ga_17 (j := ((3 + js_6) - 4)) F (by decide) (nx_sub (nx_add rfl EJ) rfl (by omega)) (by omega) dX6_count_107 ?_
      refine g_eqi rd17 ?_
      refine g_iret F hr hlk rfl dX6_count_108 ?_
      refine ⟨?_, rfl⟩
      rw [EJ]
      exact (cnt_a (by omega) (by omega)).symm
    · have hs_6_5 : w = 5 := by rw [ej_6, hq] <;> rfl
      refine g_tableIn (off := 92) F 98 dX6_count_6 (by rw [hs_6_5]; decide) (by rw [hs_6_5]; decide) (by rw [hs_6_5]; rfl) (by decide) ?_
      have EJ : w = nI js_6 := by rw [ej_6]; exact congrArg nI (Nat.zero_add js_6)
      refine g_aload_n F 0 dX6_count_98 rfl rfl ?_
      refine gf_16_1 F (by decide) mFL_X6_7 dX6_count_99 ?_
      refine g_iconst (v := 3) F dX6_count_102 (by decide) ?_
      refine g_iload_n F 1 dX6_count_103 rfl rfl ?_
      refine g_iadd F dX6_count_104 ?_
      refine g_iconst (v := 4) F dX6_count_105 (by decide) ?_
      refine g_isub F dX6_count_106 ?_
      refine ga_17 (j := ((3 + js_6) - 4)) F (by decide) (nx_sub (nx_add rfl EJ) rfl (by omega)) (by omega) dX6_count_107 ?_
      refine g_eqi rd17 ?_
      refine g_iret F hr hlk rfl dX6_count_108 ?_
      refine ⟨?_, rfl⟩
      rw [EJ]
      exact (cnt_a (by omega) (by omega)).symm
    · have hs_6_6 : w = 6 := by rw [ej_6, hq] <;> rfl
      refine g_tableIn (off := 92) F 98 dX6_count_6 (by rw [hs_6_6]; decide) (by rw [hs_6_6]; decide) (by rw [hs_6_6]; rfl) (by decide) ?_
      have EJ : w = nI js_6 := by rw [ej_6]; exact congrArg nI (Nat.zero_add js_6)
      refine g_aload_n F 0 dX6_count_98 rfl rfl ?_
      refine gf_16_1 F (by decide) mFL_X6_7 dX6_count_99 ?_
      refine g_iconst (v := 3) F dX6_count_102 (by decide) ?_
      refine g_iload_n F 1 dX6_count_103 rfl rfl ?_
      refine g_iadd F dX6_count_104 ?_
      refine g_iconst (v := 4) F dX6_count_105 (by decide) ?_
      refine g_isub F dX6_count_106 ?_
      refine ga_17 (j := ((3 + js_6) - 4)) F (by decide) (nx_sub (nx_add rfl EJ) rfl (by omega)) (by omega) dX6_count_107 ?_
      refine g_eqi rd17 ?_
      refine g_iret F hr hlk rfl dX6_count_108 ?_
      refine ⟨?_, rfl⟩
      rw [EJ]
      exact (cnt_a (by omega) (by omega)).symm
    · have hs_6_7 : w = 7 := by rw [ej_6, hq] <;> rfl
      refine g_tableIn (off := 103) F 109 dX6_count_6 (by rw [hs_6_7]; decide) (by rw [hs_6_7]; decide) (by rw [hs_6_7]; rfl) (by decide) ?_
      have EJ : w = nI js_6 := by rw [ej_6]; exact congrArg nI (Nat.zero_add js_6)
      refine g_aload_n F 0 dX6_count_109 rfl rfl ?_
      refine g_iload_n F 1 dX6_count_110 rfl rfl ?_
      refine g_callIv (na := 1) F 16 _ (c_X6_overBlocks hj V) (by decide) rfl rfl lk_X6_115 rfl rfl (by decide +kernel) ⟨rfl, rfl, Nat.le_of_ble_eq_true rfl, Nat.le_of_ble_eq_true rfl, Nat.le_of_ble_eq_true rfl, Nat.le_of_ble_eq_true rfl, Nat.le_of_ble_eq_true rfl⟩ dX6_count_111 (fun r_111 u_111 h_111 => ?_)
      obtain ⟨rfl, rfl⟩ := h_111
      try dsimp only
      refine g_iret F hr hlk rfl dX6_count_114 ?_
      refine ⟨?_, rfl⟩
      rw [EJ]
      exact (cnt_b (by omega) (by omega) hne).symm
    · have hs_6_8 : w = 8 := by rw [ej_6, hq] <;> rfl
      refine g_tableIn (off := 103) F 109 dX6_count_6 (by rw [hs_6_8]; decide) (by rw [hs_6_8]; decide) (by rw [hs_6_8]; rfl) (by decide) ?_
      have EJ : w = nI js_6 := by rw [ej_6]; exact congrArg nI (Nat.zero_add js_6)
      refine g_aload_n F 0 dX6_count_109 rfl rfl ?_
      refine g_iload_n F 1 dX6_count_110 rfl rfl ?_
      refine g_callIv (na := 1) F 16 _ (c_X6_overBlocks hj V) (by decide) rfl rfl lk_X6_115 rfl rfl (by decide +kernel) ⟨rfl, rfl, Nat.le_of_ble_eq_true rfl, Nat.le_of_ble_eq_true rfl, Nat.le_of_ble_eq_true rfl, Nat.le_of_ble_eq_true rfl, Nat.le_of_ble_eq_true rfl⟩ dX6_count_111 (fun r_111 u_111 h_111 => ?_)
      obtain ⟨rfl, rfl⟩ := h_111
      try dsimp only
      refine g_iret F hr hlk rfl dX6_count_114 ?_
      refine ⟨?_, rfl⟩
      rw [EJ]
      exact (cnt_b (by omega) (by omega) hne).symm
    · have hs_6_9 : w = 9 := by rw [ej_6, hq] <;> rfl
      refine g_tableIn (off := 109) F 115 dX6_count_6 (by rw [hs_6_9]; decide) (by rw [hs_6_9]; decide) (by rw [hs_6_9]; rfl) (by decide) ?_
      have EJ : w = nI js_6 := by rw [ej_6]; exact congrArg nI (Nat.zero_add js_6)
      refine g_aload_n F 0 dX6_count_115 rfl rfl ?_
      refine g_callIv (na := 0) F 16 _ (c_X6_allSpeeds hj V) (by decide) rfl rfl lk_X6_118 rfl rfl (by decide +kernel) ⟨rfl, rfl, Nat.le_of_ble_eq_true rfl, Nat.le_of_ble_eq_true rfl, Nat.le_of_ble_eq_true rfl, Nat.le_of_ble_eq_true rfl, Nat.le_of_ble_eq_true rfl⟩ dX6_count_116 (fun r_116 u_116 h_116 => ?_)
      obtain ⟨rfl, rfl⟩ := h_116
      try dsimp only
      refine g_sipush (v := 10000) F dX6_count_119 (by decide) ?_
      refine g_iadd F dX6_count_122 ?_
      refine g_iret F hr hlk rfl dX6_count_123 ?_
      refine ⟨?_, rfl⟩
      rw [hs_6_9]
      unfold cntS
      rw [if_neg (by decide)]
      rw [if_neg (by decide)]
      rw [if_neg (by decide)]
      rw [if_neg (by decide)]
      rw [if_neg (by decide)]
      rw [if_neg (by decide)]
      rw [if_neg (by decide)]
      rw [if_neg (by decide)]
      rw [if_neg (by decide)]
      rw [if_pos (by decide)]
      first
      | done
      | (rw [hne])
    · have hs_6_10 : w = 10 := by rw [ej_6, hq] <;> rfl
      refine g_tableIn (off := 118) F 124 dX6_count_6 (by rw [hs_6_10]; decide) (by rw [hs_6_10]; decide) (by rw [hs_6_10]; rfl) (by decide) ?_
      have EJ : w = nI js_6 := by rw [ej_6]; exact congrArg nI (Nat.zero_add js_6)
      refine g_aload_n F 0 dX6_count_124 rfl rfl ?_
      refine gf_16_8 F (by decide) mFL_X6_121 dX6_count_125 ?_
      refine g_eqi (rd16 (by decide)) ?_
      refine g_iret F hr hlk rfl dX6_count_128 ?_
      refine ⟨?_, rfl⟩
      rw [hs_6_10]
      unfold cntS
      rw [if_neg (by decide)]
      rw [if_neg (by decide)]
      rw [if_neg (by decide)]
      rw [if_neg (by decide)]
      rw [if_neg (by decide)]
      rw [if_neg (by decide)]
      rw [if_neg (by decide)]
      rw [if_neg (by decide)]
      rw [if_neg (by decide)]
      rw [if_neg (by decide)]
      rw [if_pos (by decide)]
      first
      | done
      | (rw [show up3 I 16 0 0 0 16 0 8 = I 16 0 8 from up3_n (by decide)]; exact e8)
    · have hs_6_11 : w = 11 := by rw [ej_6, hq] <;> rfl
      refine g_tableIn (off := 123) F 129 dX6_count_6 (by rw [hs_6_11]; decide) (by rw [hs_6_11]; decide) (by rw [hs_6_11]; rfl) (by decide) ?_
      have EJ : w = nI js_6 := by rw [ej_6]; exact congrArg nI (Nat.zero_add js_6)
      refine g_aload_n F 0 dX6_count_129 rfl rfl ?_
      refine gf_16_4 F (by decide) mFL_X6_40 dX6_count_130 ?_
      refine g_eqi (rd16 (by decide)) ?_
      refine g_iret F hr hlk rfl dX6_count_133 ?_
      refine ⟨?_, rfl⟩
      rw [hs_6_11]
      unfold cntS
      rw [if_neg (by decide)]
      rw [if_neg (by decide)]
      rw [if_neg (by decide)]
      rw [if_neg (by decide)]
      rw [if_neg (by decide)]
      rw [if_neg (by decide)]
      rw [if_neg (by decide)]
      rw [if_neg (by decide)]
      rw [if_neg (by decide)]
      rw [if_neg (by decide)]
      rw [if_neg (by decide)]
      rw [if_pos (by decide)]
      first
      | done
      | (rw [show up3 I 16 0 0 0 16 0 4 = I 16 0 4 from up3_n (by decide)]; exact e4)
  · refine g_tableOut F 134 dX6_count_6 (by omega) (by decide) ?_
    refine g_bipush (v := -2) F dX6_count_134 (by decide) ?_
    refine g_iret F hr hlk rfl dX6_count_136 ?_
    refine ⟨?_, rfl⟩
    unfold cntS
    rw [if_neg (fun e => hs_6 (by rw [e]; decide)), if_neg (fun e => hs_6 (by rw [e]; decide)), if_neg (fun e => hs_6 (by rw [e]; decide)), if_neg (fun e => hs_6 (by rw [e]; decide)), if_neg (fun e => hs_6 (by rw [e]; decide)), if_neg (fun e => hs_6 (by rw [e]; decide)), if_neg (fun e => hs_6 (by rw [e]; decide)), if_neg (fun e => hs_6 (by rw [e]; decide)), if_neg (fun e => hs_6 (by rw [e]; decide)), if_neg (fun e => hs_6 (by rw [e]; decide)), if_neg (fun e => hs_6 (by rw [e]; decide)), if_neg (fun e => hs_6 (by rw [e]; decide))]
set_option maxHeartbeats 4000000 in
set_option maxRecDepth 100000 in
theorem c_X6_settles {l : Launch} {G : Gm} (hj : Aj G) {I : Ii} {pm : Pm} {σ : Sg} {n h : Nat} (V : Iv n h σ) {a : Int32} : CI l G yX6_settles (wz yX6_settles cX6_settles 5 (some .int)) (rmL 2) [.ref (G.2.2 16 0), .int a] (upR I 17 0 σ) pm (fun r u => r = settS σ a ∧ u = (upR (up3 I 16 0 0 0) 17 0 σ, pm)) := by
  have hn8 := V.2.1
  have hh20 := V.2.2.2.1
  have hne := V.nofe
  have hhe := V.hofe
  refine CI.walk hj (by decide +kernel) (by show _ ≤ 5; exact Nat.le_of_ble_eq_true rfl) ?_
  intro p e s m args below meth c F hr hlk
  refine g_aload_n F 0 dX6_settles_0 rfl rfl ?_
  refine g_iconst (v := 0) F dX6_settles_1 (by decide) ?_
  refine gp_16_0 F (by decide) mFL_X6_32 dX6_settles_2 ?_
  refine g_I (wr16 (by decide)) ?_
  refine g_aload_n F 0 dX6_settles_5 rfl rfl ?_
  refine g_iload_n F 1 dX6_settles_6 rfl rfl ?_
  refine g_callIv (na := 1) F 16 _ (c_X6_locoOf hj V.1 hn8) (by decide) rfl rfl lk_X6_87 rfl rfl (by decide +kernel) ⟨rfl, rfl, Nat.le_of_ble_eq_true rfl, Nat.le_of_ble_eq_true rfl, Nat.le_of_ble_eq_true rfl, Nat.le_of_ble_eq_true rfl, Nat.le_of_ble_eq_true rfl⟩ dX6_settles_7 (fun r_7 u_7 h_7 => ?_)
  obtain ⟨rfl, rfl⟩ := h_7
  try dsimp only
  refine g_topi (fun x2_10 ex2_10 => ?_)
  refine g_istore_n (L' := [(2, _), (0, _), (1, _)]) F dX6_settles_10 rfl (by decide) rfl ?_
  refine g_iload_n F 0 dX6_settles_11 rfl rfl ?_
  refine g_bipush (v := -6) F dX6_settles_12 (by decide) ?_
  refine g_icmp_ne F 19 dX6_settles_14 (by decide) (fun c_14 => ?_) (fun c_14 => ?_)
  · have RK : rkS σ a n < n ∧ x2_10 = nI (rkS σ a n) := by
      have := lco_t (σ := σ) (a := a) (n := n) (by rw [← ex2_10]; exact c_14)
      exact ⟨this.1, ex2_10.trans this.2⟩
    have LK := V.2.2.2.2.1 _ RK.1
    refine g_bipush (v := 60) F dX6_settles_19 (by decide) ?_
    refine g_aload_n F 1 dX6_settles_21 rfl rfl ?_
    refine g_iload_n F 0 dX6_settles_22 rfl rfl ?_
    refine g_iconst (v := 1) F dX6_settles_23 (by decide) ?_
    refine g_callIv (na := 2) F 16 _ (c_X6_get hj (r := (rkS σ a n)) (f := 1) RK.2 rfl (by omega)) (by decide) rfl rfl lk_X6_36 rfl rfl (by decide +kernel) ⟨rfl, rfl, Nat.le_of_ble_eq_true rfl, Nat.le_of_ble_eq_true rfl, Nat.le_of_ble_eq_true rfl, Nat.le_of_ble_eq_true rfl, Nat.le_of_ble_eq_true rfl⟩ dX6_settles_24 (fun r_24 u_24 h_24 => ?_)
    obtain ⟨rfl, rfl⟩ := h_24
    try dsimp only
    refine g_idiv F dX6_settles_27 (ne0 LK.1.1) ?_
    refine g_topi (fun x3_28 ex3_28 => ?_)
    refine g_istore_n (L' := [(3, _), (2, _), (0, _), (1, _)]) F dX6_settles_28 rfl (by decide) rfl ?_
    refine g_aload_n F 2 dX6_settles_29 rfl rfl ?_
    refine g_iload_n F 1 dX6_settles_30 rfl rfl ?_
    refine g_callIv (na := 1) F 16 _ (c_X6_due hj RK.2 (by omega)) (by decide) rfl rfl lk_X6_70 rfl rfl (by decide +kernel) ⟨rfl, rfl, Nat.le_of_ble_eq_true rfl, Nat.le_of_ble_eq_true rfl, Nat.le_of_ble_eq_true rfl, Nat.le_of_ble_eq_true rfl, Nat.le_of_ble_eq_true rfl⟩ dX6_settles_31 (fun r_31 u_31 h_31 => ?_)
    obtain ⟨rfl, rfl⟩ := h_31
    try dsimp only
    refine g_aload_n F 2 dX6_settles_34 rfl rfl ?_
    refine g_iload_n F 1 dX6_settles_35 rfl rfl ?_
    refine g_iconst (v := 5) F dX6_settles_36 (by decide) ?_
    refine g_callIv (na := 2) F 16 _ (c_X6_get hj (r := (rkS σ a n)) (f := 5) RK.2 rfl (by omega)) (by decide) rfl rfl lk_X6_36 rfl rfl (by decide +kernel) ⟨rfl, rfl, Nat.le_of_ble_eq_true rfl, Nat.le_of_ble_eq_true rfl, Nat.le_of_ble_eq_true rfl, Nat.le_of_ble_eq_true rfl, Nat.le_of_ble_eq_true rfl⟩ dX6_settles_37 (fun r_37 u_37 h_37 => ?_)
    obtain ⟨rfl, rfl⟩ := h_37
    try dsimp only
    refine g_isub F dX6_settles_40 ?_
    refine g_topi (fun x4_41 ex4_41 => ?_)
    refine g_istore (L' := [(4, _), (3, _), (2, _), (0, _), (1, _)]) F dX6_settles_41 (by decide) rfl ?_
    refine g_iload F 0 dX6_settles_43 rfl ?_
    refine g_if_ge F 54 dX6_settles_45 (by decide) (fun c_45 => ?_) (fun c_45 => ?_)
    · refine g_iload F 0 dX6_settles_54 rfl ?_
      refine g_iload_n F 1 dX6_settles_56 rfl rfl ?_
      refine g_iadd F dX6_settles_57 ?_
      refine g_iconst (v := 1) F dX6_settles_58 (by decide) ?_
      refine g_isub F dX6_settles_59 ?_
      refine g_iload_n F 1 dX6_settles_60 rfl rfl ?_
      refine g_idiv F dX6_settles_61 (by rw [ex3_28]; exact ne0 (by have := (gain_bd LK.1.1 LK.1.2).1; omega)) ?_
      refine g_iret F hr hlk rfl dX6_settles_62 ?_
      refine ⟨?_, rfl⟩
      unfold settS stlS
      rw [hne, if_pos RK.1]
      rw [ex4_41] at *
      rw [ex3_28] at *
      first
      | rw [if_neg (Int32.not_lt.mpr c_45)]
      | rw [if_pos (Int32.not_le.mp c_45)]
    · refine g_iload F 0 dX6_settles_48 rfl ?_
      refine g_ineg F dX6_settles_50 ?_
      refine g_goto F 56 dX6_settles_51 (by decide) ?_
      refine g_iload_n F 1 dX6_settles_56 rfl rfl ?_
      refine g_iadd F dX6_settles_57 ?_
      refine g_iconst (v := 1) F dX6_settles_58 (by decide) ?_
      refine g_isub F dX6_settles_59 ?_
      refine g_iload_n F 1 dX6_settles_60 rfl rfl ?_
      refine g_idiv F dX6_settles_61 (by rw [ex3_28]; exact ne0 (by have := (gain_bd LK.1.1 LK.1.2).1; omega)) ?_
      refine g_iret F hr hlk rfl dX6_settles_62 ?_
      refine ⟨?_, rfl⟩
      unfold settS stlS
      rw [hne, if_pos RK.1]
      rw [ex4_41] at *
      rw [ex3_28] at *
      first
      | rw [if_neg (Int32.not_lt.mpr c_45)]
      | rw [if_pos (Int32.not_le.mp c_45)]
  · have NR : ¬ rkS σ a n < n := lco_f hn8 (ex2_10.symm.trans c_14)
    refine g_iconst (v := -1) F dX6_settles_17 (by decide) ?_
    refine g_iret F hr hlk rfl dX6_settles_18 ?_
    exact ⟨by unfold settS; rw [hne, if_neg NR], rfl⟩
set_option maxHeartbeats 4000000 in
set_option maxRecDepth 100000 in
theorem c_X6_stepFor {l : Launch} {G : Gm} (hj : Aj G) {I : Ii} {pm : Pm} {σ : Sg} {n h : Nat} (V : Iv n h σ) {a t : Int32} : CI l G yX6_stepFor (wz yX6_stepFor cX6_stepFor 5 (some .int)) (rmL 2) [.ref (G.2.2 16 0), .int a, .int t] (upR I 17 0 σ) pm (fun r u => r = stepS σ a t ∧ u = (upR (up3 I 16 0 0 0) 17 0 σ, pm)) := by
  refine CI.walk hj (by decide +kernel) (by show _ ≤ 5; exact Nat.le_of_ble_eq_true rfl) ?_
  intro p e s m args below meth c F hr hlk
  have hn8 := V.2.1
  have hh20 := V.2.2.2.1
  have hne := V.nofe
  have hhe := V.hofe
  have LOOP : rkS σ a n < n → (0 ≤ t ∧ t ≤ 280) → ∀ x3, x3 = nI (rkS σ a n) → ∀ j, j ≤ 28 → (∀ i, i < j → stpP (σ (16 + 11 * rkS σ a n + 2)) t i = false) → ∀ (xj : Int32), xj = nI j → GG p l e (rmL 2) s m args below meth c G (AA G) 5 0 0 (MQ below (va_Qi (fun (r : Int32) (u : Ii × Pm) => r = stepS σ a t ∧ u = (upR (up3 I 16 0 0 0) 17 0 σ, pm)) (fun (u : Ii × Pm) t => Wd G u.1 u.2 t.heap) (AA G)) args s 0 0 (AA G)) (upR (up3 I 16 0 0 0) 17 0 σ) pm [(0, .ref (G.2.2 16 0)), (1, .int a), (2, .int t), (3, .int x3), (4, .int xj)] 36 [] := by
    intro hlr ht x3 e3
    have LK := V.2.2.2.2.1 _ hlr
    refine dn_ind ?_
    intro j hjl ih hno xj ej
    refine g_aload_n F 0 dX6_stepFor_36 rfl rfl ?_
    refine g_iload_n F 3 dX6_stepFor_37 rfl rfl ?_
    refine g_iconst (v := 2) F dX6_stepFor_38 (by decide) ?_
    refine g_callIv (na := 2) F 16 _ (c_X6_get hj (r := (rkS σ a n)) (f := 2) e3 rfl (by omega)) (by decide) rfl rfl lk_X6_36 rfl rfl (by decide +kernel) ⟨rfl, rfl, Nat.le_of_ble_eq_true rfl, Nat.le_of_ble_eq_true rfl, Nat.le_of_ble_eq_true rfl, Nat.le_of_ble_eq_true rfl, Nat.le_of_ble_eq_true rfl⟩ dX6_stepFor_39 (fun r_39 u_39 h_39 => ?_)
    obtain ⟨rfl, rfl⟩ := h_39
    try dsimp only
    refine g_iload F 4 dX6_stepFor_42 rfl ?_
    refine g_callIs (na := 2) F (c_X6_byCurve hj) lk_X6_47 rfl rfl (by decide +kernel) ⟨rfl, rfl, Nat.le_of_ble_eq_true rfl, Nat.le_of_ble_eq_true rfl, Nat.le_of_ble_eq_true rfl, Nat.le_of_ble_eq_true rfl, Nat.le_of_ble_eq_true rfl⟩ dX6_stepFor_44 (fun r_44 u_44 h_44 => ?_)
    obtain ⟨rfl, rfl⟩ := h_44
    try dsimp only
    refine g_iload_n F 2 dX6_stepFor_47 rfl rfl ?_
    refine g_icmp_ge F 57 dX6_stepFor_48 (by decide) (fun c_48 => ?_) (fun c_48 => ?_)
    · refine g_iload F 4 dX6_stepFor_57 rfl ?_
      refine g_iret F hr hlk rfl dX6_stepFor_59 ?_
      refine ⟨?_, rfl⟩
      unfold stepS
      rw [hne, if_pos hlr, if_pos ht]
      by_cases e : j < 28
      · rw [fst_some hno (decide_eq_true (Int32.not_lt.mpr (by rw [← ej]; exact c_48))) 28 e, ej]
      · rw [ej, show j = 28 by omega, fst_none 28 (fun i hi => hno i (by omega))]
    · refine g_iincC (q := 1) (L' := [(4, _), (0, _), (1, _), (2, _), (3, _)]) F 4 dX6_stepFor_51 (by decide) rfl (by decide) rfl ?_
      refine g_goto F 36 dX6_stepFor_54 (by decide) ?_
      refine g_sub [1, 2, 3, 4, 0] rfl ?_
      have hlt : j < 28 := by
        by_cases e : j < 28
        · exact e
        · exfalso
          have c48 := c_48
          rw [ej, show j = 28 by omega, byC_28 LK.2.1.1 LK.2.1.2] at c48
          exact c48 ht.2
      exact ih hlt (fun i hi => by
        by_cases e : i = j
        · rw [e]
          exact decide_eq_false (fun q => q (by rw [← ej]; exact Int32.not_le.mp c_48))
        · exact hno i (by omega)) _ (nx_add ej rfl)
  refine g_aload_n F 0 dX6_stepFor_0 rfl rfl ?_
  refine g_iconst (v := 0) F dX6_stepFor_1 (by decide) ?_
  refine gp_16_0 F (by decide) mFL_X6_32 dX6_stepFor_2 ?_
  refine g_I (wr16 (by decide)) ?_
  refine g_aload_n F 0 dX6_stepFor_5 rfl rfl ?_
  refine g_iload_n F 1 dX6_stepFor_6 rfl rfl ?_
  refine g_callIv (na := 1) F 16 _ (c_X6_locoOf hj V.1 hn8) (by decide) rfl rfl lk_X6_87 rfl rfl (by decide +kernel) ⟨rfl, rfl, Nat.le_of_ble_eq_true rfl, Nat.le_of_ble_eq_true rfl, Nat.le_of_ble_eq_true rfl, Nat.le_of_ble_eq_true rfl, Nat.le_of_ble_eq_true rfl⟩ dX6_stepFor_7 (fun r_7 u_7 h_7 => ?_)
  obtain ⟨rfl, rfl⟩ := h_7
  try dsimp only
  refine g_topi (fun x3_10 ex3_10 => ?_)
  refine g_istore_n (L' := [(3, _), (0, _), (1, _), (2, _)]) F dX6_stepFor_10 rfl (by decide) rfl ?_
  refine g_iload_n F 0 dX6_stepFor_11 rfl rfl ?_
  refine g_bipush (v := -6) F dX6_stepFor_12 (by decide) ?_
  refine g_icmp_ne F 19 dX6_stepFor_14 (by decide) (fun c_14 => ?_) (fun c_14 => ?_)
  · have RK : rkS σ a n < n ∧ x3_10 = nI (rkS σ a n) := by
      have := lco_t (σ := σ) (a := a) (n := n) (by rw [← ex3_10]; exact c_14)
      exact ⟨this.1, ex3_10.trans this.2⟩
    have LK := V.2.2.2.2.1 _ RK.1
    refine g_iload_n F 3 dX6_stepFor_19 rfl rfl ?_
    refine g_iconst (v := 0) F dX6_stepFor_20 (by decide) ?_
    refine g_sipush (v := 280) F dX6_stepFor_21 (by decide) ?_
    refine g_callIs (na := 3) F (c_X6_in hj) lk_X6_54 rfl rfl (by decide +kernel) ⟨rfl, rfl, Nat.le_of_ble_eq_true rfl, Nat.le_of_ble_eq_true rfl, Nat.le_of_ble_eq_true rfl, Nat.le_of_ble_eq_true rfl, Nat.le_of_ble_eq_true rfl⟩ dX6_stepFor_24 (fun r_24 u_24 h_24 => ?_)
    obtain ⟨rfl, rfl⟩ := h_24
    try dsimp only
    refine g_if_ne F 33 dX6_stepFor_27 (by decide) (fun c_27 => ?_) (fun c_27 => ?_)
    · have P27 := bz_n.mp c_27
      refine g_iconst (v := 0) F dX6_stepFor_33 (by decide) ?_
      refine g_istore (L' := [(4, _), (3, _), (0, _), (1, _), (2, _)]) F dX6_stepFor_34 (by decide) rfl ?_
      refine g_sub [2, 3, 4, 1, 0] rfl ?_
      exact LOOP RK.1 P27 _ RK.2 0 (Nat.zero_le _) (fun i hi => absurd hi (by omega)) _ (by first | rfl | assumption)
    · have N27 := bz_0.mp c_27
      refine g_bipush (v := -2) F dX6_stepFor_30 (by decide) ?_
      refine g_iret F hr hlk rfl dX6_stepFor_32 ?_
      exact ⟨by unfold stepS; rw [hne, if_pos RK.1, if_neg N27], rfl⟩
  · have NR : ¬ rkS σ a n < n := lco_f hn8 (ex3_10.symm.trans c_14)
    refine g_iconst (v := -1) F dX6_stepFor_17 (by decide) ?_
    refine g_iret F hr hlk rfl dX6_stepFor_18 ?_
    exact ⟨by unfold stepS; rw [hne, if_neg NR], rfl⟩
