/-! PART 76: act -/
theorem act_loco {v w : Int32} {σ s0 : Sg} {q : Int32 × Sg} (hc : v &&& 15 = 0 ∨ v &&& 15 = 1 ∨ v &&& 15 = 2) (H : locoR (adF v) (lowF w 21) (lowF (w >>> (5 &&& 31)) 4) (lowF (w >>> (7 &&& 31)) 801) σ q) : actR v w σ s0 q := by
  unfold actR
  rcases hc with hc | hc | hc
  all_goals
    rw [hc]
    rw [if_pos (by decide)]
    exact H
theorem act_3 {v w : Int32} {σ s0 : Sg} {q : Int32 × Sg} (hc : v &&& 15 = 3) (H : if w &&& 3 = 0 then liftR (adF v) σ q else noiseR (lowF (w >>> (2 &&& 31)) 11) σ q) : actR v w σ s0 q := by
  unfold actR
  rw [hc]
  rw [if_neg (by decide)]
  rw [if_pos rfl]
  exact H
theorem act_order {v w : Int32} {σ s0 : Sg} {q : Int32 × Sg} (hc : v &&& 15 = 4 ∨ v &&& 15 = 5 ∨ v &&& 15 = 6) (H : ordR (adF v) (dtF w) (lowF (w >>> (20 &&& 31)) 4) σ q) : actR v w σ s0 q := by
  unfold actR
  rcases hc with hc | hc | hc
  all_goals
    rw [hc]
    rw [if_neg (by decide)]
    rw [if_neg (by decide)]
    rw [if_pos (by decide)]
    exact H
theorem act_frame {v w : Int32} {σ s0 : Sg} {q : Int32 × Sg} (hc : v &&& 15 = 7 ∨ v &&& 15 = 8) (H : frmR (adF v) (dtF w) (ckF v w) σ q) : actR v w σ s0 q := by
  unfold actR
  rcases hc with hc | hc
  all_goals
    rw [hc]
    rw [if_neg (by decide)]
    rw [if_neg (by decide)]
    rw [if_neg (by decide)]
    rw [if_pos (by decide)]
    exact H
theorem act_shorts {v w : Int32} {σ s0 : Sg} {q : Int32 × Sg} (hc : v &&& 15 = 9) (H : shoR (lowF w 9) (lowF (w >>> (4 &&& 31)) 20) σ q) : actR v w σ s0 q := by
  unfold actR
  rw [hc]
  rw [if_neg (by decide)]
  rw [if_neg (by decide)]
  rw [if_neg (by decide)]
  rw [if_neg (by decide)]
  rw [if_pos rfl]
  exact H
theorem act_restore {v w : Int32} {σ s0 : Sg} {q : Int32 × Sg} (hc : v &&& 15 = 10) (H : resR w σ s0 q) : actR v w σ s0 q := by
  unfold actR
  rw [hc]
  rw [if_neg (by decide)]
  rw [if_neg (by decide)]
  rw [if_neg (by decide)]
  rw [if_neg (by decide)]
  rw [if_neg (by decide)]
  rw [if_pos rfl]
  exact H
theorem act_pass {v w : Int32} {σ s0 : Sg} {q : Int32 × Sg} (hc : ¬ (0 ≤ (v &&& 15).toInt ∧ (v &&& 15).toInt ≤ 10)) (H : pasR (ptF w) σ q) : actR v w σ s0 q := by
  have ne : ∀ c : Int32, 0 ≤ c.toInt ∧ c.toInt ≤ 10 → ¬ v &&& 15 = c := fun c h e => hc (by rw [e]; exact h)
  unfold actR
  rw [if_neg (by rintro (e | e | e) <;> exact ne _ (by decide) e), if_neg (ne 3 (by decide)), if_neg (by rintro (e | e | e) <;> exact ne _ (by decide) e), if_neg (by rintro (e | e) <;> exact ne _ (by decide) e), if_neg (ne 9 (by decide)), if_neg (ne 10 (by decide))]
  exact H
theorem lowN1 {c : Prop} [Decidable c] : ¬ (if c then (9 : Int32) else 101) = 0 := by split <;> decide
theorem lowN2 {c : Prop} [Decidable c] : ¬ (if c then (12 : Int32) else 101) = 0 := by split <;> decide
set_option maxHeartbeats 4000000 in
set_option maxRecDepth 100000 in
theorem c_L_act {l : Launch} {G : Gm} (hj : Aj G) {I : Ii} {pm : Pm} {v w : Int32} {σ : Sg} {hn : Nat} {hist : Nat → Sg} {sv : Nat → Int32} {sl : Nat → Sg} {pl : Nat} {pad : Sg} (C : CR I pm σ hn hist sv sl pl pad) (h0 : sv 0 = 1) (h1 : sv 1 = 0) : CI l G yL_act (wz yL_act cL_act 5 (some .int)) (rmL 7) [.ref (G.2.2 8 0), .int v, .int w] I pm (fun r u => ∃ q, actR v w σ (sl 0) q ∧ CHG I u r q σ hn hist sv sl pl pad) := by
  refine CI.walk hj (by decide +kernel) (by show _ ≤ 5; exact Nat.le_of_ble_eq_true rfl) ?_
  intro p e s m args below meth c F hr hlk
  obtain ⟨n, h, R, V⟩ := id C.1
  have hs0 : ¬ sl 0 6 < 0 := by
    obtain ⟨n0, h00, R0, V0⟩ := (C.2.2.2.2.1 0 (by decide)).2.2 h0
    rw [V0.1]
    exact nneg (by have := V0.2.1; omega)
  have SW : ∀ xa, xa = adF v → ∀ xd, xd = dtF w → GG p l e (rmL 7) s m args below meth c G (AA G) 5 0 0 (MQ below (va_Qi (fun (r : Int32) (u : Ii × Pm) => ∃ q, actR v w σ (sl 0) q ∧ CHG I u r q σ hn hist sv sl pl pad) (fun (u : Ii × Pm) t => Wd G u.1 u.2 t.heap) (AA G)) args s 0 0 (AA G)) I pm [(0, .ref (G.2.2 8 0)), (1, .int v), (2, .int w), (3, .int xa)] 61 [.int xd] := by
    intro xa ea xd ed
    subst ea
    subst ed
    refine g_istore (L' := [(4, _), (0, _), (1, _), (2, _), (3, _)]) F dL_act_61 (by decide) rfl ?_
    refine g_iload_n F 2 dL_act_63 rfl rfl ?_
    refine g_bipush (v := 15) F dL_act_64 (by decide) ?_
    refine g_iand F dL_act_66 ?_
    by_cases hs_67 : 0 ≤ (v &&& 15).toInt ∧ (v &&& 15).toInt ≤ 10
    · obtain ⟨js_67, hj_67, ej_67⟩ := sw_in hs_67.1 hs_67.2 (by decide)
      rcases (show js_67 = 0 ∨ js_67 = 1 ∨ js_67 = 2 ∨ js_67 = 3 ∨ js_67 = 4 ∨ js_67 = 5 ∨ js_67 = 6 ∨ js_67 = 7 ∨ js_67 = 8 ∨ js_67 = 9 ∨ js_67 = 10 by omega) with hq | hq | hq | hq | hq | hq | hq | hq | hq | hq | hq
      · have hs_67_0 : (v &&& 15) = 0 := by rw [ej_67, hq] <;> rfl
        refine g_tableIn (off := 57) F 124 dL_act_67 (by rw [hs_67_0]; decide) (by rw [hs_67_0]; decide) (by rw [hs_67_0]; rfl) (by decide) ?_
        have hA : v &&& 15 = 0 ∨ v &&& 15 = 1 ∨ v &&& 15 = 2 := Or.inl (hs_67_0)
        refine g_aload_n F 1 dL_act_124 rfl rfl ?_
        refine g_iload_n F 4 dL_act_125 rfl rfl ?_
        refine g_iload_n F 3 dL_act_126 rfl rfl ?_
        refine g_bipush (v := 21) F dL_act_127 (by decide) ?_
        refine g_callIs (na := 2) F (c_L_low hj (by decide)) lk_L_31 rfl rfl (by decide +kernel) ⟨rfl, rfl, Nat.le_of_ble_eq_true rfl, Nat.le_of_ble_eq_true rfl, Nat.le_of_ble_eq_true rfl, Nat.le_of_ble_eq_true rfl, Nat.le_of_ble_eq_true rfl⟩ dL_act_129 (fun r_129 u_129 h_129 => ?_)
        obtain ⟨rfl, rfl⟩ := h_129
        try dsimp only
        refine g_iload_n F 3 dL_act_132 rfl rfl ?_
        refine g_iconst (v := 5) F dL_act_133 (by decide) ?_
        refine g_ishr F dL_act_134 ?_
        refine g_iconst (v := 4) F dL_act_135 (by decide) ?_
        refine g_callIs (na := 2) F (c_L_low hj (by decide)) lk_L_31 rfl rfl (by decide +kernel) ⟨rfl, rfl, Nat.le_of_ble_eq_true rfl, Nat.le_of_ble_eq_true rfl, Nat.le_of_ble_eq_true rfl, Nat.le_of_ble_eq_true rfl, Nat.le_of_ble_eq_true rfl⟩ dL_act_136 (fun r_136 u_136 h_136 => ?_)
        obtain ⟨rfl, rfl⟩ := h_136
        try dsimp only
        refine g_iload_n F 3 dL_act_139 rfl rfl ?_
        refine g_bipush (v := 7) F dL_act_140 (by decide) ?_
        refine g_ishr F dL_act_142 ?_
        refine g_sipush (v := 801) F dL_act_143 (by decide) ?_
        refine g_callIs (na := 2) F (c_L_low hj (by decide)) lk_L_31 rfl rfl (by decide +kernel) ⟨rfl, rfl, Nat.le_of_ble_eq_true rfl, Nat.le_of_ble_eq_true rfl, Nat.le_of_ble_eq_true rfl, Nat.le_of_ble_eq_true rfl, Nat.le_of_ble_eq_true rfl⟩ dL_act_146 (fun r_146 u_146 h_146 => ?_)
        obtain ⟨rfl, rfl⟩ := h_146
        try dsimp only
        refine g_callIv (na := 4) F 8 _ (c_X5_loco hj C) (by decide) rfl rfl lk_L_36 rfl rfl (by decide +kernel) ⟨rfl, rfl, Nat.le_of_ble_eq_true rfl, Nat.le_of_ble_eq_true rfl, Nat.le_of_ble_eq_true rfl, Nat.le_of_ble_eq_true rfl, Nat.le_of_ble_eq_true rfl⟩ dL_act_149 (fun r_149 u_149 h_149 => ?_)
        
        refine g_iret F hr hlk rfl dL_act_152 ?_
        obtain ⟨q, hq, hC⟩ := h_149
        exact ⟨q, act_loco hA hq, hC⟩
      · have hs_67_1 : (v &&& 15) = 1 := by rw [ej_67, hq] <;> rfl
        refine g_tableIn (off := 57) F 124 dL_act_67 (by rw [hs_67_1]; decide) (by rw [hs_67_1]; decide) (by rw [hs_67_1]; rfl) (by decide) ?_
        have hA : v &&& 15 = 0 ∨ v &&& 15 = 1 ∨ v &&& 15 = 2 := Or.inr (Or.inl (hs_67_1))
        refine g_aload_n F 1 dL_act_124 rfl rfl ?_
        refine g_iload_n F 4 dL_act_125 rfl rfl ?_
        refine g_iload_n F 3 dL_act_126 rfl rfl ?_
        refine g_bipush (v := 21) F dL_act_127 (by decide) ?_
        refine g_callIs (na := 2) F (c_L_low hj (by decide)) lk_L_31 rfl rfl (by decide +kernel) ⟨rfl, rfl, Nat.le_of_ble_eq_true rfl, Nat.le_of_ble_eq_true rfl, Nat.le_of_ble_eq_true rfl, Nat.le_of_ble_eq_true rfl, Nat.le_of_ble_eq_true rfl⟩ dL_act_129 (fun r_129 u_129 h_129 => ?_)
        obtain ⟨rfl, rfl⟩ := h_129
        try dsimp only
        refine g_iload_n F 3 dL_act_132 rfl rfl ?_
        refine g_iconst (v := 5) F dL_act_133 (by decide) ?_
        refine g_ishr F dL_act_134 ?_
        refine g_iconst (v := 4) F dL_act_135 (by decide) ?_
        refine g_callIs (na := 2) F (c_L_low hj (by decide)) lk_L_31 rfl rfl (by decide +kernel) ⟨rfl, rfl, Nat.le_of_ble_eq_true rfl, Nat.le_of_ble_eq_true rfl, Nat.le_of_ble_eq_true rfl, Nat.le_of_ble_eq_true rfl, Nat.le_of_ble_eq_true rfl⟩ dL_act_136 (fun r_136 u_136 h_136 => ?_)
        obtain ⟨rfl, rfl⟩ := h_136
        try dsimp only
        refine g_iload_n F 3 dL_act_139 rfl rfl ?_
        refine g_bipush (v := 7) F dL_act_140 (by decide) ?_
        refine g_ishr F dL_act_142 ?_
        refine g_sipush (v := 801) F dL_act_143 (by decide) ?_
        refine g_callIs (na := 2) F (c_L_low hj (by decide)) lk_L_31 rfl rfl (by decide +kernel) ⟨rfl, rfl, Nat.le_of_ble_eq_true rfl, Nat.le_of_ble_eq_true rfl, Nat.le_of_ble_eq_true rfl, Nat.le_of_ble_eq_true rfl, Nat.le_of_ble_eq_true rfl⟩ dL_act_146 (fun r_146 u_146 h_146 => ?_)
        obtain ⟨rfl, rfl⟩ := h_146
        try dsimp only
        refine g_callIv (na := 4) F 8 _ (c_X5_loco hj C) (by decide) rfl rfl lk_L_36 rfl rfl (by decide +kernel) ⟨rfl, rfl, Nat.le_of_ble_eq_true rfl, Nat.le_of_ble_eq_true rfl, Nat.le_of_ble_eq_true rfl, Nat.le_of_ble_eq_true rfl, Nat.le_of_ble_eq_true rfl⟩ dL_act_149 (fun r_149 u_149 h_149 => ?_)
        
        refine g_iret F hr hlk rfl dL_act_152 ?_
        obtain ⟨q, hq, hC⟩ := h_149
        exact ⟨q, act_loco hA hq, hC⟩
      · have hs_67_2 : (v &&& 15) = 2 := by rw [ej_67, hq] <;> rfl
        refine g_tableIn (off := 57) F 124 dL_act_67 (by rw [hs_67_2]; decide) (by rw [hs_67_2]; decide) (by rw [hs_67_2]; rfl) (by decide) ?_
        have hA : v &&& 15 = 0 ∨ v &&& 15 = 1 ∨ v &&& 15 = 2 := Or.inr (Or.inr (hs_67_2))
        refine g_aload_n F 1 dL_act_124 rfl rfl ?_
        refine g_iload_n F 4 dL_act_125 rfl rfl ?_
        refine g_iload_n F 3 dL_act_126 rfl rfl ?_
        refine g_bipush (v := 21) F dL_act_127 (by decide) ?_
        refine g_callIs (na := 2) F (c_L_low hj (by decide)) lk_L_31 rfl rfl (by decide +kernel) ⟨rfl, rfl, Nat.le_of_ble_eq_true rfl, Nat.le_of_ble_eq_true rfl, Nat.le_of_ble_eq_true rfl, Nat.le_of_ble_eq_true rfl, Nat.le_of_ble_eq_true rfl⟩ dL_act_129 (fun r_129 u_129 h_129 => ?_)
        obtain ⟨rfl, rfl⟩ := h_129
        try dsimp only
        refine g_iload_n F 3 dL_act_132 rfl rfl ?_
        refine g_iconst (v := 5) F dL_act_133 (by decide) ?_
        refine g_ishr F dL_act_134 ?_
        refine g_iconst (v := 4) F dL_act_135 (by decide) ?_
        refine g_callIs (na := 2) F (c_L_low hj (by decide)) lk_L_31 rfl rfl (by decide +kernel) ⟨rfl, rfl, Nat.le_of_ble_eq_true rfl, Nat.le_of_ble_eq_true rfl, Nat.le_of_ble_eq_true rfl, Nat.le_of_ble_eq_true rfl, Nat.le_of_ble_eq_true rfl⟩ dL_act_136 (fun r_136 u_136 h_136 => ?_)
        obtain ⟨rfl, rfl⟩ := h_136
        try dsimp only
        refine g_iload_n F 3 dL_act_139 rfl rfl ?_
        refine g_bipush (v := 7) F dL_act_140 (by decide) ?_
        refine g_ishr F dL_act_142 ?_
        refine g_sipush (v := 801) F dL_act_143 (by decide) ?_
        refine g_callIs (na := 2) F (c_L_low hj (by decide)) lk_L_31 rfl rfl (by decide +kernel) ⟨rfl, rfl, Nat.le_of_ble_eq_true rfl, Nat.le_of_ble_eq_true rfl, Nat.le_of_ble_eq_true rfl, Nat.le_of_ble_eq_true rfl, Nat.le_of_ble_eq_true rfl⟩ dL_act_146 (fun r_146 u_146 h_146 => ?_)
        obtain ⟨rfl, rfl⟩ := h_146
        try dsimp only
        refine g_callIv (na := 4) F 8 _ (c_X5_loco hj C) (by decide) rfl rfl lk_L_36 rfl rfl (by decide +kernel) ⟨rfl, rfl, Nat.le_of_ble_eq_true rfl, Nat.le_of_ble_eq_true rfl, Nat.le_of_ble_eq_true rfl, Nat.le_of_ble_eq_true rfl, Nat.le_of_ble_eq_true rfl⟩ dL_act_149 (fun r_149 u_149 h_149 => ?_)
        
        refine g_iret F hr hlk rfl dL_act_152 ?_
        obtain ⟨q, hq, hC⟩ := h_149
        exact ⟨q, act_loco hA hq, hC⟩
      · have hs_67_3 : (v &&& 15) = 3 := by rw [ej_67, hq] <;> rfl
        refine g_tableIn (off := 86) F 153 dL_act_67 (by rw [hs_67_3]; decide) (by rw [hs_67_3]; decide) (by rw [hs_67_3]; rfl) (by decide) ?_
        have hA : v &&& 15 = 3 := hs_67_3
        refine g_iload_n F 3 dL_act_153 rfl rfl ?_
        refine g_iconst (v := 3) F dL_act_154 (by decide) ?_
        refine g_iand F dL_act_155 ?_
        refine g_if_ne F 167 dL_act_156 (by decide) (fun c_156 => ?_) (fun c_156 => ?_)
        · refine g_aload_n F 1 dL_act_167 rfl rfl ?_
          refine g_iload_n F 3 dL_act_168 rfl rfl ?_
          refine g_iconst (v := 2) F dL_act_169 (by decide) ?_
          refine g_ishr F dL_act_170 ?_
          refine g_bipush (v := 11) F dL_act_171 (by decide) ?_
          refine g_callIs (na := 2) F (c_L_low hj (by decide)) lk_L_31 rfl rfl (by decide +kernel) ⟨rfl, rfl, Nat.le_of_ble_eq_true rfl, Nat.le_of_ble_eq_true rfl, Nat.le_of_ble_eq_true rfl, Nat.le_of_ble_eq_true rfl, Nat.le_of_ble_eq_true rfl⟩ dL_act_173 (fun r_173 u_173 h_173 => ?_)
          obtain ⟨rfl, rfl⟩ := h_173
          try dsimp only
          refine g_callIv (na := 1) F 8 _ (c_X5_noise hj C) (by decide) rfl rfl lk_L_43 rfl rfl (by decide +kernel) ⟨rfl, rfl, Nat.le_of_ble_eq_true rfl, Nat.le_of_ble_eq_true rfl, Nat.le_of_ble_eq_true rfl, Nat.le_of_ble_eq_true rfl, Nat.le_of_ble_eq_true rfl⟩ dL_act_176 (fun r_176 u_176 h_176 => ?_)
          
          refine g_iret F hr hlk rfl dL_act_179 ?_
          first
          | (obtain ⟨q, hq, hC⟩ := h_161; exact ⟨q, act_3 hA (by rw [if_pos c_156]; exact hq), hC⟩)
          | (obtain ⟨q, hq, hC⟩ := h_176; exact ⟨q, act_3 hA (by rw [if_neg c_156]; exact hq), hC⟩)
        · refine g_aload_n F 1 dL_act_159 rfl rfl ?_
          refine g_iload_n F 4 dL_act_160 rfl rfl ?_
          refine g_callIv (na := 1) F 8 _ (c_X5_lift hj C) (by decide) rfl rfl lk_L_40 rfl rfl (by decide +kernel) ⟨rfl, rfl, Nat.le_of_ble_eq_true rfl, Nat.le_of_ble_eq_true rfl, Nat.le_of_ble_eq_true rfl, Nat.le_of_ble_eq_true rfl, Nat.le_of_ble_eq_true rfl⟩ dL_act_161 (fun r_161 u_161 h_161 => ?_)
          
          refine g_goto F 179 dL_act_164 (by decide) ?_
          refine g_iret F hr hlk rfl dL_act_179 ?_
          first
          | (obtain ⟨q, hq, hC⟩ := h_161; exact ⟨q, act_3 hA (by rw [if_pos c_156]; exact hq), hC⟩)
          | (obtain ⟨q, hq, hC⟩ := h_176; exact ⟨q, act_3 hA (by rw [if_neg c_156]; exact hq), hC⟩)
      · have hs_67_4 : (v &&& 15) = 4 := by rw [ej_67, hq] <;> rfl
        refine g_tableIn (off := 113) F 180 dL_act_67 (by rw [hs_67_4]; decide) (by rw [hs_67_4]; decide) (by rw [hs_67_4]; rfl) (by decide) ?_
        have hA : v &&& 15 = 4 ∨ v &&& 15 = 5 ∨ v &&& 15 = 6 := Or.inl (hs_67_4)
        refine g_aload_n F 1 dL_act_180 rfl rfl ?_
        refine g_iload_n F 4 dL_act_181 rfl rfl ?_
        refine g_iload F 0 dL_act_182 rfl ?_
        refine g_iload_n F 3 dL_act_184 rfl rfl ?_
        refine g_bipush (v := 20) F dL_act_185 (by decide) ?_
        refine g_ishr F dL_act_187 ?_
        refine g_iconst (v := 4) F dL_act_188 (by decide) ?_
        refine g_callIs (na := 2) F (c_L_low hj (by decide)) lk_L_31 rfl rfl (by decide +kernel) ⟨rfl, rfl, Nat.le_of_ble_eq_true rfl, Nat.le_of_ble_eq_true rfl, Nat.le_of_ble_eq_true rfl, Nat.le_of_ble_eq_true rfl, Nat.le_of_ble_eq_true rfl⟩ dL_act_189 (fun r_189 u_189 h_189 => ?_)
        obtain ⟨rfl, rfl⟩ := h_189
        try dsimp only
        refine g_callIv (na := 3) F 8 _ (c_X5_order hj C) (by decide) rfl rfl lk_L_46 rfl rfl (by decide +kernel) ⟨rfl, rfl, Nat.le_of_ble_eq_true rfl, Nat.le_of_ble_eq_true rfl, Nat.le_of_ble_eq_true rfl, Nat.le_of_ble_eq_true rfl, Nat.le_of_ble_eq_true rfl⟩ dL_act_192 (fun r_192 u_192 h_192 => ?_)
        
        refine g_iret F hr hlk rfl dL_act_195 ?_
        obtain ⟨q, hq, hC⟩ := h_192
        exact ⟨q, act_order hA hq, hC⟩
      · have hs_67_5 : (v &&& 15) = 5 := by rw [ej_67, hq] <;> rfl
        refine g_tableIn (off := 113) F 180 dL_act_67 (by rw [hs_67_5]; decide) (by rw [hs_67_5]; decide) (by rw [hs_67_5]; rfl) (by decide) ?_
        have hA : v &&& 15 = 4 ∨ v &&& 15 = 5 ∨ v &&& 15 = 6 := Or.inr (Or.inl (hs_67_5))
        refine g_aload_n F 1 dL_act_180 rfl rfl ?_
        refine g_iload_n F 4 dL_act_181 rfl rfl ?_
        refine g_iload F 0 dL_act_182 rfl ?_
        refine g_iload_n F 3 dL_act_184 rfl rfl ?_
        refine g_bipush (v := 20) F dL_act_185 (by decide) ?_
        refine g_ishr F dL_act_187 ?_
        refine g_iconst (v := 4) F dL_act_188 (by decide) ?_
        refine g_callIs (na := 2) F (c_L_low hj (by decide)) lk_L_31 rfl rfl (by decide +kernel) ⟨rfl, rfl, Nat.le_of_ble_eq_true rfl, Nat.le_of_ble_eq_true rfl, Nat.le_of_ble_eq_true rfl, Nat.le_of_ble_eq_true rfl, Nat.le_of_ble_eq_true rfl⟩ dL_act_189 (fun r_189 u_189 h_189 => ?_)
        obtain ⟨rfl, rfl⟩ := h_189
        try dsimp only
        refine g_callIv (na := 3) F 8 _ (c_X5_order hj C) (by decide) rfl rfl lk_L_46 rfl rfl (by decide +kernel) ⟨rfl, rfl, Nat.le_of_ble_eq_true rfl, Nat.le_of_ble_eq_true rfl, Nat.le_of_ble_eq_true rfl, Nat.le_of_ble_eq_true rfl, Nat.le_of_ble_eq_true rfl⟩ dL_act_192 (fun r_192 u_192 h_192 => ?_)
        
        refine g_iret F hr hlk rfl dL_act_195 ?_
        obtain ⟨q, hq, hC⟩ := h_192
        exact ⟨q, act_order hA hq, hC⟩
      · have hs_67_6 : (v &&& 15) = 6 := by rw [ej_67, hq] <;> rfl
        refine g_tableIn (off := 113) F 180 dL_act_67 (by rw [hs_67_6]; decide) (by rw [hs_67_6]; decide) (by rw [hs_67_6]; rfl) (by decide) ?_
        have hA : v &&& 15 = 4 ∨ v &&& 15 = 5 ∨ v &&& 15 = 6 := Or.inr (Or.inr (hs_67_6))
        refine g_aload_n F 1 dL_act_180 rfl rfl ?_
        refine g_iload_n F 4 dL_act_181 rfl rfl ?_
        refine g_iload F 0 dL_act_182 rfl ?_
        refine g_iload_n F 3 dL_act_184 rfl rfl ?_
        refine g_bipush (v := 20) F dL_act_185 (by decide) ?_
        refine g_ishr F dL_act_187 ?_
        refine g_iconst (v := 4) F dL_act_188 (by decide) ?_
        refine g_callIs (na := 2) F (c_L_low hj (by decide)) lk_L_31 rfl rfl (by decide +kernel) ⟨rfl, rfl, Nat.le_of_ble_eq_true rfl, Nat.le_of_ble_eq_true rfl, Nat.le_of_ble_eq_true rfl, Nat.le_of_ble_eq_true rfl, Nat.le_of_ble_eq_true rfl⟩ dL_act_189 (fun r_189 u_189 h_189 => ?_)
        obtain ⟨rfl, rfl⟩ := h_189
        try dsimp only
        refine g_callIv (na := 3) F 8 _ (c_X5_order hj C) (by decide) rfl rfl lk_L_46 rfl rfl (by decide +kernel) ⟨rfl, rfl, Nat.le_of_ble_eq_true rfl, Nat.le_of_ble_eq_true rfl, Nat.le_of_ble_eq_true rfl, Nat.le_of_ble_eq_true rfl, Nat.le_of_ble_eq_true rfl⟩ dL_act_192 (fun r_192 u_192 h_192 => ?_)
        
        refine g_iret F hr hlk rfl dL_act_195 ?_
        obtain ⟨q, hq, hC⟩ := h_192
        exact ⟨q, act_order hA hq, hC⟩
      · have hs_67_7 : (v &&& 15) = 7 := by rw [ej_67, hq] <;> rfl
        refine g_tableIn (off := 129) F 196 dL_act_67 (by rw [hs_67_7]; decide) (by rw [hs_67_7]; decide) (by rw [hs_67_7]; rfl) (by decide) ?_
        have hA : v &&& 15 = 7 ∨ v &&& 15 = 8 := Or.inl (hs_67_7)
        refine g_aload_n F 1 dL_act_196 rfl rfl ?_
        refine g_iload_n F 4 dL_act_197 rfl rfl ?_
        refine g_iload F 0 dL_act_198 rfl ?_
        refine g_iload_n F 3 dL_act_200 rfl rfl ?_
        refine g_bipush (v := 20) F dL_act_201 (by decide) ?_
        refine g_ishr F dL_act_203 ?_
        refine g_iconst (v := 3) F dL_act_204 (by decide) ?_
        refine g_iand F dL_act_205 ?_
        refine g_if_ne F 221 dL_act_206 (by decide) (fun c_206 => ?_) (fun c_206 => ?_)
        · refine g_iload_n F 4 dL_act_221 rfl rfl ?_
          refine g_iload F 0 dL_act_222 rfl ?_
          refine g_ixor F dL_act_224 ?_
          refine g_sipush (v := 255) F dL_act_225 (by decide) ?_
          refine g_iand F dL_act_228 ?_
          refine g_callIv (na := 3) F 8 _ (c_X5_frame hj C) (by decide) rfl rfl lk_L_50 rfl rfl (by decide +kernel) ⟨rfl, rfl, Nat.le_of_ble_eq_true rfl, Nat.le_of_ble_eq_true rfl, Nat.le_of_ble_eq_true rfl, Nat.le_of_ble_eq_true rfl, Nat.le_of_ble_eq_true rfl⟩ dL_act_229 (fun r_229 u_229 h_229 => ?_)
          
          refine g_iret F hr hlk rfl dL_act_232 ?_
          obtain ⟨q, hq, hC⟩ := h_229
          first
          | exact ⟨q, act_frame hA (by unfold ckF; rw [if_pos c_206]; exact hq), hC⟩
          | exact ⟨q, act_frame hA (by unfold ckF; rw [if_neg c_206]; exact hq), hC⟩
        · refine g_iload_n F 3 dL_act_209 rfl rfl ?_
          refine g_iconst (v := 3) F dL_act_210 (by decide) ?_
          refine g_ishr F dL_act_211 ?_
          refine g_sipush (v := 256) F dL_act_212 (by decide) ?_
          refine g_callIs (na := 2) F (c_L_low hj (by decide)) lk_L_31 rfl rfl (by decide +kernel) ⟨rfl, rfl, Nat.le_of_ble_eq_true rfl, Nat.le_of_ble_eq_true rfl, Nat.le_of_ble_eq_true rfl, Nat.le_of_ble_eq_true rfl, Nat.le_of_ble_eq_true rfl⟩ dL_act_215 (fun r_215 u_215 h_215 => ?_)
          obtain ⟨rfl, rfl⟩ := h_215
          try dsimp only
          refine g_goto F 229 dL_act_218 (by decide) ?_
          refine g_callIv (na := 3) F 8 _ (c_X5_frame hj C) (by decide) rfl rfl lk_L_50 rfl rfl (by decide +kernel) ⟨rfl, rfl, Nat.le_of_ble_eq_true rfl, Nat.le_of_ble_eq_true rfl, Nat.le_of_ble_eq_true rfl, Nat.le_of_ble_eq_true rfl, Nat.le_of_ble_eq_true rfl⟩ dL_act_229 (fun r_229 u_229 h_229 => ?_)
          
          refine g_iret F hr hlk rfl dL_act_232 ?_
          obtain ⟨q, hq, hC⟩ := h_229
          first
          | exact ⟨q, act_frame hA (by unfold ckF; rw [if_pos c_206]; exact hq), hC⟩
          | exact ⟨q, act_frame hA (by unfold ckF; rw [if_neg c_206]; exact hq), hC⟩
      · have hs_67_8 : (v &&& 15) = 8 := by rw [ej_67, hq] <;> rfl
        refine g_tableIn (off := 129) F 196 dL_act_67 (by rw [hs_67_8]; decide) (by rw [hs_67_8]; decide) (by rw [hs_67_8]; rfl) (by decide) ?_
        have hA : v &&& 15 = 7 ∨ v &&& 15 = 8 := Or.inr (hs_67_8)
        refine g_aload_n F 1 dL_act_196 rfl rfl ?_
        refine g_iload_n F 4 dL_act_197 rfl rfl ?_
        refine g_iload F 0 dL_act_198 rfl ?_
        refine g_iload_n F 3 dL_act_200 rfl rfl ?_
        refine g_bipush (v := 20) F dL_act_201 (by decide) ?_
        refine g_ishr F dL_act_203 ?_
        refine g_iconst (v := 3) F dL_act_204 (by decide) ?_
        refine g_iand F dL_act_205 ?_
        refine g_if_ne F 221 dL_act_206 (by decide) (fun c_206 => ?_) (fun c_206 => ?_)
        · refine g_iload_n F 4 dL_act_221 rfl rfl ?_
          refine g_iload F 0 dL_act_222 rfl ?_
          refine g_ixor F dL_act_224 ?_
          refine g_sipush (v := 255) F dL_act_225 (by decide) ?_
          refine g_iand F dL_act_228 ?_
          refine g_callIv (na := 3) F 8 _ (c_X5_frame hj C) (by decide) rfl rfl lk_L_50 rfl rfl (by decide +kernel) ⟨rfl, rfl, Nat.le_of_ble_eq_true rfl, Nat.le_of_ble_eq_true rfl, Nat.le_of_ble_eq_true rfl, Nat.le_of_ble_eq_true rfl, Nat.le_of_ble_eq_true rfl⟩ dL_act_229 (fun r_229 u_229 h_229 => ?_)
          
          refine g_iret F hr hlk rfl dL_act_232 ?_
          obtain ⟨q, hq, hC⟩ := h_229
          first
          | exact ⟨q, act_frame hA (by unfold ckF; rw [if_pos c_206]; exact hq), hC⟩
          | exact ⟨q, act_frame hA (by unfold ckF; rw [if_neg c_206]; exact hq), hC⟩
        · refine g_iload_n F 3 dL_act_209 rfl rfl ?_
          refine g_iconst (v := 3) F dL_act_210 (by decide) ?_
          refine g_ishr F dL_act_211 ?_
          refine g_sipush (v := 256) F dL_act_212 (by decide) ?_
          refine g_callIs (na := 2) F (c_L_low hj (by decide)) lk_L_31 rfl rfl (by decide +kernel) ⟨rfl, rfl, Nat.le_of_ble_eq_true rfl, Nat.le_of_ble_eq_true rfl, Nat.le_of_ble_eq_true rfl, Nat.le_of_ble_eq_true rfl, Nat.le_of_ble_eq_true rfl⟩ dL_act_215 (fun r_215 u_215 h_215 => ?_)
          obtain ⟨rfl, rfl⟩ := h_215
          try dsimp only
          refine g_goto F 229 dL_act_218 (by decide) ?_
          refine g_callIv (na := 3) F 8 _ (c_X5_frame hj C) (by decide) rfl rfl lk_L_50 rfl rfl (by decide +kernel) ⟨rfl, rfl, Nat.le_of_ble_eq_true rfl, Nat.le_of_ble_eq_true rfl, Nat.le_of_ble_eq_true rfl, Nat.le_of_ble_eq_true rfl, Nat.le_of_ble_eq_true rfl⟩ dL_act_229 (fun r_229 u_229 h_229 => ?_)
          
          refine g_iret F hr hlk rfl dL_act_232 ?_
          obtain ⟨q, hq, hC⟩ := h_229
          first
          | exact ⟨q, act_frame hA (by unfold ckF; rw [if_pos c_206]; exact hq), hC⟩
          | exact ⟨q, act_frame hA (by unfold ckF; rw [if_neg c_206]; exact hq), hC⟩
      · have hs_67_9 : (v &&& 15) = 9 := by rw [ej_67, hq] <;> rfl
        refine g_tableIn (off := 166) F 233 dL_act_67 (by rw [hs_67_9]; decide) (by rw [hs_67_9]; decide) (by rw [hs_67_9]; rfl) (by decide) ?_
        have hA : v &&& 15 = 9 := hs_67_9
        refine g_aload_n F 1 dL_act_233 rfl rfl ?_
        refine g_iload_n F 3 dL_act_234 rfl rfl ?_
        refine g_bipush (v := 9) F dL_act_235 (by decide) ?_
        refine g_callIs (na := 2) F (c_L_low hj (by decide)) lk_L_31 rfl rfl (by decide +kernel) ⟨rfl, rfl, Nat.le_of_ble_eq_true rfl, Nat.le_of_ble_eq_true rfl, Nat.le_of_ble_eq_true rfl, Nat.le_of_ble_eq_true rfl, Nat.le_of_ble_eq_true rfl⟩ dL_act_237 (fun r_237 u_237 h_237 => ?_)
        obtain ⟨rfl, rfl⟩ := h_237
        try dsimp only
        refine g_iload_n F 3 dL_act_240 rfl rfl ?_
        refine g_iconst (v := 4) F dL_act_241 (by decide) ?_
        refine g_ishr F dL_act_242 ?_
        refine g_bipush (v := 20) F dL_act_243 (by decide) ?_
        refine g_callIs (na := 2) F (c_L_low hj (by decide)) lk_L_31 rfl rfl (by decide +kernel) ⟨rfl, rfl, Nat.le_of_ble_eq_true rfl, Nat.le_of_ble_eq_true rfl, Nat.le_of_ble_eq_true rfl, Nat.le_of_ble_eq_true rfl, Nat.le_of_ble_eq_true rfl⟩ dL_act_245 (fun r_245 u_245 h_245 => ?_)
        obtain ⟨rfl, rfl⟩ := h_245
        try dsimp only
        refine g_callIv (na := 2) F 8 _ (c_X5_shorts hj C) (by decide) rfl rfl lk_L_53 rfl rfl (by decide +kernel) ⟨rfl, rfl, Nat.le_of_ble_eq_true rfl, Nat.le_of_ble_eq_true rfl, Nat.le_of_ble_eq_true rfl, Nat.le_of_ble_eq_true rfl, Nat.le_of_ble_eq_true rfl⟩ dL_act_248 (fun r_248 u_248 h_248 => ?_)
        
        refine g_iret F hr hlk rfl dL_act_251 ?_
        obtain ⟨q, hq, hC⟩ := h_248
        exact ⟨q, act_shorts hA hq, hC⟩
      · have hs_67_10 : (v &&& 15) = 10 := by rw [ej_67, hq] <;> rfl
        refine g_tableIn (off := 185) F 252 dL_act_67 (by rw [hs_67_10]; decide) (by rw [hs_67_10]; decide) (by rw [hs_67_10]; rfl) (by decide) ?_
        have hA : v &&& 15 = 10 := hs_67_10
        refine g_aload_n F 1 dL_act_252 rfl rfl ?_
        refine g_iload_n F 3 dL_act_253 rfl rfl ?_
        refine g_iconst (v := 1) F dL_act_254 (by decide) ?_
        refine g_iand F dL_act_255 ?_
        refine g_callIv (na := 1) F 8 _ (c_X5_restore hj C) (by decide) rfl rfl lk_L_56 rfl rfl (by decide +kernel) ⟨rfl, rfl, Nat.le_of_ble_eq_true rfl, Nat.le_of_ble_eq_true rfl, Nat.le_of_ble_eq_true rfl, Nat.le_of_ble_eq_true rfl, Nat.le_of_ble_eq_true rfl⟩ dL_act_256 (fun r_256 u_256 h_256 => ?_)
        
        refine g_iret F hr hlk rfl dL_act_259 ?_
        rcases and1 w with e1 | e1
        · rw [e1] at h_256
          rcases h_256 with ⟨a, -, -⟩ | ⟨-, a, -, -⟩ | ⟨-, -, a, b, f⟩
          · exact absurd (by decide) a
          · exact absurd (h0.symm.trans a) (by decide)
          · exact ⟨(sl 0 6, sl 0), act_restore hA (Or.inl ⟨e1, rfl⟩), a, Or.inr ⟨hs0, b⟩, f⟩
        · rw [e1] at h_256
          rcases h_256 with ⟨a, -, -⟩ | ⟨-, -, a, rfl⟩ | ⟨-, a, -⟩
          · exact absurd (by decide) a
          · exact ⟨(-5, σ), act_restore hA (Or.inr ⟨e1, rfl⟩), a, Or.inl ⟨by show (-5 : Int32) < 0; decide, C⟩, FC.rf⟩
          · exact absurd (h1.symm.trans a) (by decide)
    · refine g_tableOut F 260 dL_act_67 (by omega) (by decide) ?_
      refine g_aload_n F 1 dL_act_260 rfl rfl ?_
      refine g_iload_n F 3 dL_act_261 rfl rfl ?_
      refine g_iload_n F 3 dL_act_262 rfl rfl ?_
      refine g_bipush (v := 8) F dL_act_263 (by decide) ?_
      refine g_ishr F dL_act_265 ?_
      refine g_iconst (v := 3) F dL_act_266 (by decide) ?_
      refine g_iand F dL_act_267 ?_
      refine g_tif_ne (12) (101) 278 (fun kt kf => ?_) ?_
      · refine g_if_ne F 276 dL_act_268 (by decide) (fun q => ?_) (fun q => ?_)
        · refine g_bipush (v := 12) F dL_act_276 (by decide) ?_
          exact kt q
        · refine g_bipush (v := 101) F dL_act_271 (by decide) ?_
          refine g_goto F 278 dL_act_273 (by decide) ?_
          exact kf (by first | exact q | exact not_not_intro q)
      refine g_callIs (na := 2) F (c_L_low hj lowN2) lk_L_31 rfl rfl (by decide +kernel) ⟨rfl, rfl, Nat.le_of_ble_eq_true rfl, Nat.le_of_ble_eq_true rfl, Nat.le_of_ble_eq_true rfl, Nat.le_of_ble_eq_true rfl, Nat.le_of_ble_eq_true rfl⟩ dL_act_278 (fun r_278 u_278 h_278 => ?_)
      obtain ⟨rfl, rfl⟩ := h_278
      try dsimp only
      refine g_callIv (na := 1) F 8 _ (c_X5_pass hj C) (by decide) rfl rfl lk_L_59 rfl rfl (by decide +kernel) ⟨rfl, rfl, Nat.le_of_ble_eq_true rfl, Nat.le_of_ble_eq_true rfl, Nat.le_of_ble_eq_true rfl, Nat.le_of_ble_eq_true rfl, Nat.le_of_ble_eq_true rfl⟩ dL_act_281 (fun r_281 u_281 h_281 => ?_)
      
      refine g_iret F hr hlk rfl dL_act_284 ?_
      obtain ⟨q, hq, hC⟩ := h_281
      exact ⟨q, act_pass hs_67 hq, hC⟩
  refine g_iload_n F 1 dL_act_0 rfl rfl ?_
  refine g_iconst (v := 4) F dL_act_1 (by decide) ?_
  refine g_ishr F dL_act_2 ?_
  refine g_iload_n F 1 dL_act_3 rfl rfl ?_
  refine g_bipush (v := 20) F dL_act_4 (by decide) ?_
  refine g_ishr F dL_act_6 ?_
  refine g_bipush (v := 7) F dL_act_7 (by decide) ?_
  refine g_iand F dL_act_9 ?_
  refine g_tif_ne (9) (101) 20 (fun kt kf => ?_) ?_
  · refine g_if_ne F 18 dL_act_10 (by decide) (fun q => ?_) (fun q => ?_)
    · refine g_bipush (v := 9) F dL_act_18 (by decide) ?_
      exact kt q
    · refine g_bipush (v := 101) F dL_act_13 (by decide) ?_
      refine g_goto F 20 dL_act_15 (by decide) ?_
      exact kf (by first | exact q | exact not_not_intro q)
  refine g_callIs (na := 2) F (c_L_low hj lowN1) lk_L_31 rfl rfl (by decide +kernel) ⟨rfl, rfl, Nat.le_of_ble_eq_true rfl, Nat.le_of_ble_eq_true rfl, Nat.le_of_ble_eq_true rfl, Nat.le_of_ble_eq_true rfl, Nat.le_of_ble_eq_true rfl⟩ dL_act_20 (fun r_20 u_20 h_20 => ?_)
  obtain ⟨rfl, rfl⟩ := h_20
  try dsimp only
  refine g_topi (fun x3_23 ex3_23 => ?_)
  refine g_istore_n (L' := [(3, _), (0, _), (1, _), (2, _)]) F dL_act_23 rfl (by decide) rfl ?_
  refine g_iload_n F 3 dL_act_24 rfl rfl ?_
  refine g_iconst (v := 3) F dL_act_25 (by decide) ?_
  refine g_iand F dL_act_26 ?_
  refine g_if_le F 52 dL_act_27 (by decide) (fun c_27 => ?_) (fun c_27 => ?_)
  · refine g_iload_n F 3 dL_act_52 rfl rfl ?_
    refine g_iconst (v := 2) F dL_act_53 (by decide) ?_
    refine g_ishr F dL_act_54 ?_
    refine g_sipush (v := 258) F dL_act_55 (by decide) ?_
    refine g_callIs (na := 2) F (c_L_low hj (by decide)) lk_L_31 rfl rfl (by decide +kernel) ⟨rfl, rfl, Nat.le_of_ble_eq_true rfl, Nat.le_of_ble_eq_true rfl, Nat.le_of_ble_eq_true rfl, Nat.le_of_ble_eq_true rfl, Nat.le_of_ble_eq_true rfl⟩ dL_act_58 (fun r_58 u_58 h_58 => ?_)
    obtain ⟨rfl, rfl⟩ := h_58
    try dsimp only
    refine g_sub [1, 2, 3, 0] rfl ?_
    first
    | exact SW _ (by rw [ex3_23]; rfl) _ (by unfold dtF; rw [if_pos (Int32.not_le.mp c_27)])
    | exact SW _ (by rw [ex3_23]; rfl) _ (by unfold dtF; rw [if_neg (Int32.not_lt.mpr c_27)])
  · refine g_iload_n F 3 dL_act_30 rfl rfl ?_
    refine g_iconst (v := 2) F dL_act_31 (by decide) ?_
    refine g_ishr F dL_act_32 ?_
    refine g_bipush (v := 29) F dL_act_33 (by decide) ?_
    refine g_callIs (na := 2) F (c_L_low hj (by decide)) lk_L_31 rfl rfl (by decide +kernel) ⟨rfl, rfl, Nat.le_of_ble_eq_true rfl, Nat.le_of_ble_eq_true rfl, Nat.le_of_ble_eq_true rfl, Nat.le_of_ble_eq_true rfl, Nat.le_of_ble_eq_true rfl⟩ dL_act_35 (fun r_35 u_35 h_35 => ?_)
    obtain ⟨rfl, rfl⟩ := h_35
    try dsimp only
    refine g_sipush (v := 128) F dL_act_38 (by decide) ?_
    refine g_iload_n F 3 dL_act_41 rfl rfl ?_
    refine g_bipush (v := 8) F dL_act_42 (by decide) ?_
    refine g_ishr F dL_act_44 ?_
    refine g_iconst (v := 1) F dL_act_45 (by decide) ?_
    refine g_iand F dL_act_46 ?_
    refine g_imul F dL_act_47 ?_
    refine g_iadd F dL_act_48 ?_
    refine g_goto F 61 dL_act_49 (by decide) ?_
    refine g_sub [1, 2, 3, 0] rfl ?_
    first
    | exact SW _ (by rw [ex3_23]; rfl) _ (by unfold dtF; rw [if_pos (Int32.not_le.mp c_27)])
    | exact SW _ (by rw [ex3_23]; rfl) _ (by unfold dtF; rw [if_neg (Int32.not_lt.mpr c_27)])
