/-! PART 39: the reference: an order is read -/
def TD (I : Ii) (mm pl : Nat) (pad : Sg) (p : Nat) : Prop := I 23 0 (4 * mm) = sgT pl pad p ∧
  (sgT pl pad p = 111 → I 23 0 (4 * mm + 1) = nmV pl pad (p + 1) ∧ I 23 0 (4 * mm + 2) = nmV pl pad (p2T pl pad p) ∧ I 23 0 (4 * mm + 3) = sgT pl pad (p3T pl pad p) - 48) ∧
  (sgT pl pad p = 102 → I 23 0 (4 * mm + 1) = nmV pl pad (p + 1) ∧ I 23 0 (4 * mm + 2) = nmV pl pad (p2T pl pad p) ∧ I 23 0 (4 * mm + 3) = nmV pl pad (p3T pl pad p)) ∧
  (sgT pl pad p = 115 → I 23 0 (4 * mm + 1) = sgT pl pad (p + 1) - 48 ∧ I 23 0 (4 * mm + 2) = nmV pl pad (p + 3)) ∧
  (sgT pl pad p = 116 → I 23 0 (4 * mm + 1) = nmV pl pad (p + 1))
def FRm (I I' : Ii) (mm : Nat) : Prop := ∀ K i c, ¬ (K = 16 ∧ (c = 9 ∨ c = 10 ∨ c = 12)) → ¬ (K = 23 ∧ 4 * mm ≤ c) → I' K i c = I K i c
theorem FRm.w {I I1 I2 : Ii} {mm : Nat} (h1 : FRm I I1 mm) (h2 : FW I1 I2) : FRm I I2 mm := fun K i c h h' => (h2 K i c (fun e => h ⟨e.1, by omega⟩)).trans (h1 K i c h h')
theorem FRm.s {I I1 : Ii} {mm j : Nat} {v : Int32} (h1 : FRm I I1 mm) (hj : 4 * mm ≤ j) : FRm I (up3 I1 23 0 j v) mm := fun K i c h h' => (up3_n (fun e => h' ⟨e.1, by omega⟩)).trans (h1 K i c h h')
theorem FRm.rf {I : Ii} {mm : Nat} : FRm I I mm := fun _ _ _ _ _ => rfl
theorem MWr.told {I : Ii} {pl : Nat} {pad : Sg} {w : Bool × Nat} {j : Nat} {v : Int32} (W : MWr I pl pad w) : MWr (up3 I 23 0 j v) pl pad w := ⟨⟨(up3_k (by decide)).trans W.1.1, W.1.2.1, fun i hi => (up3_k (by decide)).trans (W.1.2.2 i hi)⟩, (up3_k (by decide)).trans W.2.1, (up3_k (by decide)).trans W.2.2.1, W.2.2.2⟩
theorem MWr.many {I : Ii} {pl : Nat} {pad : Sg} {w : Bool × Nat} {v : Int32} (W : MWr I pl pad w) : MWr (up3 I 16 0 12 v) pl pad w := ⟨⟨(up3_n (by decide)).trans W.1.1, W.1.2.1, fun i hi => (up3_k (by decide)).trans (W.1.2.2 i hi)⟩, (up3_n (by decide)).trans W.2.1, (up3_n (by decide)).trans W.2.2.1, W.2.2.2⟩
theorem FRm.many {I I1 : Ii} {mm : Nat} {v : Int32} (h1 : FRm I I1 mm) : FRm I (up3 I1 16 0 12 v) mm := fun K i c h h' => (up3_n (fun e => h ⟨e.1, by omega⟩)).trans (h1 K i c h h')
def ORD (I : Ii) (pm : Pm) (σ : Sg) (u : Ii × Pm) (pl : Nat) (pad : Sg) (tp mm : Nat) : Prop := ∃ ia, u = (upR ia 17 0 σ, pm) ∧ MWr ia pl pad (orT pl pad tp) ∧ FRm I ia mm ∧ ((orT pl pad tp).1 = true → ia 16 0 12 = nI (mm + 1) ∧ TD ia mm pl pad tp) ∧ (¬ (orT pl pad tp).1 = true → ia 16 0 12 = nI mm)
theorem mm_t {b : Bool} {mm : Nat} (h : b = true) : nI mm + (if bz (b = true) = 0 then (0 : Int32) else 1) = nI (mm + 1) := by
  rw [if_neg (fun q => bz_0.mp q h)]
  exact nI_1 mm
theorem mm_f {b : Bool} {mm : Nat} (h : ¬ b = true) : nI mm + (if bz (b = true) = 0 then (0 : Int32) else 1) = nI mm := by
  rw [if_pos (bz_0.mpr h), Int32.add_zero]
theorem ORD.mk {I ib : Ii} {pm : Pm} {σ : Sg} {pl : Nat} {pad : Sg} {tp mm : Nat} {w : Bool × Nat} (hw : w = orT pl pad tp) (W : MWr ib pl pad w) (f : FRm I ib mm) (ht : w.1 = true → TD ib mm pl pad tp) : ORD I pm σ (upR (up3 ib 16 0 12 (nI mm + (if bz (w.1 = true) = 0 then (0 : Int32) else 1))) 17 0 σ, pm) pl pad tp mm := by
  subst hw
  refine ⟨_, rfl, W.many, f.many, fun h => ⟨up3_s.trans (mm_t h), ?_⟩, fun h => up3_s.trans (mm_f h)⟩
  have T := ht h
  exact ⟨(up3_k (by decide)).trans T.1, fun k => ⟨(up3_k (by decide)).trans (T.2.1 k).1, (up3_k (by decide)).trans (T.2.1 k).2.1, (up3_k (by decide)).trans (T.2.1 k).2.2⟩, fun k => ⟨(up3_k (by decide)).trans (T.2.2.1 k).1, (up3_k (by decide)).trans (T.2.2.1 k).2.1, (up3_k (by decide)).trans (T.2.2.1 k).2.2⟩, fun k => ⟨(up3_k (by decide)).trans (T.2.2.2.1 k).1, (up3_k (by decide)).trans (T.2.2.2.1 k).2⟩, fun k => (up3_k (by decide)).trans (T.2.2.2.2 k)⟩

set_option maxHeartbeats 4000000 in
set_option maxRecDepth 100000 in
theorem c_X6_readsOrder {l : Launch} {G : Gm} (hj : Aj G) {I : Ii} {pm : Pm} {σ : Sg} {pl : Nat} {pad : Sg} {tp mm : Nat} (W : MWr I pl pad (true, tp)) (EM : I 16 0 12 = nI mm) (hmm : mm < 60) : CV l G yX6_readsOrder (wz yX6_readsOrder cX6_readsOrder 3 none) (rmL 3) [.ref (G.2.2 16 0)] (upR I 17 0 σ) pm (fun u => ORD I pm σ u pl pad tp mm) := by
  refine CV.walk hj (by decide +kernel) (by show _ ≤ 3; exact Nat.le_of_ble_eq_true rfl) ?_
  intro p e s m args below meth c F hr hlk
  have h80 := W.1.2.1
  have htp : tp ≤ pl := W.2.2.2
  have L111 : sgT pl pad tp = 111 → ∀ ia xi xl, xi = nI (4 * mm) → xl = sgT pl pad tp → MWr ia pl pad (true, tp + 1) → FW I ia → GG p l e (rmL 3) s m args below meth c G (AA G) 3 0 0 (MQ below (va_Qv (fun (u : Ii × Pm) => ORD I pm σ u pl pad tp mm) (fun (u : Ii × Pm) t => Wd G u.1 u.2 t.heap) (AA G)) args s 0 0 (AA G)) (upR ia 17 0 σ) pm [(0, .ref (G.2.2 16 0)), (1, .int xi), (2, .int xl)] 73 [] := by
    intro hk ia xi xl ei el W_0 g_0
    have f_0 := (FRm.rf (I := I) (mm := mm)).w g_0
    have e_0 : ia 16 0 12 = nI mm := (g_0 16 0 12 (by decide)).trans EM
    refine g_aload_n F 0 dX6_readsOrder_73 rfl rfl ?_
    refine gf_16_11 F (by decide) mFL_X6_29 dX6_readsOrder_74 ?_
    refine g_iload_n F 1 dX6_readsOrder_77 rfl rfl ?_
    refine g_iload_n F 2 dX6_readsOrder_78 rfl rfl ?_
    refine gs_23 (j := (4 * mm)) F (by decide) ei (by omega) dX6_readsOrder_79 ?_
    refine g_I (wr16 (by decide)) ?_
    have W_79 := W_0.told (j := 4 * mm) (v := xl)
    have f_79 := f_0.s (j := 4 * mm) (v := xl) (Nat.le_refl _)
    have e_79 : up3 ia 23 0 (4 * mm) xl 16 0 12 = nI mm := (up3_k (by decide)).trans e_0
    have t0_79 : up3 ia 23 0 (4 * mm) xl 23 0 (4 * mm) = sgT pl pad tp := up3_s.trans el
    refine g_aload_n F 0 dX6_readsOrder_80 rfl rfl ?_
    refine gf_16_11 F (by decide) mFL_X6_29 dX6_readsOrder_81 ?_
    refine g_iload_n F 1 dX6_readsOrder_84 rfl rfl ?_
    refine g_iconst (v := 1) F dX6_readsOrder_85 (by decide) ?_
    refine g_iadd F dX6_readsOrder_86 ?_
    refine g_iload_n F 2 dX6_readsOrder_87 rfl rfl ?_
    refine g_bipush (v := 115) F dX6_readsOrder_88 (by decide) ?_
    refine g_icmp_ne F 102 dX6_readsOrder_90 (by decide) (fun c_90 => ?_) (fun c_90 => ?_)
    · refine g_aload_n F 0 dX6_readsOrder_102 rfl rfl ?_
      refine g_callIv (na := 0) F 16 _ (c_X6_number hj (show MWr (up3 ia 23 0 (4 * mm) xl) pl pad (((true, tp + 1)).1, ((true, tp + 1)).2) from W_79)) (by decide) rfl rfl lk_X6_148 rfl rfl (by decide +kernel) ⟨rfl, rfl, Nat.le_of_ble_eq_true rfl, Nat.le_of_ble_eq_true rfl, Nat.le_of_ble_eq_true rfl, Nat.le_of_ble_eq_true rfl, Nat.le_of_ble_eq_true rfl⟩ dX6_readsOrder_103 (fun r_103 u_103 h_103 => ?_)
      obtain ⟨⟨ib_103, rfl, V_103, g_103⟩, v_103⟩ := h_103
      try dsimp only
      have W_103 : MWr ib_103 pl pad (thn (true, tp + 1) (nmT pl pad)) := V_103
      have f_103 := f_79.w g_103
      have e_103 := (g_103 16 0 12 (by decide)).trans e_79
      have t0_103 := (g_103 23 0 (4 * mm + 0) (by omega)).trans t0_79
      refine gs_23 (j := ((4 * mm) + 1)) F (by decide) (nx_add ei rfl) (by omega) dX6_readsOrder_106 ?_
      refine g_I (wr16 (by decide)) ?_
      have W_106 := W_103.told (j := 4 * mm + 1) (v := r_103)
      have f_106 := f_103.s (j := 4 * mm + 1) (v := r_103) (by omega)
      have e_106 : (up3 ib_103 23 0 (4 * mm + 1) r_103) 16 0 12 = nI mm := (up3_k (by decide)).trans e_103
      have t0_106 := (up3_n (I := ib_103) (K := 23) (i := 0) (j := 4 * mm + 1) (v := r_103) (a := 23) (b := 0) (c := 4 * mm + 0) (by omega)).trans t0_103
      have t1_106 := up3_s (I := ib_103) (K := 23) (i := 0) (j := 4 * mm + 1) (v := r_103)
      refine g_iload_n F 2 dX6_readsOrder_107 rfl rfl ?_
      refine g_bipush (v := 116) F dX6_readsOrder_108 (by decide) ?_
      refine g_icmp_eq F 153 dX6_readsOrder_110 (by decide) (fun c_110 => ?_) (fun c_110 => ?_)
      · exact absurd ((hk.symm.trans el.symm).trans c_110) (by decide)
      · refine g_aload_n F 0 dX6_readsOrder_113 rfl rfl ?_
        refine g_iload_n F 2 dX6_readsOrder_114 rfl rfl ?_
        refine g_bipush (v := 111) F dX6_readsOrder_115 (by decide) ?_
        refine g_icmp_ne F 125 dX6_readsOrder_117 (by decide) (fun c_117 => ?_) (fun c_117 => ?_)
        · exact absurd (el.trans hk) c_117
        · refine g_bipush (v := 58) F dX6_readsOrder_120 (by decide) ?_
          refine g_goto F 138 dX6_readsOrder_122 (by decide) ?_
          refine g_callVv (na := 1) F 16 _ (c_X6_wants hj (show MWr (up3 ib_103 23 0 (4 * mm + 1) r_103) pl pad (((thn (true, tp + 1) (nmT pl pad))).1, ((thn (true, tp + 1) (nmT pl pad))).2) from W_106) (x := 58) (by decide)) (by decide) rfl rfl lk_X6_151 rfl rfl (by decide +kernel) ⟨rfl, rfl, Nat.le_of_ble_eq_true rfl, Nat.le_of_ble_eq_true rfl, Nat.le_of_ble_eq_true rfl, Nat.le_of_ble_eq_true rfl, Nat.le_of_ble_eq_true rfl⟩ dX6_readsOrder_138 (fun u_138 h_138 => ?_)
          obtain ⟨ib_138, rfl, V_138, g_138⟩ := h_138
          try dsimp only
          have W_138 : MWr ib_138 pl pad (thn (thn (true, tp + 1) (nmT pl pad)) (chT pl pad 58)) := V_138
          have f_138 := f_106.w g_138
          have e_138 := (g_138 16 0 12 (by decide)).trans e_106
          have t0_138 := (g_138 23 0 (4 * mm + 0) (by omega)).trans t0_106
          have t1_138 := (g_138 23 0 (4 * mm + 1) (by omega)).trans t1_106
          refine g_aload_n F 0 dX6_readsOrder_141 rfl rfl ?_
          refine gf_16_11 F (by decide) mFL_X6_29 dX6_readsOrder_142 ?_
          refine g_iload_n F 1 dX6_readsOrder_145 rfl rfl ?_
          refine g_iconst (v := 2) F dX6_readsOrder_146 (by decide) ?_
          refine g_iadd F dX6_readsOrder_147 ?_
          refine g_aload_n F 0 dX6_readsOrder_148 rfl rfl ?_
          refine g_callIv (na := 0) F 16 _ (c_X6_number hj (show MWr ib_138 pl pad (((thn (thn (true, tp + 1) (nmT pl pad)) (chT pl pad 58))).1, ((thn (thn (true, tp + 1) (nmT pl pad)) (chT pl pad 58))).2) from W_138)) (by decide) rfl rfl lk_X6_148 rfl rfl (by decide +kernel) ⟨rfl, rfl, Nat.le_of_ble_eq_true rfl, Nat.le_of_ble_eq_true rfl, Nat.le_of_ble_eq_true rfl, Nat.le_of_ble_eq_true rfl, Nat.le_of_ble_eq_true rfl⟩ dX6_readsOrder_149 (fun r_149 u_149 h_149 => ?_)
          obtain ⟨⟨ib_149, rfl, V_149, g_149⟩, v_149⟩ := h_149
          try dsimp only
          have W_149 : MWr ib_149 pl pad (thn (thn (thn (true, tp + 1) (nmT pl pad)) (chT pl pad 58)) (nmT pl pad)) := V_149
          have f_149 := f_138.w g_149
          have e_149 := (g_149 16 0 12 (by decide)).trans e_138
          have t0_149 := (g_149 23 0 (4 * mm + 0) (by omega)).trans t0_138
          have t1_149 := (g_149 23 0 (4 * mm + 1) (by omega)).trans t1_138
          refine gs_23 (j := ((4 * mm) + 2)) F (by decide) (nx_add ei rfl) (by omega) dX6_readsOrder_152 ?_
          refine g_I (wr16 (by decide)) ?_
          have W_152 := W_149.told (j := 4 * mm + 2) (v := r_149)
          have f_152 := f_149.s (j := 4 * mm + 2) (v := r_149) (by omega)
          have e_152 : (up3 ib_149 23 0 (4 * mm + 2) r_149) 16 0 12 = nI mm := (up3_k (by decide)).trans e_149
          have t0_152 := (up3_n (I := ib_149) (K := 23) (i := 0) (j := 4 * mm + 2) (v := r_149) (a := 23) (b := 0) (c := 4 * mm + 0) (by omega)).trans t0_149
          have t1_152 := (up3_n (I := ib_149) (K := 23) (i := 0) (j := 4 * mm + 2) (v := r_149) (a := 23) (b := 0) (c := 4 * mm + 1) (by omega)).trans t1_149
          have t2_152 := up3_s (I := ib_149) (K := 23) (i := 0) (j := 4 * mm + 2) (v := r_149)
          refine g_iload_n F 2 dX6_readsOrder_153 rfl rfl ?_
          refine g_bipush (v := 111) F dX6_readsOrder_154 (by decide) ?_
          refine g_icmp_ne F 181 dX6_readsOrder_156 (by decide) (fun c_156 => ?_) (fun c_156 => ?_)
          · exact absurd (el.trans hk) c_156
          · refine g_aload_n F 0 dX6_readsOrder_159 rfl rfl ?_
            refine g_bipush (v := 33) F dX6_readsOrder_160 (by decide) ?_
            refine g_callVv (na := 1) F 16 _ (c_X6_wants hj (show MWr (up3 ib_149 23 0 (4 * mm + 2) r_149) pl pad (((thn (thn (thn (true, tp + 1) (nmT pl pad)) (chT pl pad 58)) (nmT pl pad))).1, ((thn (thn (thn (true, tp + 1) (nmT pl pad)) (chT pl pad 58)) (nmT pl pad))).2) from W_152) (x := 33) (by decide)) (by decide) rfl rfl lk_X6_151 rfl rfl (by decide +kernel) ⟨rfl, rfl, Nat.le_of_ble_eq_true rfl, Nat.le_of_ble_eq_true rfl, Nat.le_of_ble_eq_true rfl, Nat.le_of_ble_eq_true rfl, Nat.le_of_ble_eq_true rfl⟩ dX6_readsOrder_162 (fun u_162 h_162 => ?_)
            obtain ⟨ib_162, rfl, V_162, g_162⟩ := h_162
            try dsimp only
            have W_162 : MWr ib_162 pl pad (thn (thn (thn (thn (true, tp + 1) (nmT pl pad)) (chT pl pad 58)) (nmT pl pad)) (chT pl pad 33)) := V_162
            have f_162 := f_152.w g_162
            have e_162 := (g_162 16 0 12 (by decide)).trans e_152
            have t0_162 := (g_162 23 0 (4 * mm + 0) (by omega)).trans t0_152
            have t1_162 := (g_162 23 0 (4 * mm + 1) (by omega)).trans t1_152
            have t2_162 := (g_162 23 0 (4 * mm + 2) (by omega)).trans t2_152
            refine g_aload_n F 0 dX6_readsOrder_165 rfl rfl ?_
            refine gf_16_11 F (by decide) mFL_X6_29 dX6_readsOrder_166 ?_
            refine g_iload_n F 1 dX6_readsOrder_169 rfl rfl ?_
            refine g_iconst (v := 3) F dX6_readsOrder_170 (by decide) ?_
            refine g_iadd F dX6_readsOrder_171 ?_
            refine g_aload_n F 0 dX6_readsOrder_172 rfl rfl ?_
            refine g_iconst (v := 3) F dX6_readsOrder_173 (by decide) ?_
            refine g_callIv (na := 1) F 16 _ (c_X6_digit hj (show MWr ib_162 pl pad (((thn (thn (thn (thn (true, tp + 1) (nmT pl pad)) (chT pl pad 58)) (nmT pl pad)) (chT pl pad 33))).1, ((thn (thn (thn (thn (true, tp + 1) (nmT pl pad)) (chT pl pad 58)) (nmT pl pad)) (chT pl pad 33))).2) from W_162)) (by decide) rfl rfl lk_X6_142 rfl rfl (by decide +kernel) ⟨rfl, rfl, Nat.le_of_ble_eq_true rfl, Nat.le_of_ble_eq_true rfl, Nat.le_of_ble_eq_true rfl, Nat.le_of_ble_eq_true rfl, Nat.le_of_ble_eq_true rfl⟩ dX6_readsOrder_174 (fun r_174 u_174 h_174 => ?_)
            obtain ⟨v_174, ib_174, rfl, V_174, g_174⟩ := h_174
            try dsimp only
            have W_174 : MWr ib_174 pl pad (thn (thn (thn (thn (thn (true, tp + 1) (nmT pl pad)) (chT pl pad 58)) (nmT pl pad)) (chT pl pad 33)) (dgT pl pad 3)) := V_174
            have f_174 := f_162.w g_174
            have e_174 := (g_174 16 0 12 (by decide)).trans e_162
            have t0_174 := (g_174 23 0 (4 * mm + 0) (by omega)).trans t0_162
            have t1_174 := (g_174 23 0 (4 * mm + 1) (by omega)).trans t1_162
            have t2_174 := (g_174 23 0 (4 * mm + 2) (by omega)).trans t2_162
            refine gs_23 (j := ((4 * mm) + 3)) F (by decide) (nx_add ei rfl) (by omega) dX6_readsOrder_177 ?_
            refine g_I (wr16 (by decide)) ?_
            have W_177 := W_174.told (j := 4 * mm + 3) (v := r_174)
            have f_177 := f_174.s (j := 4 * mm + 3) (v := r_174) (by omega)
            have e_177 : (up3 ib_174 23 0 (4 * mm + 3) r_174) 16 0 12 = nI mm := (up3_k (by decide)).trans e_174
            have t0_177 := (up3_n (I := ib_174) (K := 23) (i := 0) (j := 4 * mm + 3) (v := r_174) (a := 23) (b := 0) (c := 4 * mm + 0) (by omega)).trans t0_174
            have t1_177 := (up3_n (I := ib_174) (K := 23) (i := 0) (j := 4 * mm + 3) (v := r_174) (a := 23) (b := 0) (c := 4 * mm + 1) (by omega)).trans t1_174
            have t2_177 := (up3_n (I := ib_174) (K := 23) (i := 0) (j := 4 * mm + 3) (v := r_174) (a := 23) (b := 0) (c := 4 * mm + 2) (by omega)).trans t2_174
            have t3_177 := up3_s (I := ib_174) (K := 23) (i := 0) (j := 4 * mm + 3) (v := r_174)
            refine g_goto F 205 dX6_readsOrder_178 (by decide) ?_
            refine g_aload_n F 0 dX6_readsOrder_205 rfl rfl ?_
            refine g_dup F dX6_readsOrder_206 rfl ?_
            refine gf_16_12 F (by decide) mFL_X6_145 dX6_readsOrder_207 ?_
            refine g_eqi (rd16 (by decide)) ?_
            refine g_eqi e_177 ?_
            refine g_aload_n F 0 dX6_readsOrder_210 rfl rfl ?_
            refine gf_16_10 F (by decide) mFL_X6_135 dX6_readsOrder_211 ?_
            refine g_eqi (rd16 (by decide)) ?_
            refine g_eqi W_177.2.2.1 ?_
            refine g_tif_eq (0) (1) 222 (fun kt kf => ?_) ?_
            · refine g_if_eq F 221 dX6_readsOrder_214 (by decide) (fun q => ?_) (fun q => ?_)
              · refine g_iconst (v := 0) F dX6_readsOrder_221 (by decide) ?_
                exact kt q
              · refine g_iconst (v := 1) F dX6_readsOrder_217 (by decide) ?_
                refine g_goto F 222 dX6_readsOrder_218 (by decide) ?_
                exact kf (by first | exact q | exact not_not_intro q)
            refine g_iadd F dX6_readsOrder_222 ?_
            refine gp_16_12 F (by decide) mFL_X6_145 dX6_readsOrder_223 ?_
            refine g_I (wr16 (by decide)) ?_
            refine g_vret F hr hlk dX6_readsOrder_226 ?_
            have EW : (thn (thn (thn (thn (thn (true, tp + 1) (nmT pl pad)) (chT pl pad 58)) (nmT pl pad)) (chT pl pad 33)) (dgT pl pad 3)) = orT pl pad tp := by
              unfold orT
              rw [if_pos hk]
              rfl
            refine ORD.mk EW W_177 f_177 (fun h => ⟨t0_177, ?_, ?_, ?_, ?_⟩)
            · intro _
              obtain ⟨h4, g5, -⟩ := thn_ok h
              obtain ⟨h3, g4, e4⟩ := thn_ok h4
              obtain ⟨h2, g3, e3⟩ := thn_ok h3
              obtain ⟨h1, g2, e2⟩ := thn_ok h2
              have c2 := chT_t g2
              rw [c2] at e2
              have q2 : (thn (thn (true, tp + 1) (nmT pl pad)) (chT pl pad 58)).2 = p2T pl pad tp := by rw [e2]; rfl
              have c4 := chT_t g4
              rw [c4] at e4
              have q4 : (thn (thn (thn (thn (true, tp + 1) (nmT pl pad)) (chT pl pad 58)) (nmT pl pad)) (chT pl pad 33)).2 = p3T pl pad tp := by
                rw [e4]
                show (thn (thn (thn (true, tp + 1) (nmT pl pad)) (chT pl pad 58)) (nmT pl pad)).2 + 1 = _
                rw [e3, q2]
                rfl
              have r1 := v_103 h1
              have r2 := (v_149 h3).trans (congrArg (nmV pl pad) q2)
              have r3 : r_174 = sgT pl pad (p3T pl pad tp) - 48 := v_174.trans (by rw [← q4])
              exact ⟨t1_177.trans r1, t2_177.trans r2, t3_177.trans r3⟩
            · exact fun q => absurd (hk.symm.trans q) (by decide)
            · exact fun q => absurd (hk.symm.trans q) (by decide)
            · exact fun q => absurd (hk.symm.trans q) (by decide)
    · exact absurd ((hk.symm.trans el.symm).trans c_90) (by decide)
  have L102 : sgT pl pad tp = 102 → ∀ ia xi xl, xi = nI (4 * mm) → xl = sgT pl pad tp → MWr ia pl pad (true, tp + 1) → FW I ia → GG p l e (rmL 3) s m args below meth c G (AA G) 3 0 0 (MQ below (va_Qv (fun (u : Ii × Pm) => ORD I pm σ u pl pad tp mm) (fun (u : Ii × Pm) t => Wd G u.1 u.2 t.heap) (AA G)) args s 0 0 (AA G)) (upR ia 17 0 σ) pm [(0, .ref (G.2.2 16 0)), (1, .int xi), (2, .int xl)] 73 [] := by
    intro hk ia xi xl ei el W_0 g_0
    have f_0 := (FRm.rf (I := I) (mm := mm)).w g_0
    have e_0 : ia 16 0 12 = nI mm := (g_0 16 0 12 (by decide)).trans EM
    refine g_aload_n F 0 dX6_readsOrder_73 rfl rfl ?_
    refine gf_16_11 F (by decide) mFL_X6_29 dX6_readsOrder_74 ?_
    refine g_iload_n F 1 dX6_readsOrder_77 rfl rfl ?_
    refine g_iload_n F 2 dX6_readsOrder_78 rfl rfl ?_
    refine gs_23 (j := (4 * mm)) F (by decide) ei (by omega) dX6_readsOrder_79 ?_
    refine g_I (wr16 (by decide)) ?_
    have W_79 := W_0.told (j := 4 * mm) (v := xl)
    have f_79 := f_0.s (j := 4 * mm) (v := xl) (Nat.le_refl _)
    have e_79 : up3 ia 23 0 (4 * mm) xl 16 0 12 = nI mm := (up3_k (by decide)).trans e_0
    have t0_79 : up3 ia 23 0 (4 * mm) xl 23 0 (4 * mm) = sgT pl pad tp := up3_s.trans el
    refine g_aload_n F 0 dX6_readsOrder_80 rfl rfl ?_
    refine gf_16_11 F (by decide) mFL_X6_29 dX6_readsOrder_81 ?_
    refine g_iload_n F 1 dX6_readsOrder_84 rfl rfl ?_
    refine g_iconst (v := 1) F dX6_readsOrder_85 (by decide) ?_
    refine g_iadd F dX6_readsOrder_86 ?_
    refine g_iload_n F 2 dX6_readsOrder_87 rfl rfl ?_
    refine g_bipush (v := 115) F dX6_readsOrder_88 (by decide) ?_
    refine g_icmp_ne F 102 dX6_readsOrder_90 (by decide) (fun c_90 => ?_) (fun c_90 => ?_)
    · refine g_aload_n F 0 dX6_readsOrder_102 rfl rfl ?_
      refine g_callIv (na := 0) F 16 _ (c_X6_number hj (show MWr (up3 ia 23 0 (4 * mm) xl) pl pad (((true, tp + 1)).1, ((true, tp + 1)).2) from W_79)) (by decide) rfl rfl lk_X6_148 rfl rfl (by decide +kernel) ⟨rfl, rfl, Nat.le_of_ble_eq_true rfl, Nat.le_of_ble_eq_true rfl, Nat.le_of_ble_eq_true rfl, Nat.le_of_ble_eq_true rfl, Nat.le_of_ble_eq_true rfl⟩ dX6_readsOrder_103 (fun r_103 u_103 h_103 => ?_)
      obtain ⟨⟨ib_103, rfl, V_103, g_103⟩, v_103⟩ := h_103
      try dsimp only
      have W_103 : MWr ib_103 pl pad (thn (true, tp + 1) (nmT pl pad)) := V_103
      have f_103 := f_79.w g_103
      have e_103 := (g_103 16 0 12 (by decide)).trans e_79
      have t0_103 := (g_103 23 0 (4 * mm + 0) (by omega)).trans t0_79
      refine gs_23 (j := ((4 * mm) + 1)) F (by decide) (nx_add ei rfl) (by omega) dX6_readsOrder_106 ?_
      refine g_I (wr16 (by decide)) ?_
      have W_106 := W_103.told (j := 4 * mm + 1) (v := r_103)
      have f_106 := f_103.s (j := 4 * mm + 1) (v := r_103) (by omega)
      have e_106 : (up3 ib_103 23 0 (4 * mm + 1) r_103) 16 0 12 = nI mm := (up3_k (by decide)).trans e_103
      have t0_106 := (up3_n (I := ib_103) (K := 23) (i := 0) (j := 4 * mm + 1) (v := r_103) (a := 23) (b := 0) (c := 4 * mm + 0) (by omega)).trans t0_103
      have t1_106 := up3_s (I := ib_103) (K := 23) (i := 0) (j := 4 * mm + 1) (v := r_103)
      refine g_iload_n F 2 dX6_readsOrder_107 rfl rfl ?_
      refine g_bipush (v := 116) F dX6_readsOrder_108 (by decide) ?_
      refine g_icmp_eq F 153 dX6_readsOrder_110 (by decide) (fun c_110 => ?_) (fun c_110 => ?_)
      · exact absurd ((hk.symm.trans el.symm).trans c_110) (by decide)
      · refine g_aload_n F 0 dX6_readsOrder_113 rfl rfl ?_
        refine g_iload_n F 2 dX6_readsOrder_114 rfl rfl ?_
        refine g_bipush (v := 111) F dX6_readsOrder_115 (by decide) ?_
        refine g_icmp_ne F 125 dX6_readsOrder_117 (by decide) (fun c_117 => ?_) (fun c_117 => ?_)
        · refine g_iload_n F 2 dX6_readsOrder_125 rfl rfl ?_
          refine g_bipush (v := 102) F dX6_readsOrder_126 (by decide) ?_
          refine g_icmp_ne F 136 dX6_readsOrder_128 (by decide) (fun c_128 => ?_) (fun c_128 => ?_)
          · exact absurd (el.trans hk) c_128
          · refine g_bipush (v := 44) F dX6_readsOrder_131 (by decide) ?_
            refine g_goto F 138 dX6_readsOrder_133 (by decide) ?_
            refine g_callVv (na := 1) F 16 _ (c_X6_wants hj (show MWr (up3 ib_103 23 0 (4 * mm + 1) r_103) pl pad (((thn (true, tp + 1) (nmT pl pad))).1, ((thn (true, tp + 1) (nmT pl pad))).2) from W_106) (x := 44) (by decide)) (by decide) rfl rfl lk_X6_151 rfl rfl (by decide +kernel) ⟨rfl, rfl, Nat.le_of_ble_eq_true rfl, Nat.le_of_ble_eq_true rfl, Nat.le_of_ble_eq_true rfl, Nat.le_of_ble_eq_true rfl, Nat.le_of_ble_eq_true rfl⟩ dX6_readsOrder_138 (fun u_138 h_138 => ?_)
            obtain ⟨ib_138, rfl, V_138, g_138⟩ := h_138
            try dsimp only
            have W_138 : MWr ib_138 pl pad (thn (thn (true, tp + 1) (nmT pl pad)) (chT pl pad 44)) := V_138
            have f_138 := f_106.w g_138
            have e_138 := (g_138 16 0 12 (by decide)).trans e_106
            have t0_138 := (g_138 23 0 (4 * mm + 0) (by omega)).trans t0_106
            have t1_138 := (g_138 23 0 (4 * mm + 1) (by omega)).trans t1_106
            refine g_aload_n F 0 dX6_readsOrder_141 rfl rfl ?_
            refine gf_16_11 F (by decide) mFL_X6_29 dX6_readsOrder_142 ?_
            refine g_iload_n F 1 dX6_readsOrder_145 rfl rfl ?_
            refine g_iconst (v := 2) F dX6_readsOrder_146 (by decide) ?_
            refine g_iadd F dX6_readsOrder_147 ?_
            refine g_aload_n F 0 dX6_readsOrder_148 rfl rfl ?_
            refine g_callIv (na := 0) F 16 _ (c_X6_number hj (show MWr ib_138 pl pad (((thn (thn (true, tp + 1) (nmT pl pad)) (chT pl pad 44))).1, ((thn (thn (true, tp + 1) (nmT pl pad)) (chT pl pad 44))).2) from W_138)) (by decide) rfl rfl lk_X6_148 rfl rfl (by decide +kernel) ⟨rfl, rfl, Nat.le_of_ble_eq_true rfl, Nat.le_of_ble_eq_true rfl, Nat.le_of_ble_eq_true rfl, Nat.le_of_ble_eq_true rfl, Nat.le_of_ble_eq_true rfl⟩ dX6_readsOrder_149 (fun r_149 u_149 h_149 => ?_)
            obtain ⟨⟨ib_149, rfl, V_149, g_149⟩, v_149⟩ := h_149
            try dsimp only
            have W_149 : MWr ib_149 pl pad (thn (thn (thn (true, tp + 1) (nmT pl pad)) (chT pl pad 44)) (nmT pl pad)) := V_149
            have f_149 := f_138.w g_149
            have e_149 := (g_149 16 0 12 (by decide)).trans e_138
            have t0_149 := (g_149 23 0 (4 * mm + 0) (by omega)).trans t0_138
            have t1_149 := (g_149 23 0 (4 * mm + 1) (by omega)).trans t1_138
            refine gs_23 (j := ((4 * mm) + 2)) F (by decide) (nx_add ei rfl) (by omega) dX6_readsOrder_152 ?_
            refine g_I (wr16 (by decide)) ?_
            have W_152 := W_149.told (j := 4 * mm + 2) (v := r_149)
            have f_152 := f_149.s (j := 4 * mm + 2) (v := r_149) (by omega)
            have e_152 : (up3 ib_149 23 0 (4 * mm + 2) r_149) 16 0 12 = nI mm := (up3_k (by decide)).trans e_149
            have t0_152 := (up3_n (I := ib_149) (K := 23) (i := 0) (j := 4 * mm + 2) (v := r_149) (a := 23) (b := 0) (c := 4 * mm + 0) (by omega)).trans t0_149
            have t1_152 := (up3_n (I := ib_149) (K := 23) (i := 0) (j := 4 * mm + 2) (v := r_149) (a := 23) (b := 0) (c := 4 * mm + 1) (by omega)).trans t1_149
            have t2_152 := up3_s (I := ib_149) (K := 23) (i := 0) (j := 4 * mm + 2) (v := r_149)
            refine g_iload_n F 2 dX6_readsOrder_153 rfl rfl ?_
            refine g_bipush (v := 111) F dX6_readsOrder_154 (by decide) ?_
            refine g_icmp_ne F 181 dX6_readsOrder_156 (by decide) (fun c_156 => ?_) (fun c_156 => ?_)
            · refine g_iload_n F 2 dX6_readsOrder_181 rfl rfl ?_
              refine g_bipush (v := 102) F dX6_readsOrder_182 (by decide) ?_
              refine g_icmp_ne F 205 dX6_readsOrder_184 (by decide) (fun c_184 => ?_) (fun c_184 => ?_)
              · exact absurd (el.trans hk) c_184
              · refine g_aload_n F 0 dX6_readsOrder_187 rfl rfl ?_
                refine g_bipush (v := 44) F dX6_readsOrder_188 (by decide) ?_
                refine g_callVv (na := 1) F 16 _ (c_X6_wants hj (show MWr (up3 ib_149 23 0 (4 * mm + 2) r_149) pl pad (((thn (thn (thn (true, tp + 1) (nmT pl pad)) (chT pl pad 44)) (nmT pl pad))).1, ((thn (thn (thn (true, tp + 1) (nmT pl pad)) (chT pl pad 44)) (nmT pl pad))).2) from W_152) (x := 44) (by decide)) (by decide) rfl rfl lk_X6_151 rfl rfl (by decide +kernel) ⟨rfl, rfl, Nat.le_of_ble_eq_true rfl, Nat.le_of_ble_eq_true rfl, Nat.le_of_ble_eq_true rfl, Nat.le_of_ble_eq_true rfl, Nat.le_of_ble_eq_true rfl⟩ dX6_readsOrder_190 (fun u_190 h_190 => ?_)
                obtain ⟨ib_190, rfl, V_190, g_190⟩ := h_190
                try dsimp only
                have W_190 : MWr ib_190 pl pad (thn (thn (thn (thn (true, tp + 1) (nmT pl pad)) (chT pl pad 44)) (nmT pl pad)) (chT pl pad 44)) := V_190
                have f_190 := f_152.w g_190
                have e_190 := (g_190 16 0 12 (by decide)).trans e_152
                have t0_190 := (g_190 23 0 (4 * mm + 0) (by omega)).trans t0_152
                have t1_190 := (g_190 23 0 (4 * mm + 1) (by omega)).trans t1_152
                have t2_190 := (g_190 23 0 (4 * mm + 2) (by omega)).trans t2_152
                refine g_aload_n F 0 dX6_readsOrder_193 rfl rfl ?_
                refine gf_16_11 F (by decide) mFL_X6_29 dX6_readsOrder_194 ?_
                refine g_iload_n F 1 dX6_readsOrder_197 rfl rfl ?_
                refine g_iconst (v := 3) F dX6_readsOrder_198 (by decide) ?_
                refine g_iadd F dX6_readsOrder_199 ?_
                refine g_aload_n F 0 dX6_readsOrder_200 rfl rfl ?_
                refine g_callIv (na := 0) F 16 _ (c_X6_number hj (show MWr ib_190 pl pad (((thn (thn (thn (thn (true, tp + 1) (nmT pl pad)) (chT pl pad 44)) (nmT pl pad)) (chT pl pad 44))).1, ((thn (thn (thn (thn (true, tp + 1) (nmT pl pad)) (chT pl pad 44)) (nmT pl pad)) (chT pl pad 44))).2) from W_190)) (by decide) rfl rfl lk_X6_148 rfl rfl (by decide +kernel) ⟨rfl, rfl, Nat.le_of_ble_eq_true rfl, Nat.le_of_ble_eq_true rfl, Nat.le_of_ble_eq_true rfl, Nat.le_of_ble_eq_true rfl, Nat.le_of_ble_eq_true rfl⟩ dX6_readsOrder_201 (fun r_201 u_201 h_201 => ?_)
                obtain ⟨⟨ib_201, rfl, V_201, g_201⟩, v_201⟩ := h_201
                try dsimp only
                have W_201 : MWr ib_201 pl pad (thn (thn (thn (thn (thn (true, tp + 1) (nmT pl pad)) (chT pl pad 44)) (nmT pl pad)) (chT pl pad 44)) (nmT pl pad)) := V_201
                have f_201 := f_190.w g_201
                have e_201 := (g_201 16 0 12 (by decide)).trans e_190
                have t0_201 := (g_201 23 0 (4 * mm + 0) (by omega)).trans t0_190
                have t1_201 := (g_201 23 0 (4 * mm + 1) (by omega)).trans t1_190
                have t2_201 := (g_201 23 0 (4 * mm + 2) (by omega)).trans t2_190
                refine gs_23 (j := ((4 * mm) + 3)) F (by decide) (nx_add ei rfl) (by omega) dX6_readsOrder_204 ?_
                refine g_I (wr16 (by decide)) ?_
                have W_204 := W_201.told (j := 4 * mm + 3) (v := r_201)
                have f_204 := f_201.s (j := 4 * mm + 3) (v := r_201) (by omega)
                have e_204 : (up3 ib_201 23 0 (4 * mm + 3) r_201) 16 0 12 = nI mm := (up3_k (by decide)).trans e_201
                have t0_204 := (up3_n (I := ib_201) (K := 23) (i := 0) (j := 4 * mm + 3) (v := r_201) (a := 23) (b := 0) (c := 4 * mm + 0) (by omega)).trans t0_201
                have t1_204 := (up3_n (I := ib_201) (K := 23) (i := 0) (j := 4 * mm + 3) (v := r_201) (a := 23) (b := 0) (c := 4 * mm + 1) (by omega)).trans t1_201
                have t2_204 := (up3_n (I := ib_201) (K := 23) (i := 0) (j := 4 * mm + 3) (v := r_201) (a := 23) (b := 0) (c := 4 * mm + 2) (by omega)).trans t2_201
                have t3_204 := up3_s (I := ib_201) (K := 23) (i := 0) (j := 4 * mm + 3) (v := r_201)
                refine g_aload_n F 0 dX6_readsOrder_205 rfl rfl ?_
                refine g_dup F dX6_readsOrder_206 rfl ?_
                refine gf_16_12 F (by decide) mFL_X6_145 dX6_readsOrder_207 ?_
                refine g_eqi (rd16 (by decide)) ?_
                refine g_eqi e_204 ?_
                refine g_aload_n F 0 dX6_readsOrder_210 rfl rfl ?_
                refine gf_16_10 F (by decide) mFL_X6_135 dX6_readsOrder_211 ?_
                refine g_eqi (rd16 (by decide)) ?_
                refine g_eqi W_204.2.2.1 ?_
                refine g_tif_eq (0) (1) 222 (fun kt kf => ?_) ?_
                · refine g_if_eq F 221 dX6_readsOrder_214 (by decide) (fun q => ?_) (fun q => ?_)
                  · refine g_iconst (v := 0) F dX6_readsOrder_221 (by decide) ?_
                    exact kt q
                  · refine g_iconst (v := 1) F dX6_readsOrder_217 (by decide) ?_
                    refine g_goto F 222 dX6_readsOrder_218 (by decide) ?_
                    exact kf (by first | exact q | exact not_not_intro q)
                refine g_iadd F dX6_readsOrder_222 ?_
                refine gp_16_12 F (by decide) mFL_X6_145 dX6_readsOrder_223 ?_
                refine g_I (wr16 (by decide)) ?_
                refine g_vret F hr hlk dX6_readsOrder_226 ?_
                have EW : (thn (thn (thn (thn (thn (true, tp + 1) (nmT pl pad)) (chT pl pad 44)) (nmT pl pad)) (chT pl pad 44)) (nmT pl pad)) = orT pl pad tp := by
                  unfold orT
                  rw [if_neg (by rw [hk]; decide), if_pos hk]
                  rfl
                refine ORD.mk EW W_204 f_204 (fun h => ⟨t0_204, ?_, ?_, ?_, ?_⟩)
                · exact fun q => absurd (hk.symm.trans q) (by decide)
                · intro _
                  obtain ⟨h4, g5, -⟩ := thn_ok h
                  obtain ⟨h3, g4, e4⟩ := thn_ok h4
                  obtain ⟨h2, g3, e3⟩ := thn_ok h3
                  obtain ⟨h1, g2, e2⟩ := thn_ok h2
                  have c2 := chT_t g2
                  rw [c2] at e2
                  have q2 : (thn (thn (true, tp + 1) (nmT pl pad)) (chT pl pad 44)).2 = p2T pl pad tp := by rw [e2]; rfl
                  have c4 := chT_t g4
                  rw [c4] at e4
                  have q4 : (thn (thn (thn (thn (true, tp + 1) (nmT pl pad)) (chT pl pad 44)) (nmT pl pad)) (chT pl pad 44)).2 = p3T pl pad tp := by
                    rw [e4]
                    show (thn (thn (thn (true, tp + 1) (nmT pl pad)) (chT pl pad 44)) (nmT pl pad)).2 + 1 = _
                    rw [e3, q2]
                    rfl
                  have r1 := v_103 h1
                  have r2 := (v_149 h3).trans (congrArg (nmV pl pad) q2)
                  have r3 := (v_201 h).trans (congrArg (nmV pl pad) q4)
                  exact ⟨t1_204.trans r1, t2_204.trans r2, t3_204.trans r3⟩
                · exact fun q => absurd (hk.symm.trans q) (by decide)
                · exact fun q => absurd (hk.symm.trans q) (by decide)
            · exact absurd ((hk.symm.trans el.symm).trans c_156) (by decide)
        · exact absurd ((hk.symm.trans el.symm).trans c_117) (by decide)
    · exact absurd ((hk.symm.trans el.symm).trans c_90) (by decide)
  have L115 : sgT pl pad tp = 115 → ∀ ia xi xl, xi = nI (4 * mm) → xl = sgT pl pad tp → MWr ia pl pad (true, tp + 1) → FW I ia → GG p l e (rmL 3) s m args below meth c G (AA G) 3 0 0 (MQ below (va_Qv (fun (u : Ii × Pm) => ORD I pm σ u pl pad tp mm) (fun (u : Ii × Pm) t => Wd G u.1 u.2 t.heap) (AA G)) args s 0 0 (AA G)) (upR ia 17 0 σ) pm [(0, .ref (G.2.2 16 0)), (1, .int xi), (2, .int xl)] 73 [] := by
    intro hk ia xi xl ei el W_0 g_0
    have f_0 := (FRm.rf (I := I) (mm := mm)).w g_0
    have e_0 : ia 16 0 12 = nI mm := (g_0 16 0 12 (by decide)).trans EM
    refine g_aload_n F 0 dX6_readsOrder_73 rfl rfl ?_
    refine gf_16_11 F (by decide) mFL_X6_29 dX6_readsOrder_74 ?_
    refine g_iload_n F 1 dX6_readsOrder_77 rfl rfl ?_
    refine g_iload_n F 2 dX6_readsOrder_78 rfl rfl ?_
    refine gs_23 (j := (4 * mm)) F (by decide) ei (by omega) dX6_readsOrder_79 ?_
    refine g_I (wr16 (by decide)) ?_
    have W_79 := W_0.told (j := 4 * mm) (v := xl)
    have f_79 := f_0.s (j := 4 * mm) (v := xl) (Nat.le_refl _)
    have e_79 : up3 ia 23 0 (4 * mm) xl 16 0 12 = nI mm := (up3_k (by decide)).trans e_0
    have t0_79 : up3 ia 23 0 (4 * mm) xl 23 0 (4 * mm) = sgT pl pad tp := up3_s.trans el
    refine g_aload_n F 0 dX6_readsOrder_80 rfl rfl ?_
    refine gf_16_11 F (by decide) mFL_X6_29 dX6_readsOrder_81 ?_
    refine g_iload_n F 1 dX6_readsOrder_84 rfl rfl ?_
    refine g_iconst (v := 1) F dX6_readsOrder_85 (by decide) ?_
    refine g_iadd F dX6_readsOrder_86 ?_
    refine g_iload_n F 2 dX6_readsOrder_87 rfl rfl ?_
    refine g_bipush (v := 115) F dX6_readsOrder_88 (by decide) ?_
    refine g_icmp_ne F 102 dX6_readsOrder_90 (by decide) (fun c_90 => ?_) (fun c_90 => ?_)
    · exact absurd (el.trans hk) c_90
    · refine g_aload_n F 0 dX6_readsOrder_93 rfl rfl ?_
      refine g_bipush (v := 7) F dX6_readsOrder_94 (by decide) ?_
      refine g_callIv (na := 1) F 16 _ (c_X6_digit hj (show MWr (up3 ia 23 0 (4 * mm) xl) pl pad (((true, tp + 1)).1, ((true, tp + 1)).2) from W_79)) (by decide) rfl rfl lk_X6_142 rfl rfl (by decide +kernel) ⟨rfl, rfl, Nat.le_of_ble_eq_true rfl, Nat.le_of_ble_eq_true rfl, Nat.le_of_ble_eq_true rfl, Nat.le_of_ble_eq_true rfl, Nat.le_of_ble_eq_true rfl⟩ dX6_readsOrder_96 (fun r_96 u_96 h_96 => ?_)
      obtain ⟨v_96, ib_96, rfl, V_96, g_96⟩ := h_96
      try dsimp only
      have W_96 : MWr ib_96 pl pad (thn (true, tp + 1) (dgT pl pad 7)) := V_96
      have f_96 := f_79.w g_96
      have e_96 := (g_96 16 0 12 (by decide)).trans e_79
      have t0_96 := (g_96 23 0 (4 * mm + 0) (by omega)).trans t0_79
      refine g_goto F 106 dX6_readsOrder_99 (by decide) ?_
      refine gs_23 (j := ((4 * mm) + 1)) F (by decide) (nx_add ei rfl) (by omega) dX6_readsOrder_106 ?_
      refine g_I (wr16 (by decide)) ?_
      have W_106 := W_96.told (j := 4 * mm + 1) (v := r_96)
      have f_106 := f_96.s (j := 4 * mm + 1) (v := r_96) (by omega)
      have e_106 : (up3 ib_96 23 0 (4 * mm + 1) r_96) 16 0 12 = nI mm := (up3_k (by decide)).trans e_96
      have t0_106 := (up3_n (I := ib_96) (K := 23) (i := 0) (j := 4 * mm + 1) (v := r_96) (a := 23) (b := 0) (c := 4 * mm + 0) (by omega)).trans t0_96
      have t1_106 := up3_s (I := ib_96) (K := 23) (i := 0) (j := 4 * mm + 1) (v := r_96)
      refine g_iload_n F 2 dX6_readsOrder_107 rfl rfl ?_
      refine g_bipush (v := 116) F dX6_readsOrder_108 (by decide) ?_
      refine g_icmp_eq F 153 dX6_readsOrder_110 (by decide) (fun c_110 => ?_) (fun c_110 => ?_)
      · exact absurd ((hk.symm.trans el.symm).trans c_110) (by decide)
      · refine g_aload_n F 0 dX6_readsOrder_113 rfl rfl ?_
        refine g_iload_n F 2 dX6_readsOrder_114 rfl rfl ?_
        refine g_bipush (v := 111) F dX6_readsOrder_115 (by decide) ?_
        refine g_icmp_ne F 125 dX6_readsOrder_117 (by decide) (fun c_117 => ?_) (fun c_117 => ?_)
        · refine g_iload_n F 2 dX6_readsOrder_125 rfl rfl ?_
          refine g_bipush (v := 102) F dX6_readsOrder_126 (by decide) ?_
          refine g_icmp_ne F 136 dX6_readsOrder_128 (by decide) (fun c_128 => ?_) (fun c_128 => ?_)
          · refine g_bipush (v := 42) F dX6_readsOrder_136 (by decide) ?_
            refine g_callVv (na := 1) F 16 _ (c_X6_wants hj (show MWr (up3 ib_96 23 0 (4 * mm + 1) r_96) pl pad (((thn (true, tp + 1) (dgT pl pad 7))).1, ((thn (true, tp + 1) (dgT pl pad 7))).2) from W_106) (x := 42) (by decide)) (by decide) rfl rfl lk_X6_151 rfl rfl (by decide +kernel) ⟨rfl, rfl, Nat.le_of_ble_eq_true rfl, Nat.le_of_ble_eq_true rfl, Nat.le_of_ble_eq_true rfl, Nat.le_of_ble_eq_true rfl, Nat.le_of_ble_eq_true rfl⟩ dX6_readsOrder_138 (fun u_138 h_138 => ?_)
            obtain ⟨ib_138, rfl, V_138, g_138⟩ := h_138
            try dsimp only
            have W_138 : MWr ib_138 pl pad (thn (thn (true, tp + 1) (dgT pl pad 7)) (chT pl pad 42)) := V_138
            have f_138 := f_106.w g_138
            have e_138 := (g_138 16 0 12 (by decide)).trans e_106
            have t0_138 := (g_138 23 0 (4 * mm + 0) (by omega)).trans t0_106
            have t1_138 := (g_138 23 0 (4 * mm + 1) (by omega)).trans t1_106
            refine g_aload_n F 0 dX6_readsOrder_141 rfl rfl ?_
            refine gf_16_11 F (by decide) mFL_X6_29 dX6_readsOrder_142 ?_
            refine g_iload_n F 1 dX6_readsOrder_145 rfl rfl ?_
            refine g_iconst (v := 2) F dX6_readsOrder_146 (by decide) ?_
            refine g_iadd F dX6_readsOrder_147 ?_
            refine g_aload_n F 0 dX6_readsOrder_148 rfl rfl ?_
            refine g_callIv (na := 0) F 16 _ (c_X6_number hj (show MWr ib_138 pl pad (((thn (thn (true, tp + 1) (dgT pl pad 7)) (chT pl pad 42))).1, ((thn (thn (true, tp + 1) (dgT pl pad 7)) (chT pl pad 42))).2) from W_138)) (by decide) rfl rfl lk_X6_148 rfl rfl (by decide +kernel) ⟨rfl, rfl, Nat.le_of_ble_eq_true rfl, Nat.le_of_ble_eq_true rfl, Nat.le_of_ble_eq_true rfl, Nat.le_of_ble_eq_true rfl, Nat.le_of_ble_eq_true rfl⟩ dX6_readsOrder_149 (fun r_149 u_149 h_149 => ?_)
            obtain ⟨⟨ib_149, rfl, V_149, g_149⟩, v_149⟩ := h_149
            try dsimp only
            have W_149 : MWr ib_149 pl pad (thn (thn (thn (true, tp + 1) (dgT pl pad 7)) (chT pl pad 42)) (nmT pl pad)) := V_149
            have f_149 := f_138.w g_149
            have e_149 := (g_149 16 0 12 (by decide)).trans e_138
            have t0_149 := (g_149 23 0 (4 * mm + 0) (by omega)).trans t0_138
            have t1_149 := (g_149 23 0 (4 * mm + 1) (by omega)).trans t1_138
            refine gs_23 (j := ((4 * mm) + 2)) F (by decide) (nx_add ei rfl) (by omega) dX6_readsOrder_152 ?_
            refine g_I (wr16 (by decide)) ?_
            have W_152 := W_149.told (j := 4 * mm + 2) (v := r_149)
            have f_152 := f_149.s (j := 4 * mm + 2) (v := r_149) (by omega)
            have e_152 : (up3 ib_149 23 0 (4 * mm + 2) r_149) 16 0 12 = nI mm := (up3_k (by decide)).trans e_149
            have t0_152 := (up3_n (I := ib_149) (K := 23) (i := 0) (j := 4 * mm + 2) (v := r_149) (a := 23) (b := 0) (c := 4 * mm + 0) (by omega)).trans t0_149
            have t1_152 := (up3_n (I := ib_149) (K := 23) (i := 0) (j := 4 * mm + 2) (v := r_149) (a := 23) (b := 0) (c := 4 * mm + 1) (by omega)).trans t1_149
            have t2_152 := up3_s (I := ib_149) (K := 23) (i := 0) (j := 4 * mm + 2) (v := r_149)
            refine g_iload_n F 2 dX6_readsOrder_153 rfl rfl ?_
            refine g_bipush (v := 111) F dX6_readsOrder_154 (by decide) ?_
            refine g_icmp_ne F 181 dX6_readsOrder_156 (by decide) (fun c_156 => ?_) (fun c_156 => ?_)
            · refine g_iload_n F 2 dX6_readsOrder_181 rfl rfl ?_
              refine g_bipush (v := 102) F dX6_readsOrder_182 (by decide) ?_
              refine g_icmp_ne F 205 dX6_readsOrder_184 (by decide) (fun c_184 => ?_) (fun c_184 => ?_)
              · refine g_aload_n F 0 dX6_readsOrder_205 rfl rfl ?_
                refine g_dup F dX6_readsOrder_206 rfl ?_
                refine gf_16_12 F (by decide) mFL_X6_145 dX6_readsOrder_207 ?_
                refine g_eqi (rd16 (by decide)) ?_
                refine g_eqi e_152 ?_
                refine g_aload_n F 0 dX6_readsOrder_210 rfl rfl ?_
                refine gf_16_10 F (by decide) mFL_X6_135 dX6_readsOrder_211 ?_
                refine g_eqi (rd16 (by decide)) ?_
                refine g_eqi W_152.2.2.1 ?_
                refine g_tif_eq (0) (1) 222 (fun kt kf => ?_) ?_
                · refine g_if_eq F 221 dX6_readsOrder_214 (by decide) (fun q => ?_) (fun q => ?_)
                  · refine g_iconst (v := 0) F dX6_readsOrder_221 (by decide) ?_
                    exact kt q
                  · refine g_iconst (v := 1) F dX6_readsOrder_217 (by decide) ?_
                    refine g_goto F 222 dX6_readsOrder_218 (by decide) ?_
                    exact kf (by first | exact q | exact not_not_intro q)
                refine g_iadd F dX6_readsOrder_222 ?_
                refine gp_16_12 F (by decide) mFL_X6_145 dX6_readsOrder_223 ?_
                refine g_I (wr16 (by decide)) ?_
                refine g_vret F hr hlk dX6_readsOrder_226 ?_
                have EW : (thn (thn (thn (true, tp + 1) (dgT pl pad 7)) (chT pl pad 42)) (nmT pl pad)) = orT pl pad tp := by
                  unfold orT
                  rw [if_neg (by rw [hk]; decide), if_neg (by rw [hk]; decide), if_pos hk]
                  rfl
                refine ORD.mk EW W_152 f_152 (fun h => ⟨t0_152, ?_, ?_, ?_, ?_⟩)
                · exact fun q => absurd (hk.symm.trans q) (by decide)
                · exact fun q => absurd (hk.symm.trans q) (by decide)
                · intro _
                  obtain ⟨h2, g3, -⟩ := thn_ok h
                  obtain ⟨h1, g2, e2⟩ := thn_ok h2
                  have c1 : (thn (true, tp + 1) (dgT pl pad 7)) = (true, tp + 2) := dgT_t h1
                  have c2 := chT_t g2
                  rw [c2] at e2
                  have q2 : (thn (thn (true, tp + 1) (dgT pl pad 7)) (chT pl pad 42)).2 = tp + 3 := by rw [e2, c1]
                  exact ⟨t1_152.trans v_96, t2_152.trans ((v_149 h).trans (congrArg (nmV pl pad) q2))⟩
                · exact fun q => absurd (hk.symm.trans q) (by decide)
              · exact absurd ((hk.symm.trans el.symm).trans c_184) (by decide)
            · exact absurd ((hk.symm.trans el.symm).trans c_156) (by decide)
          · exact absurd ((hk.symm.trans el.symm).trans c_128) (by decide)
        · exact absurd ((hk.symm.trans el.symm).trans c_117) (by decide)
  have L116 : sgT pl pad tp = 116 → ∀ ia xi xl, xi = nI (4 * mm) → xl = sgT pl pad tp → MWr ia pl pad (true, tp + 1) → FW I ia → GG p l e (rmL 3) s m args below meth c G (AA G) 3 0 0 (MQ below (va_Qv (fun (u : Ii × Pm) => ORD I pm σ u pl pad tp mm) (fun (u : Ii × Pm) t => Wd G u.1 u.2 t.heap) (AA G)) args s 0 0 (AA G)) (upR ia 17 0 σ) pm [(0, .ref (G.2.2 16 0)), (1, .int xi), (2, .int xl)] 73 [] := by
    intro hk ia xi xl ei el W_0 g_0
    have f_0 := (FRm.rf (I := I) (mm := mm)).w g_0
    have e_0 : ia 16 0 12 = nI mm := (g_0 16 0 12 (by decide)).trans EM
    refine g_aload_n F 0 dX6_readsOrder_73 rfl rfl ?_
    refine gf_16_11 F (by decide) mFL_X6_29 dX6_readsOrder_74 ?_
    refine g_iload_n F 1 dX6_readsOrder_77 rfl rfl ?_
    refine g_iload_n F 2 dX6_readsOrder_78 rfl rfl ?_
    refine gs_23 (j := (4 * mm)) F (by decide) ei (by omega) dX6_readsOrder_79 ?_
    refine g_I (wr16 (by decide)) ?_
    have W_79 := W_0.told (j := 4 * mm) (v := xl)
    have f_79 := f_0.s (j := 4 * mm) (v := xl) (Nat.le_refl _)
    have e_79 : up3 ia 23 0 (4 * mm) xl 16 0 12 = nI mm := (up3_k (by decide)).trans e_0
    have t0_79 : up3 ia 23 0 (4 * mm) xl 23 0 (4 * mm) = sgT pl pad tp := up3_s.trans el
    refine g_aload_n F 0 dX6_readsOrder_80 rfl rfl ?_
    refine gf_16_11 F (by decide) mFL_X6_29 dX6_readsOrder_81 ?_
    refine g_iload_n F 1 dX6_readsOrder_84 rfl rfl ?_
    refine g_iconst (v := 1) F dX6_readsOrder_85 (by decide) ?_
    refine g_iadd F dX6_readsOrder_86 ?_
    refine g_iload_n F 2 dX6_readsOrder_87 rfl rfl ?_
    refine g_bipush (v := 115) F dX6_readsOrder_88 (by decide) ?_
    refine g_icmp_ne F 102 dX6_readsOrder_90 (by decide) (fun c_90 => ?_) (fun c_90 => ?_)
    · refine g_aload_n F 0 dX6_readsOrder_102 rfl rfl ?_
      refine g_callIv (na := 0) F 16 _ (c_X6_number hj (show MWr (up3 ia 23 0 (4 * mm) xl) pl pad (((true, tp + 1)).1, ((true, tp + 1)).2) from W_79)) (by decide) rfl rfl lk_X6_148 rfl rfl (by decide +kernel) ⟨rfl, rfl, Nat.le_of_ble_eq_true rfl, Nat.le_of_ble_eq_true rfl, Nat.le_of_ble_eq_true rfl, Nat.le_of_ble_eq_true rfl, Nat.le_of_ble_eq_true rfl⟩ dX6_readsOrder_103 (fun r_103 u_103 h_103 => ?_)
      obtain ⟨⟨ib_103, rfl, V_103, g_103⟩, v_103⟩ := h_103
      try dsimp only
      have W_103 : MWr ib_103 pl pad (thn (true, tp + 1) (nmT pl pad)) := V_103
      have f_103 := f_79.w g_103
      have e_103 := (g_103 16 0 12 (by decide)).trans e_79
      have t0_103 := (g_103 23 0 (4 * mm + 0) (by omega)).trans t0_79
      refine gs_23 (j := ((4 * mm) + 1)) F (by decide) (nx_add ei rfl) (by omega) dX6_readsOrder_106 ?_
      refine g_I (wr16 (by decide)) ?_
      have W_106 := W_103.told (j := 4 * mm + 1) (v := r_103)
      have f_106 := f_103.s (j := 4 * mm + 1) (v := r_103) (by omega)
      have e_106 : (up3 ib_103 23 0 (4 * mm + 1) r_103) 16 0 12 = nI mm := (up3_k (by decide)).trans e_103
      have t0_106 := (up3_n (I := ib_103) (K := 23) (i := 0) (j := 4 * mm + 1) (v := r_103) (a := 23) (b := 0) (c := 4 * mm + 0) (by omega)).trans t0_103
      have t1_106 := up3_s (I := ib_103) (K := 23) (i := 0) (j := 4 * mm + 1) (v := r_103)
      refine g_iload_n F 2 dX6_readsOrder_107 rfl rfl ?_
      refine g_bipush (v := 116) F dX6_readsOrder_108 (by decide) ?_
      refine g_icmp_eq F 153 dX6_readsOrder_110 (by decide) (fun c_110 => ?_) (fun c_110 => ?_)
      · refine g_iload_n F 2 dX6_readsOrder_153 rfl rfl ?_
        refine g_bipush (v := 111) F dX6_readsOrder_154 (by decide) ?_
        refine g_icmp_ne F 181 dX6_readsOrder_156 (by decide) (fun c_156 => ?_) (fun c_156 => ?_)
        · refine g_iload_n F 2 dX6_readsOrder_181 rfl rfl ?_
          refine g_bipush (v := 102) F dX6_readsOrder_182 (by decide) ?_
          refine g_icmp_ne F 205 dX6_readsOrder_184 (by decide) (fun c_184 => ?_) (fun c_184 => ?_)
          · refine g_aload_n F 0 dX6_readsOrder_205 rfl rfl ?_
            refine g_dup F dX6_readsOrder_206 rfl ?_
            refine gf_16_12 F (by decide) mFL_X6_145 dX6_readsOrder_207 ?_
            refine g_eqi (rd16 (by decide)) ?_
            refine g_eqi e_106 ?_
            refine g_aload_n F 0 dX6_readsOrder_210 rfl rfl ?_
            refine gf_16_10 F (by decide) mFL_X6_135 dX6_readsOrder_211 ?_
            refine g_eqi (rd16 (by decide)) ?_
            refine g_eqi W_106.2.2.1 ?_
            refine g_tif_eq (0) (1) 222 (fun kt kf => ?_) ?_
            · refine g_if_eq F 221 dX6_readsOrder_214 (by decide) (fun q => ?_) (fun q => ?_)
              · refine g_iconst (v := 0) F dX6_readsOrder_221 (by decide) ?_
                exact kt q
              · refine g_iconst (v := 1) F dX6_readsOrder_217 (by decide) ?_
                refine g_goto F 222 dX6_readsOrder_218 (by decide) ?_
                exact kf (by first | exact q | exact not_not_intro q)
            refine g_iadd F dX6_readsOrder_222 ?_
            refine gp_16_12 F (by decide) mFL_X6_145 dX6_readsOrder_223 ?_
            refine g_I (wr16 (by decide)) ?_
            refine g_vret F hr hlk dX6_readsOrder_226 ?_
            have EW : (thn (true, tp + 1) (nmT pl pad)) = orT pl pad tp := by
              unfold orT
              rw [if_neg (by rw [hk]; decide), if_neg (by rw [hk]; decide), if_neg (by rw [hk]; decide), if_pos hk]
              rfl
            refine ORD.mk EW W_106 f_106 (fun h => ⟨t0_106, ?_, ?_, ?_, ?_⟩)
            · exact fun q => absurd (hk.symm.trans q) (by decide)
            · exact fun q => absurd (hk.symm.trans q) (by decide)
            · exact fun q => absurd (hk.symm.trans q) (by decide)
            · exact fun _ => t1_106.trans (v_103 h)
          · exact absurd ((hk.symm.trans el.symm).trans c_184) (by decide)
        · exact absurd ((hk.symm.trans el.symm).trans c_156) (by decide)
      · exact absurd (el.trans hk) c_110
    · exact absurd ((hk.symm.trans el.symm).trans c_90) (by decide)
  have LX : (sgT pl pad tp ≠ 111 ∧ sgT pl pad tp ≠ 102 ∧ sgT pl pad tp ≠ 115 ∧ sgT pl pad tp ≠ 116) → ∀ ia xi xl, xi = nI (4 * mm) → xl = sgT pl pad tp → MWr ia pl pad (false, tp) → FW I ia → GG p l e (rmL 3) s m args below meth c G (AA G) 3 0 0 (MQ below (va_Qv (fun (u : Ii × Pm) => ORD I pm σ u pl pad tp mm) (fun (u : Ii × Pm) t => Wd G u.1 u.2 t.heap) (AA G)) args s 0 0 (AA G)) (upR ia 17 0 σ) pm [(0, .ref (G.2.2 16 0)), (1, .int xi), (2, .int xl)] 73 [] := by
    intro hk ia xi xl ei el W_0 g_0
    have f_0 := (FRm.rf (I := I) (mm := mm)).w g_0
    have e_0 : ia 16 0 12 = nI mm := (g_0 16 0 12 (by decide)).trans EM
    refine g_aload_n F 0 dX6_readsOrder_73 rfl rfl ?_
    refine gf_16_11 F (by decide) mFL_X6_29 dX6_readsOrder_74 ?_
    refine g_iload_n F 1 dX6_readsOrder_77 rfl rfl ?_
    refine g_iload_n F 2 dX6_readsOrder_78 rfl rfl ?_
    refine gs_23 (j := (4 * mm)) F (by decide) ei (by omega) dX6_readsOrder_79 ?_
    refine g_I (wr16 (by decide)) ?_
    have W_79 := W_0.told (j := 4 * mm) (v := xl)
    have f_79 := f_0.s (j := 4 * mm) (v := xl) (Nat.le_refl _)
    have e_79 : up3 ia 23 0 (4 * mm) xl 16 0 12 = nI mm := (up3_k (by decide)).trans e_0
    have t0_79 : up3 ia 23 0 (4 * mm) xl 23 0 (4 * mm) = sgT pl pad tp := up3_s.trans el
    refine g_aload_n F 0 dX6_readsOrder_80 rfl rfl ?_
    refine gf_16_11 F (by decide) mFL_X6_29 dX6_readsOrder_81 ?_
    refine g_iload_n F 1 dX6_readsOrder_84 rfl rfl ?_
    refine g_iconst (v := 1) F dX6_readsOrder_85 (by decide) ?_
    refine g_iadd F dX6_readsOrder_86 ?_
    refine g_iload_n F 2 dX6_readsOrder_87 rfl rfl ?_
    refine g_bipush (v := 115) F dX6_readsOrder_88 (by decide) ?_
    refine g_icmp_ne F 102 dX6_readsOrder_90 (by decide) (fun c_90 => ?_) (fun c_90 => ?_)
    · refine g_aload_n F 0 dX6_readsOrder_102 rfl rfl ?_
      refine g_callIv (na := 0) F 16 _ (c_X6_number hj (show MWr (up3 ia 23 0 (4 * mm) xl) pl pad (((false, tp)).1, ((false, tp)).2) from W_79)) (by decide) rfl rfl lk_X6_148 rfl rfl (by decide +kernel) ⟨rfl, rfl, Nat.le_of_ble_eq_true rfl, Nat.le_of_ble_eq_true rfl, Nat.le_of_ble_eq_true rfl, Nat.le_of_ble_eq_true rfl, Nat.le_of_ble_eq_true rfl⟩ dX6_readsOrder_103 (fun r_103 u_103 h_103 => ?_)
      obtain ⟨⟨ib_103, rfl, V_103, g_103⟩, v_103⟩ := h_103
      try dsimp only
      have W_103 : MWr ib_103 pl pad (thn (false, tp) (nmT pl pad)) := V_103
      have f_103 := f_79.w g_103
      have e_103 := (g_103 16 0 12 (by decide)).trans e_79
      have t0_103 := (g_103 23 0 (4 * mm + 0) (by omega)).trans t0_79
      refine gs_23 (j := ((4 * mm) + 1)) F (by decide) (nx_add ei rfl) (by omega) dX6_readsOrder_106 ?_
      refine g_I (wr16 (by decide)) ?_
      have W_106 := W_103.told (j := 4 * mm + 1) (v := r_103)
      have f_106 := f_103.s (j := 4 * mm + 1) (v := r_103) (by omega)
      have e_106 : (up3 ib_103 23 0 (4 * mm + 1) r_103) 16 0 12 = nI mm := (up3_k (by decide)).trans e_103
      have t0_106 := (up3_n (I := ib_103) (K := 23) (i := 0) (j := 4 * mm + 1) (v := r_103) (a := 23) (b := 0) (c := 4 * mm + 0) (by omega)).trans t0_103
      have t1_106 := up3_s (I := ib_103) (K := 23) (i := 0) (j := 4 * mm + 1) (v := r_103)
      refine g_iload_n F 2 dX6_readsOrder_107 rfl rfl ?_
      refine g_bipush (v := 116) F dX6_readsOrder_108 (by decide) ?_
      refine g_icmp_eq F 153 dX6_readsOrder_110 (by decide) (fun c_110 => ?_) (fun c_110 => ?_)
      · exact absurd (el.symm.trans c_110) hk.2.2.2
      · refine g_aload_n F 0 dX6_readsOrder_113 rfl rfl ?_
        refine g_iload_n F 2 dX6_readsOrder_114 rfl rfl ?_
        refine g_bipush (v := 111) F dX6_readsOrder_115 (by decide) ?_
        refine g_icmp_ne F 125 dX6_readsOrder_117 (by decide) (fun c_117 => ?_) (fun c_117 => ?_)
        · refine g_iload_n F 2 dX6_readsOrder_125 rfl rfl ?_
          refine g_bipush (v := 102) F dX6_readsOrder_126 (by decide) ?_
          refine g_icmp_ne F 136 dX6_readsOrder_128 (by decide) (fun c_128 => ?_) (fun c_128 => ?_)
          · refine g_bipush (v := 42) F dX6_readsOrder_136 (by decide) ?_
            refine g_callVv (na := 1) F 16 _ (c_X6_wants hj (show MWr (up3 ib_103 23 0 (4 * mm + 1) r_103) pl pad (((thn (false, tp) (nmT pl pad))).1, ((thn (false, tp) (nmT pl pad))).2) from W_106) (x := 42) (by decide)) (by decide) rfl rfl lk_X6_151 rfl rfl (by decide +kernel) ⟨rfl, rfl, Nat.le_of_ble_eq_true rfl, Nat.le_of_ble_eq_true rfl, Nat.le_of_ble_eq_true rfl, Nat.le_of_ble_eq_true rfl, Nat.le_of_ble_eq_true rfl⟩ dX6_readsOrder_138 (fun u_138 h_138 => ?_)
            obtain ⟨ib_138, rfl, V_138, g_138⟩ := h_138
            try dsimp only
            have W_138 : MWr ib_138 pl pad (thn (thn (false, tp) (nmT pl pad)) (chT pl pad 42)) := V_138
            have f_138 := f_106.w g_138
            have e_138 := (g_138 16 0 12 (by decide)).trans e_106
            have t0_138 := (g_138 23 0 (4 * mm + 0) (by omega)).trans t0_106
            have t1_138 := (g_138 23 0 (4 * mm + 1) (by omega)).trans t1_106
            refine g_aload_n F 0 dX6_readsOrder_141 rfl rfl ?_
            refine gf_16_11 F (by decide) mFL_X6_29 dX6_readsOrder_142 ?_
            refine g_iload_n F 1 dX6_readsOrder_145 rfl rfl ?_
            refine g_iconst (v := 2) F dX6_readsOrder_146 (by decide) ?_
            refine g_iadd F dX6_readsOrder_147 ?_
            refine g_aload_n F 0 dX6_readsOrder_148 rfl rfl ?_
            refine g_callIv (na := 0) F 16 _ (c_X6_number hj (show MWr ib_138 pl pad (((thn (thn (false, tp) (nmT pl pad)) (chT pl pad 42))).1, ((thn (thn (false, tp) (nmT pl pad)) (chT pl pad 42))).2) from W_138)) (by decide) rfl rfl lk_X6_148 rfl rfl (by decide +kernel) ⟨rfl, rfl, Nat.le_of_ble_eq_true rfl, Nat.le_of_ble_eq_true rfl, Nat.le_of_ble_eq_true rfl, Nat.le_of_ble_eq_true rfl, Nat.le_of_ble_eq_true rfl⟩ dX6_readsOrder_149 (fun r_149 u_149 h_149 => ?_)
            obtain ⟨⟨ib_149, rfl, V_149, g_149⟩, v_149⟩ := h_149
            try dsimp only
            have W_149 : MWr ib_149 pl pad (thn (thn (thn (false, tp) (nmT pl pad)) (chT pl pad 42)) (nmT pl pad)) := V_149
            have f_149 := f_138.w g_149
            have e_149 := (g_149 16 0 12 (by decide)).trans e_138
            have t0_149 := (g_149 23 0 (4 * mm + 0) (by omega)).trans t0_138
            have t1_149 := (g_149 23 0 (4 * mm + 1) (by omega)).trans t1_138
            refine gs_23 (j := ((4 * mm) + 2)) F (by decide) (nx_add ei rfl) (by omega) dX6_readsOrder_152 ?_
            refine g_I (wr16 (by decide)) ?_
            have W_152 := W_149.told (j := 4 * mm + 2) (v := r_149)
            have f_152 := f_149.s (j := 4 * mm + 2) (v := r_149) (by omega)
            have e_152 : (up3 ib_149 23 0 (4 * mm + 2) r_149) 16 0 12 = nI mm := (up3_k (by decide)).trans e_149
            have t0_152 := (up3_n (I := ib_149) (K := 23) (i := 0) (j := 4 * mm + 2) (v := r_149) (a := 23) (b := 0) (c := 4 * mm + 0) (by omega)).trans t0_149
            have t1_152 := (up3_n (I := ib_149) (K := 23) (i := 0) (j := 4 * mm + 2) (v := r_149) (a := 23) (b := 0) (c := 4 * mm + 1) (by omega)).trans t1_149
            have t2_152 := up3_s (I := ib_149) (K := 23) (i := 0) (j := 4 * mm + 2) (v := r_149)
            refine g_iload_n F 2 dX6_readsOrder_153 rfl rfl ?_
            refine g_bipush (v := 111) F dX6_readsOrder_154 (by decide) ?_
            refine g_icmp_ne F 181 dX6_readsOrder_156 (by decide) (fun c_156 => ?_) (fun c_156 => ?_)
            · refine g_iload_n F 2 dX6_readsOrder_181 rfl rfl ?_
              refine g_bipush (v := 102) F dX6_readsOrder_182 (by decide) ?_
              refine g_icmp_ne F 205 dX6_readsOrder_184 (by decide) (fun c_184 => ?_) (fun c_184 => ?_)
              · refine g_aload_n F 0 dX6_readsOrder_205 rfl rfl ?_
                refine g_dup F dX6_readsOrder_206 rfl ?_
                refine gf_16_12 F (by decide) mFL_X6_145 dX6_readsOrder_207 ?_
                refine g_eqi (rd16 (by decide)) ?_
                refine g_eqi e_152 ?_
                refine g_aload_n F 0 dX6_readsOrder_210 rfl rfl ?_
                refine gf_16_10 F (by decide) mFL_X6_135 dX6_readsOrder_211 ?_
                refine g_eqi (rd16 (by decide)) ?_
                refine g_eqi W_152.2.2.1 ?_
                refine g_tif_eq (0) (1) 222 (fun kt kf => ?_) ?_
                · refine g_if_eq F 221 dX6_readsOrder_214 (by decide) (fun q => ?_) (fun q => ?_)
                  · refine g_iconst (v := 0) F dX6_readsOrder_221 (by decide) ?_
                    exact kt q
                  · refine g_iconst (v := 1) F dX6_readsOrder_217 (by decide) ?_
                    refine g_goto F 222 dX6_readsOrder_218 (by decide) ?_
                    exact kf (by first | exact q | exact not_not_intro q)
                refine g_iadd F dX6_readsOrder_222 ?_
                refine gp_16_12 F (by decide) mFL_X6_145 dX6_readsOrder_223 ?_
                refine g_I (wr16 (by decide)) ?_
                refine g_vret F hr hlk dX6_readsOrder_226 ?_
                have EW : (thn (thn (thn (false, tp) (nmT pl pad)) (chT pl pad 42)) (nmT pl pad)) = orT pl pad tp := by
                  unfold orT
                  rw [if_neg hk.1, if_neg hk.2.1, if_neg hk.2.2.1, if_neg hk.2.2.2]
                  rfl
                exact ORD.mk EW W_152 f_152 (fun h => absurd h Bool.false_ne_true)
              · exact absurd (el.symm.trans c_184) hk.2.1
            · exact absurd (el.symm.trans c_156) hk.1
          · exact absurd (el.symm.trans c_128) hk.2.1
        · exact absurd (el.symm.trans c_117) hk.1
    · exact absurd (el.symm.trans c_90) hk.2.2.1
  refine g_iconst (v := 4) F dX6_readsOrder_0 (by decide) ?_
  refine g_aload_n F 0 dX6_readsOrder_1 rfl rfl ?_
  refine gf_16_12 F (by decide) mFL_X6_145 dX6_readsOrder_2 ?_
  refine g_eqi (rd16 (by decide)) ?_
  refine g_eqi EM ?_
  refine g_imul F dX6_readsOrder_5 ?_
  refine g_topi (fun x1_6 ex1_6 => ?_)
  refine g_istore_n (L' := [(1, _), (0, _)]) F dX6_readsOrder_6 rfl (by decide) rfl ?_
  refine g_aload_n F 1 dX6_readsOrder_7 rfl rfl ?_
  refine g_callIv (na := 0) F 16 _ (c_X6_sign hj W) (by decide) rfl rfl lk_X6_139 rfl rfl (by decide +kernel) ⟨rfl, rfl, Nat.le_of_ble_eq_true rfl, Nat.le_of_ble_eq_true rfl, Nat.le_of_ble_eq_true rfl, Nat.le_of_ble_eq_true rfl, Nat.le_of_ble_eq_true rfl⟩ dX6_readsOrder_8 (fun r_8 u_8 h_8 => ?_)
  obtain ⟨rfl, rfl⟩ := h_8
  try dsimp only
  refine g_topi (fun x2_11 ex2_11 => ?_)
  refine g_istore_n (L' := [(2, _), (1, _), (0, _)]) F dX6_readsOrder_11 rfl (by decide) rfl ?_
  refine g_aload_n F 2 dX6_readsOrder_12 rfl rfl ?_
  refine g_aload_n F 2 dX6_readsOrder_13 rfl rfl ?_
  refine gf_16_10 F (by decide) mFL_X6_135 dX6_readsOrder_14 ?_
  refine g_eqi (rd16 (by decide)) ?_
  refine g_eqi W.2.2.1 ?_
  refine g_if_eq F 48 dX6_readsOrder_17 (by decide) (fun c_17 => ?_) (fun c_17 => ?_)
  · exact absurd rfl (bz_0.mp c_17)
  · refine g_iload_n F 0 dX6_readsOrder_20 rfl rfl ?_
    refine g_bipush (v := 111) F dX6_readsOrder_21 (by decide) ?_
    refine g_icmp_eq F 44 dX6_readsOrder_23 (by decide) (fun c_23 => ?_) (fun c_23 => ?_)
    · have KK := ex2_11.symm.trans c_23
      have LK := sg_in KK (by decide)
      refine g_iconst (v := 1) F dX6_readsOrder_44 (by decide) ?_
      refine g_goto F 49 dX6_readsOrder_45 (by decide) ?_
      refine gp_16_10 F (by decide) mFL_X6_135 (by decide) (by decide) dX6_readsOrder_49 ?_
      refine g_I (wr16 (by decide)) ?_
      refine g_aload_n F 2 dX6_readsOrder_52 rfl rfl ?_
      refine g_dup F dX6_readsOrder_53 rfl ?_
      refine gf_16_9 F (by decide) mFL_X6_132 dX6_readsOrder_54 ?_
      refine g_eqi (rd16 (by decide)) ?_
      refine g_eqi ((up3_n (by decide)).trans W.2.1) ?_
      refine g_aload_n F 2 dX6_readsOrder_57 rfl rfl ?_
      refine gf_16_10 F (by decide) mFL_X6_135 dX6_readsOrder_58 ?_
      refine g_eqi (rd16 (by decide)) ?_
      refine g_eqi up3_s ?_
      refine g_tif_eq (0) (1) 69 (fun kt kf => ?_) ?_
      · refine g_if_eq F 68 dX6_readsOrder_61 (by decide) (fun q => ?_) (fun q => ?_)
        · refine g_iconst (v := 0) F dX6_readsOrder_68 (by decide) ?_
          exact kt q
        · refine g_iconst (v := 1) F dX6_readsOrder_64 (by decide) ?_
          refine g_goto F 69 dX6_readsOrder_65 (by decide) ?_
          exact kf (by first | exact q | exact not_not_intro q)
      refine g_iadd F dX6_readsOrder_69 ?_
      refine gp_16_9 F (by decide) mFL_X6_132 dX6_readsOrder_70 ?_
      refine g_I (wr16 (by decide)) ?_
      refine g_sub [2, 1, 0] rfl ?_
      first
      | obtain ⟨ia, eu, W2, f2⟩ := RD.t (pm := pm) (σ := σ) W (w := (true, tp + 1)) rfl (by omega)
        refine g_I (congrArg Prod.fst eu) ?_
        first
        | exact L111 KK _ _ _ (ex1_6.trans (nx_mul (a := 4) rfl rfl)) ex2_11 W2 f2
        | exact L102 KK _ _ _ (ex1_6.trans (nx_mul (a := 4) rfl rfl)) ex2_11 W2 f2
        | exact L115 KK _ _ _ (ex1_6.trans (nx_mul (a := 4) rfl rfl)) ex2_11 W2 f2
        | exact L116 KK _ _ _ (ex1_6.trans (nx_mul (a := 4) rfl rfl)) ex2_11 W2 f2
      | obtain ⟨ia, eu, W2, f2⟩ := RD.f (pm := pm) (σ := σ) W (w := (false, tp)) rfl
        refine g_I (congrArg Prod.fst eu) ?_
        exact LX KX _ _ _ (ex1_6.trans (nx_mul (a := 4) rfl rfl)) ex2_11 W2 f2
    · refine g_iload_n F 0 dX6_readsOrder_26 rfl rfl ?_
      refine g_bipush (v := 102) F dX6_readsOrder_27 (by decide) ?_
      refine g_icmp_eq F 44 dX6_readsOrder_29 (by decide) (fun c_29 => ?_) (fun c_29 => ?_)
      · have KK := ex2_11.symm.trans c_29
        have LK := sg_in KK (by decide)
        refine g_iconst (v := 1) F dX6_readsOrder_44 (by decide) ?_
        refine g_goto F 49 dX6_readsOrder_45 (by decide) ?_
        refine gp_16_10 F (by decide) mFL_X6_135 (by decide) (by decide) dX6_readsOrder_49 ?_
        refine g_I (wr16 (by decide)) ?_
        refine g_aload_n F 2 dX6_readsOrder_52 rfl rfl ?_
        refine g_dup F dX6_readsOrder_53 rfl ?_
        refine gf_16_9 F (by decide) mFL_X6_132 dX6_readsOrder_54 ?_
        refine g_eqi (rd16 (by decide)) ?_
        refine g_eqi ((up3_n (by decide)).trans W.2.1) ?_
        refine g_aload_n F 2 dX6_readsOrder_57 rfl rfl ?_
        refine gf_16_10 F (by decide) mFL_X6_135 dX6_readsOrder_58 ?_
        refine g_eqi (rd16 (by decide)) ?_
        refine g_eqi up3_s ?_
        refine g_tif_eq (0) (1) 69 (fun kt kf => ?_) ?_
        · refine g_if_eq F 68 dX6_readsOrder_61 (by decide) (fun q => ?_) (fun q => ?_)
          · refine g_iconst (v := 0) F dX6_readsOrder_68 (by decide) ?_
            exact kt q
          · refine g_iconst (v := 1) F dX6_readsOrder_64 (by decide) ?_
            refine g_goto F 69 dX6_readsOrder_65 (by decide) ?_
            exact kf (by first | exact q | exact not_not_intro q)
        refine g_iadd F dX6_readsOrder_69 ?_
        refine gp_16_9 F (by decide) mFL_X6_132 dX6_readsOrder_70 ?_
        refine g_I (wr16 (by decide)) ?_
        refine g_sub [2, 1, 0] rfl ?_
        first
        | obtain ⟨ia, eu, W2, f2⟩ := RD.t (pm := pm) (σ := σ) W (w := (true, tp + 1)) rfl (by omega)
          refine g_I (congrArg Prod.fst eu) ?_
          first
          | exact L111 KK _ _ _ (ex1_6.trans (nx_mul (a := 4) rfl rfl)) ex2_11 W2 f2
          | exact L102 KK _ _ _ (ex1_6.trans (nx_mul (a := 4) rfl rfl)) ex2_11 W2 f2
          | exact L115 KK _ _ _ (ex1_6.trans (nx_mul (a := 4) rfl rfl)) ex2_11 W2 f2
          | exact L116 KK _ _ _ (ex1_6.trans (nx_mul (a := 4) rfl rfl)) ex2_11 W2 f2
        | obtain ⟨ia, eu, W2, f2⟩ := RD.f (pm := pm) (σ := σ) W (w := (false, tp)) rfl
          refine g_I (congrArg Prod.fst eu) ?_
          exact LX KX _ _ _ (ex1_6.trans (nx_mul (a := 4) rfl rfl)) ex2_11 W2 f2
      · refine g_iload_n F 0 dX6_readsOrder_32 rfl rfl ?_
        refine g_bipush (v := 115) F dX6_readsOrder_33 (by decide) ?_
        refine g_icmp_eq F 44 dX6_readsOrder_35 (by decide) (fun c_35 => ?_) (fun c_35 => ?_)
        · have KK := ex2_11.symm.trans c_35
          have LK := sg_in KK (by decide)
          refine g_iconst (v := 1) F dX6_readsOrder_44 (by decide) ?_
          refine g_goto F 49 dX6_readsOrder_45 (by decide) ?_
          refine gp_16_10 F (by decide) mFL_X6_135 (by decide) (by decide) dX6_readsOrder_49 ?_
          refine g_I (wr16 (by decide)) ?_
          refine g_aload_n F 2 dX6_readsOrder_52 rfl rfl ?_
          refine g_dup F dX6_readsOrder_53 rfl ?_
          refine gf_16_9 F (by decide) mFL_X6_132 dX6_readsOrder_54 ?_
          refine g_eqi (rd16 (by decide)) ?_
          refine g_eqi ((up3_n (by decide)).trans W.2.1) ?_
          refine g_aload_n F 2 dX6_readsOrder_57 rfl rfl ?_
          refine gf_16_10 F (by decide) mFL_X6_135 dX6_readsOrder_58 ?_
          refine g_eqi (rd16 (by decide)) ?_
          refine g_eqi up3_s ?_
          refine g_tif_eq (0) (1) 69 (fun kt kf => ?_) ?_
          · refine g_if_eq F 68 dX6_readsOrder_61 (by decide) (fun q => ?_) (fun q => ?_)
            · refine g_iconst (v := 0) F dX6_readsOrder_68 (by decide) ?_
              exact kt q
            · refine g_iconst (v := 1) F dX6_readsOrder_64 (by decide) ?_
              refine g_goto F 69 dX6_readsOrder_65 (by decide) ?_
              exact kf (by first | exact q | exact not_not_intro q)
          refine g_iadd F dX6_readsOrder_69 ?_
          refine gp_16_9 F (by decide) mFL_X6_132 dX6_readsOrder_70 ?_
          refine g_I (wr16 (by decide)) ?_
          refine g_sub [2, 1, 0] rfl ?_
          first
          | obtain ⟨ia, eu, W2, f2⟩ := RD.t (pm := pm) (σ := σ) W (w := (true, tp + 1)) rfl (by omega)
            refine g_I (congrArg Prod.fst eu) ?_
            first
            | exact L111 KK _ _ _ (ex1_6.trans (nx_mul (a := 4) rfl rfl)) ex2_11 W2 f2
            | exact L102 KK _ _ _ (ex1_6.trans (nx_mul (a := 4) rfl rfl)) ex2_11 W2 f2
            | exact L115 KK _ _ _ (ex1_6.trans (nx_mul (a := 4) rfl rfl)) ex2_11 W2 f2
            | exact L116 KK _ _ _ (ex1_6.trans (nx_mul (a := 4) rfl rfl)) ex2_11 W2 f2
          | obtain ⟨ia, eu, W2, f2⟩ := RD.f (pm := pm) (σ := σ) W (w := (false, tp)) rfl
            refine g_I (congrArg Prod.fst eu) ?_
            exact LX KX _ _ _ (ex1_6.trans (nx_mul (a := 4) rfl rfl)) ex2_11 W2 f2
        · refine g_iload_n F 0 dX6_readsOrder_38 rfl rfl ?_
          refine g_bipush (v := 116) F dX6_readsOrder_39 (by decide) ?_
          refine g_icmp_ne F 48 dX6_readsOrder_41 (by decide) (fun c_41 => ?_) (fun c_41 => ?_)
          · have KX : sgT pl pad tp ≠ 111 ∧ sgT pl pad tp ≠ 102 ∧ sgT pl pad tp ≠ 115 ∧ sgT pl pad tp ≠ 116 := ⟨fun q => c_23 (ex2_11.trans q), fun q => c_29 (ex2_11.trans q), fun q => c_35 (ex2_11.trans q), fun q => c_41 (ex2_11.trans q)⟩
            refine g_iconst (v := 0) F dX6_readsOrder_48 (by decide) ?_
            refine gp_16_10 F (by decide) mFL_X6_135 (by decide) (by decide) dX6_readsOrder_49 ?_
            refine g_I (wr16 (by decide)) ?_
            refine g_aload_n F 2 dX6_readsOrder_52 rfl rfl ?_
            refine g_dup F dX6_readsOrder_53 rfl ?_
            refine gf_16_9 F (by decide) mFL_X6_132 dX6_readsOrder_54 ?_
            refine g_eqi (rd16 (by decide)) ?_
            refine g_eqi ((up3_n (by decide)).trans W.2.1) ?_
            refine g_aload_n F 2 dX6_readsOrder_57 rfl rfl ?_
            refine gf_16_10 F (by decide) mFL_X6_135 dX6_readsOrder_58 ?_
            refine g_eqi (rd16 (by decide)) ?_
            refine g_eqi up3_s ?_
            refine g_tif_eq (0) (1) 69 (fun kt kf => ?_) ?_
            · refine g_if_eq F 68 dX6_readsOrder_61 (by decide) (fun q => ?_) (fun q => ?_)
              · refine g_iconst (v := 0) F dX6_readsOrder_68 (by decide) ?_
                exact kt q
              · refine g_iconst (v := 1) F dX6_readsOrder_64 (by decide) ?_
                refine g_goto F 69 dX6_readsOrder_65 (by decide) ?_
                exact kf (by first | exact q | exact not_not_intro q)
            refine g_iadd F dX6_readsOrder_69 ?_
            refine gp_16_9 F (by decide) mFL_X6_132 dX6_readsOrder_70 ?_
            refine g_I (wr16 (by decide)) ?_
            refine g_sub [2, 1, 0] rfl ?_
            first
            | obtain ⟨ia, eu, W2, f2⟩ := RD.t (pm := pm) (σ := σ) W (w := (true, tp + 1)) rfl (by omega)
              refine g_I (congrArg Prod.fst eu) ?_
              first
              | exact L111 KK _ _ _ (ex1_6.trans (nx_mul (a := 4) rfl rfl)) ex2_11 W2 f2
              | exact L102 KK _ _ _ (ex1_6.trans (nx_mul (a := 4) rfl rfl)) ex2_11 W2 f2
              | exact L115 KK _ _ _ (ex1_6.trans (nx_mul (a := 4) rfl rfl)) ex2_11 W2 f2
              | exact L116 KK _ _ _ (ex1_6.trans (nx_mul (a := 4) rfl rfl)) ex2_11 W2 f2
            | obtain ⟨ia, eu, W2, f2⟩ := RD.f (pm := pm) (σ := σ) W (w := (false, tp)) rfl
              refine g_I (congrArg Prod.fst eu) ?_
              exact LX KX _ _ _ (ex1_6.trans (nx_mul (a := 4) rfl rfl)) ex2_11 W2 f2
          · have KK := ex2_11.symm.trans c_41
            have LK := sg_in KK (by decide)
            refine g_iconst (v := 1) F dX6_readsOrder_44 (by decide) ?_
            refine g_goto F 49 dX6_readsOrder_45 (by decide) ?_
            refine gp_16_10 F (by decide) mFL_X6_135 (by decide) (by decide) dX6_readsOrder_49 ?_
            refine g_I (wr16 (by decide)) ?_
            refine g_aload_n F 2 dX6_readsOrder_52 rfl rfl ?_
            refine g_dup F dX6_readsOrder_53 rfl ?_
            refine gf_16_9 F (by decide) mFL_X6_132 dX6_readsOrder_54 ?_
            refine g_eqi (rd16 (by decide)) ?_
            refine g_eqi ((up3_n (by decide)).trans W.2.1) ?_
            refine g_aload_n F 2 dX6_readsOrder_57 rfl rfl ?_
            refine gf_16_10 F (by decide) mFL_X6_135 dX6_readsOrder_58 ?_
            refine g_eqi (rd16 (by decide)) ?_
            refine g_eqi up3_s ?_
            refine g_tif_eq (0) (1) 69 (fun kt kf => ?_) ?_
            · refine g_if_eq F 68 dX6_readsOrder_61 (by decide) (fun q => ?_) (fun q => ?_)
              · refine g_iconst (v := 0) F dX6_readsOrder_68 (by decide) ?_
                exact kt q
              · refine g_iconst (v := 1) F dX6_readsOrder_64 (by decide) ?_
                refine g_goto F 69 dX6_readsOrder_65 (by decide) ?_
                exact kf (by first | exact q | exact not_not_intro q)
            refine g_iadd F dX6_readsOrder_69 ?_
            refine gp_16_9 F (by decide) mFL_X6_132 dX6_readsOrder_70 ?_
            refine g_I (wr16 (by decide)) ?_
            refine g_sub [2, 1, 0] rfl ?_
            first
            | obtain ⟨ia, eu, W2, f2⟩ := RD.t (pm := pm) (σ := σ) W (w := (true, tp + 1)) rfl (by omega)
              refine g_I (congrArg Prod.fst eu) ?_
              first
              | exact L111 KK _ _ _ (ex1_6.trans (nx_mul (a := 4) rfl rfl)) ex2_11 W2 f2
              | exact L102 KK _ _ _ (ex1_6.trans (nx_mul (a := 4) rfl rfl)) ex2_11 W2 f2
              | exact L115 KK _ _ _ (ex1_6.trans (nx_mul (a := 4) rfl rfl)) ex2_11 W2 f2
              | exact L116 KK _ _ _ (ex1_6.trans (nx_mul (a := 4) rfl rfl)) ex2_11 W2 f2
            | obtain ⟨ia, eu, W2, f2⟩ := RD.f (pm := pm) (σ := σ) W (w := (false, tp)) rfl
              refine g_I (congrArg Prod.fst eu) ?_
              exact LX KX _ _ _ (ex1_6.trans (nx_mul (a := 4) rfl rfl)) ex2_11 W2 f2
