/-! PART 3a: the reference: a text is read, and carried out -/
theorem TD.keep {I I' : Ii} {mm pl : Nat} {pad : Sg} {p : Nat} (T : TD I mm pl pad p) (h : ∀ c, c < 4 * (mm + 1) → I' 23 0 c = I 23 0 c) : TD I' mm pl pad p :=
  ⟨(h _ (by omega)).trans T.1, fun k => ⟨(h _ (by omega)).trans (T.2.1 k).1, (h _ (by omega)).trans (T.2.1 k).2.1, (h _ (by omega)).trans (T.2.1 k).2.2⟩, fun k => ⟨(h _ (by omega)).trans (T.2.2.1 k).1, (h _ (by omega)).trans (T.2.2.1 k).2.1, (h _ (by omega)).trans (T.2.2.1 k).2.2⟩, fun k => ⟨(h _ (by omega)).trans (T.2.2.2.1 k).1, (h _ (by omega)).trans (T.2.2.2.1 k).2⟩, fun k => (h _ (by omega)).trans (T.2.2.2.2 k)⟩
theorem FRm.tr {I I1 I2 : Ii} {mm : Nat} (h1 : FRm I I1 0) (h2 : FRm I1 I2 mm) : FRm I I2 0 := fun K i c h h' => (h2 K i c h (fun e => h' ⟨e.1, Nat.zero_le _⟩)).trans (h1 K i c h h')
def exOK (pl : Nat) (pad : Sg) (p : Nat) (h : Nat) (s : Sg) : Prop :=
  (sgT pl pad p = 111 ∧ okO (nmV pl pad (p + 1)) (nmV pl pad (p2T pl pad p)) (sgT pl pad (p3T pl pad p) - 48) ∧ h < 20) ∨
  (sgT pl pad p = 102 ∧ okF (nmV pl pad (p + 1)) (nmV pl pad (p2T pl pad p)) (nmV pl pad (p3T pl pad p))) ∨
  (sgT pl pad p = 115 ∧ (0 ≤ sgT pl pad (p + 1) - 48 ∧ sgT pl pad (p + 1) - 48 ≤ 7) ∧ (0 ≤ nmV pl pad (p + 3) ∧ nmV pl pad (p + 3) ≤ 99)) ∨
  (sgT pl pad p = 116 ∧ (1 ≤ nmV pl pad (p + 1) ∧ nmV pl pad (p + 1) ≤ 99) ∧ ¬ 99999 < s 0 + nmV pl pad (p + 1))
theorem exR.ok {pl : Nat} {pad : Sg} {p : Nat} {s : Sg} {q : Int32 × Sg} {n h : Nat} (V : Iv n h s) (H : exR pl pad p s q) (hq : ¬ q.1 < 0) : Iv (nof q.2) (hof q.2) q.2 := by
  rcases H with ⟨-, H⟩ | ⟨-, H⟩ | ⟨-, H⟩ | ⟨-, H⟩
  · exact (ordR.ok V H).elim (fun e => absurd e.1 hq) (fun e => e.2)
  · exact (frmR.ok V H).elim (fun e => absurd e.1 hq) (fun e => e.2)
  · exact (shoR.ok V H).elim (fun e => absurd e.1 hq) (fun e => e.2)
  · exact (pasR.ok V H).elim (fun e => absurd e.1 hq) (fun e => e.2)
theorem or_k {pl : Nat} {pad : Sg} {p : Nat} (h : (orT pl pad p).1 = true) (h1 : ¬ sgT pl pad p = 111) (h2 : ¬ sgT pl pad p = 102) (h3 : ¬ sgT pl pad p = 115) : sgT pl pad p = 116 := by
  by_cases c : sgT pl pad p = 116
  · exact c
  · unfold orT at h
    rw [if_neg h1, if_neg h2, if_neg h3, if_neg c] at h
    exact absurd h Bool.false_ne_true
def TDs (I : Ii) (pl : Nat) (pad : Sg) : Prop := ∀ j, wfT pl pad j → I 16 0 12 = nI (j + 1) ∧ ∀ i, i ≤ j → TD I i pl pad (posT pl pad i)

set_option maxHeartbeats 4000000 in
set_option maxRecDepth 100000 in
theorem c_X6_reads {l : Launch} {G : Gm} (hj : Aj G) {I : Ii} {pm : Pm} {σ : Sg} {pl : Nat} {pad : Sg} (P : MP I pl pad) : CI l G yX6_reads (wz yX6_reads cX6_reads 1 (some .int)) (rmL 4) [.ref (G.2.2 16 0)] (upR I 17 0 σ) pm (fun r u => ffR pl pad r ∧ ∃ ia, u = (upR ia 17 0 σ, pm) ∧ FRm I ia 0 ∧ TDs ia pl pad) := by
  refine CI.walk hj (by decide +kernel) (by show _ ≤ 1; exact Nat.le_of_ble_eq_true rfl) ?_
  intro p e s m args below meth c F hr hlk
  have h80 := P.2.1
  have EXA : ∀ ib q, MWr ib pl pad (false, q) → FRm I ib 0 → ffR pl pad (nI q) → GG p l e (rmL 4) s m args below meth c G (AA G) 1 0 0 (MQ below (va_Qi (fun (r : Int32) (u : Ii × Pm) => ffR pl pad r ∧ ∃ ia, u = (upR ia 17 0 σ, pm) ∧ FRm I ia 0 ∧ TDs ia pl pad) (fun (u : Ii × Pm) t => Wd G u.1 u.2 t.heap) (AA G)) args s 0 0 (AA G)) (upR ib 17 0 σ) pm [(0, .ref (G.2.2 16 0))] 57 [] := by
    intro ib q W f hf
    have hq : q ≤ pl := W.2.2.2
    refine g_aload_n F 0 dX6_reads_57 rfl rfl ?_
    refine gf_16_10 F (by decide) mFL_X6_135 dX6_reads_58 ?_
    refine g_eqi (rd16 (by decide)) ?_
    refine g_eqi W.2.2.1 ?_
    refine g_if_eq F 69 dX6_reads_61 (by decide) (fun c_61 => ?_) (fun c_61 => ?_)
    · refine g_aload_n F 0 dX6_reads_69 rfl rfl ?_
      refine gf_16_9 F (by decide) mFL_X6_132 dX6_reads_70 ?_
      refine g_eqi (rd16 (by decide)) ?_
      refine g_eqi W.2.1 ?_
      refine g_iret F hr hlk rfl dX6_reads_73 ?_
      exact ⟨hf, ib, rfl, f, fun j hw => absurd (ffR_fn h80 (wf_ff hw) hf).symm (nI_m6 (by omega))⟩
    · exact absurd (bz_n.mp c_61) Bool.false_ne_true
  have EXB : ∀ ib j, wfT pl pad j → MWr ib pl pad (orT pl pad (posT pl pad j)) → FRm I ib 0 → ib 16 0 12 = nI (j + 1) → (∀ i, i ≤ j → TD ib i pl pad (posT pl pad i)) → GG p l e (rmL 4) s m args below meth c G (AA G) 1 0 0 (MQ below (va_Qi (fun (r : Int32) (u : Ii × Pm) => ffR pl pad r ∧ ∃ ia, u = (upR ia 17 0 σ, pm) ∧ FRm I ia 0 ∧ TDs ia pl pad) (fun (u : Ii × Pm) t => Wd G u.1 u.2 t.heap) (AA G)) args s 0 0 (AA G)) (upR ib 17 0 σ) pm [(0, .ref (G.2.2 16 0))] 57 [] := by
    intro ib j hw W f h12 hT
    refine g_aload_n F 0 dX6_reads_57 rfl rfl ?_
    refine gf_16_10 F (by decide) mFL_X6_135 dX6_reads_58 ?_
    refine g_eqi (rd16 (by decide)) ?_
    refine g_eqi W.2.2.1 ?_
    refine g_if_eq F 69 dX6_reads_61 (by decide) (fun c_61 => ?_) (fun c_61 => ?_)
    · exact absurd hw.2.1 (bz_0.mp c_61)
    · refine g_bipush (v := -6) F dX6_reads_64 (by decide) ?_
      refine g_goto F 73 dX6_reads_66 (by decide) ?_
      refine g_iret F hr hlk rfl dX6_reads_73 ?_
      exact ⟨wf_ff hw, ib, rfl, f, fun j2 hw2 => by rw [wf_fn hw2 hw]; exact ⟨h12, hT⟩⟩
  have EX19 : ∀ ib q, MWr ib pl pad (false, q) → FRm I ib 0 → ffR pl pad (nI q) → GG p l e (rmL 4) s m args below meth c G (AA G) 1 0 0 (MQ below (va_Qi (fun (r : Int32) (u : Ii × Pm) => ffR pl pad r ∧ ∃ ia, u = (upR ia 17 0 σ, pm) ∧ FRm I ia 0 ∧ TDs ia pl pad) (fun (u : Ii × Pm) t => Wd G u.1 u.2 t.heap) (AA G)) args s 0 0 (AA G)) (upR ib 17 0 σ) pm [(0, .ref (G.2.2 16 0))] 19 [] := by
    intro ib q W f hf
    refine g_aload_n F 0 dX6_reads_19 rfl rfl ?_
    refine gf_16_10 F (by decide) mFL_X6_135 dX6_reads_20 ?_
    refine g_eqi (rd16 (by decide)) ?_
    refine g_eqi W.2.2.1 ?_
    refine g_if_eq F 57 dX6_reads_23 (by decide) (fun c_23 => ?_) (fun c_23 => ?_)
    · exact EXA ib q W f hf
    · exact absurd (bz_n.mp c_23) Bool.false_ne_true
  have LOOP : ∀ j, j ≤ 27 → preT pl pad j → ∀ ib, MWr ib pl pad (orT pl pad (posT pl pad j)) → FRm I ib 0 → (∀ i, i < j → TD ib i pl pad (posT pl pad i)) → ((orT pl pad (posT pl pad j)).1 = true → ib 16 0 12 = nI (j + 1) ∧ TD ib j pl pad (posT pl pad j)) → GG p l e (rmL 4) s m args below meth c G (AA G) 1 0 0 (MQ below (va_Qi (fun (r : Int32) (u : Ii × Pm) => ffR pl pad r ∧ ∃ ia, u = (upR ia 17 0 σ, pm) ∧ FRm I ia 0 ∧ TDs ia pl pad) (fun (u : Ii × Pm) t => Wd G u.1 u.2 t.heap) (AA G)) args s 0 0 (AA G)) (upR ib 17 0 σ) pm [(0, .ref (G.2.2 16 0))] 19 [] := by
    refine dn_ind ?_
    intro j hj27 ih hp ib W f hT h12
    have hpos := pre_pos j hp
    have hin := or_in hp
    have WP : MWr ib pl pad ((orT pl pad (posT pl pad j)).1, (orT pl pad (posT pl pad j)).2) := W
    refine g_aload_n F 0 dX6_reads_19 rfl rfl ?_
    refine gf_16_10 F (by decide) mFL_X6_135 dX6_reads_20 ?_
    refine g_eqi (rd16 (by decide)) ?_
    refine g_eqi W.2.2.1 ?_
    refine g_if_eq F 57 dX6_reads_23 (by decide) (fun c_23 => ?_) (fun c_23 => ?_)
    · have NO := bz_0.mp c_23
      first
      | exact EXA ib (orT pl pad (posT pl pad j)).2 (by have := W; rw [show (orT pl pad (posT pl pad j)) = (false, (orT pl pad (posT pl pad j)).2) from Prod.ext (by cases hb : (orT pl pad (posT pl pad j)).1 <;> first | rfl | exact absurd hb NO) rfl] at this; exact this) f ⟨j, hp, Or.inl ⟨NO, rfl⟩⟩
      | exact EXB ib j ⟨hp, OK, by omega⟩ W f (h12 OK).1 (fun i hi => by
          by_cases q : i = j
          · rw [q]; exact (h12 OK).2
          · exact hT i (by omega))
    · have OK := bz_n.mp c_23
      refine g_aload_n F 0 dX6_reads_26 rfl rfl ?_
      refine gf_16_9 F (by decide) mFL_X6_132 dX6_reads_27 ?_
      refine g_eqi (rd16 (by decide)) ?_
      refine g_aload_n F 0 dX6_reads_30 rfl rfl ?_
      refine gf_16_8 F (by decide) mFL_X6_121 dX6_reads_31 ?_
      refine g_eqi (rd16 (by decide)) ?_
      refine g_icmp_ge F 57 dX6_reads_34 (by decide) (fun c_34 => ?_) (fun c_34 => ?_)
      · have n_34 := nx_get (a := (orT pl pad (posT pl pad j)).2) (b := pl) W.2.1 W.1.1 (by omega) (by omega) c_34
        first
        | exact EXA ib (orT pl pad (posT pl pad j)).2 (by have := W; rw [show (orT pl pad (posT pl pad j)) = (false, (orT pl pad (posT pl pad j)).2) from Prod.ext (by cases hb : (orT pl pad (posT pl pad j)).1 <;> first | rfl | exact absurd hb NO) rfl] at this; exact this) f ⟨j, hp, Or.inl ⟨NO, rfl⟩⟩
        | exact EXB ib j ⟨hp, OK, by omega⟩ W f (h12 OK).1 (fun i hi => by
            by_cases q : i = j
            · rw [q]; exact (h12 OK).2
            · exact hT i (by omega))
      · have n_34 := nx_gef (a := (orT pl pad (posT pl pad j)).2) (b := pl) W.2.1 W.1.1 (by omega) (by omega) c_34
        refine g_aload_n F 0 dX6_reads_37 rfl rfl ?_
        refine g_bipush (v := 59) F dX6_reads_38 (by decide) ?_
        refine g_callVv (na := 1) F 16 _ (c_X6_wants hj WP (x := 59) (by decide)) (by decide) rfl rfl lk_X6_151 rfl rfl (by decide +kernel) ⟨rfl, rfl, Nat.le_of_ble_eq_true rfl, Nat.le_of_ble_eq_true rfl, Nat.le_of_ble_eq_true rfl, Nat.le_of_ble_eq_true rfl, Nat.le_of_ble_eq_true rfl⟩ dX6_reads_40 (fun u_40 h_40 => ?_)
        obtain ⟨ic, rfl, W2, g2⟩ := h_40
        rw [show ((orT pl pad (posT pl pad j)).1, (orT pl pad (posT pl pad j)).2) = (true, (orT pl pad (posT pl pad j)).2) from Prod.ext OK rfl, thn_ye] at W2
        try dsimp only
        refine g_aload_n F 0 dX6_reads_43 rfl rfl ?_
        refine gf_16_10 F (by decide) mFL_X6_135 dX6_reads_44 ?_
        refine g_eqi (rd16 (by decide)) ?_
        refine g_eqi W2.2.2.1 ?_
        refine g_if_eq F 19 dX6_reads_47 (by decide) (fun c_47 => ?_) (fun c_47 => ?_)
        · have NC := bz_0.mp c_47
          first
          | exact EX19 ic (orT pl pad (posT pl pad j)).2 (by have := W2; rw [chT_f NC] at this; exact this) (f.w g2) ⟨j, hp, Or.inr (Or.inr ⟨OK, by omega, NC, rfl⟩)⟩
          | exact ih (by omega) hp2 idd W4 ((f.w g2).tr f4) (fun i hi => (show TD ib i pl pad (posT pl pad i) by
              by_cases q : i = j
              · rw [q]; exact (h12 OK).2
              · exact hT i (by omega)).keep (fun cc hc => (f4 23 0 cc (by omega) (by omega)).trans (g2 23 0 cc (by omega)))) (fun h => hT4 h)
        · have CC := bz_n.mp c_47
          have W3 : MWr ic pl pad (true, (orT pl pad (posT pl pad j)).2 + 1) := by have := W2; rw [chT_t CC] at this; exact this
          have hp2 := pre_s hp OK CC
          have hpos2 := pre_pos (j + 1) hp2
          refine g_aload_n F 0 dX6_reads_50 rfl rfl ?_
          refine g_callVv (na := 0) F 16 _ (c_X6_readsOrder hj W3 ((g2 16 0 12 (by decide)).trans (h12 OK).1) (by omega)) (by decide) rfl rfl lk_X6_154 rfl rfl (by decide +kernel) ⟨rfl, rfl, Nat.le_of_ble_eq_true rfl, Nat.le_of_ble_eq_true rfl, Nat.le_of_ble_eq_true rfl, Nat.le_of_ble_eq_true rfl, Nat.le_of_ble_eq_true rfl⟩ dX6_reads_51 (fun u_51 h_51 => ?_)
          obtain ⟨idd, rfl, W4, f4, hT4, -⟩ := h_51
          try dsimp only
          refine g_goto F 19 dX6_reads_54 (by decide) ?_
          first
          | exact EX19 ic (orT pl pad (posT pl pad j)).2 (by have := W2; rw [chT_f NC] at this; exact this) (f.w g2) ⟨j, hp, Or.inr (Or.inr ⟨OK, by omega, NC, rfl⟩)⟩
          | exact ih (by omega) hp2 idd W4 ((f.w g2).tr f4) (fun i hi => (show TD ib i pl pad (posT pl pad i) by
              by_cases q : i = j
              · rw [q]; exact (h12 OK).2
              · exact hT i (by omega)).keep (fun cc hc => (f4 23 0 cc (by omega) (by omega)).trans (g2 23 0 cc (by omega)))) (fun h => hT4 h)
  refine g_aload_n F 0 dX6_reads_0 rfl rfl ?_
  refine g_iconst (v := 0) F dX6_reads_1 (by decide) ?_
  refine gp_16_9 F (by decide) mFL_X6_132 dX6_reads_2 ?_
  refine g_I (wr16 (by decide)) ?_
  refine g_aload_n F 0 dX6_reads_5 rfl rfl ?_
  refine g_iconst (v := 1) F dX6_reads_6 (by decide) ?_
  refine gp_16_10 F (by decide) mFL_X6_135 (by decide) (by decide) dX6_reads_7 ?_
  refine g_I (wr16 (by decide)) ?_
  refine g_aload_n F 0 dX6_reads_10 rfl rfl ?_
  refine g_iconst (v := 0) F dX6_reads_11 (by decide) ?_
  refine gp_16_12 F (by decide) mFL_X6_145 dX6_reads_12 ?_
  refine g_I (wr16 (by decide)) ?_
  have W0 : MWr (up3 (up3 (up3 I 16 0 9 0) 16 0 10 1) 16 0 12 0) pl pad (true, 0) := ⟨⟨(up3_n (by decide)).trans ((up3_n (by decide)).trans ((up3_n (by decide)).trans P.1)), P.2.1, fun i hi => (up3_k (by decide)).trans ((up3_k (by decide)).trans ((up3_k (by decide)).trans (P.2.2 i hi)))⟩, (up3_n (by decide)).trans ((up3_n (by decide)).trans up3_s), (up3_n (by decide)).trans up3_s, Nat.zero_le _⟩
  have f0 : FRm I (up3 (up3 (up3 I 16 0 9 0) 16 0 10 1) 16 0 12 0) 0 := (((FRm.rf).w FW.a).w FW.b).many
  refine g_aload_n F 0 dX6_reads_15 rfl rfl ?_
  refine g_callVv (na := 0) F 16 _ (c_X6_readsOrder hj W0 (mm := 0) up3_s (by decide)) (by decide) rfl rfl lk_X6_154 rfl rfl (by decide +kernel) ⟨rfl, rfl, Nat.le_of_ble_eq_true rfl, Nat.le_of_ble_eq_true rfl, Nat.le_of_ble_eq_true rfl, Nat.le_of_ble_eq_true rfl, Nat.le_of_ble_eq_true rfl⟩ dX6_reads_16 (fun u_16 h_16 => ?_)
  obtain ⟨idd, rfl, W4, f4, hT4, -⟩ := h_16
  try dsimp only
  exact LOOP 0 (by decide) (fun i h => absurd h (Nat.not_lt_zero i)) idd W4 (f0.tr f4) (fun i h => absurd h (Nat.not_lt_zero i)) hT4
set_option maxHeartbeats 4000000 in
set_option maxRecDepth 100000 in
theorem c_X6_fault {l : Launch} {G : Gm} (hj : Aj G) {I : Ii} {pm : Pm} {σ : Sg} {pl : Nat} {pad : Sg} (P : MP I pl pad) : CI l G yX6_fault (wz yX6_fault cX6_fault 1 (some .int)) (rmL 5) [.ref (G.2.2 16 0)] (upR I 17 0 σ) pm (fun r u => ffR pl pad r ∧ ∃ ia, u = (upR ia 17 0 σ, pm) ∧ FRm (up3 I 16 0 0 0) ia 0) := by
  refine CI.walk hj (by decide +kernel) (by show _ ≤ 1; exact Nat.le_of_ble_eq_true rfl) ?_
  intro p e s m args below meth c F hr hlk
  refine g_aload_n F 0 dX6_fault_0 rfl rfl ?_
  refine g_iconst (v := 0) F dX6_fault_1 (by decide) ?_
  refine gp_16_0 F (by decide) mFL_X6_32 dX6_fault_2 ?_
  refine g_I (wr16 (by decide)) ?_
  refine g_aload_n F 0 dX6_fault_5 rfl rfl ?_
  refine g_callIv (na := 0) F 16 _ (c_X6_reads hj P.thr) (by decide) rfl rfl lk_X6_157 rfl rfl (by decide +kernel) ⟨rfl, rfl, Nat.le_of_ble_eq_true rfl, Nat.le_of_ble_eq_true rfl, Nat.le_of_ble_eq_true rfl, Nat.le_of_ble_eq_true rfl, Nat.le_of_ble_eq_true rfl⟩ dX6_fault_6 (fun r_6 u_6 h_6 => ?_)
  obtain ⟨hf, ia, rfl, f, -⟩ := h_6
  try dsimp only
  refine g_iret F hr hlk rfl dX6_fault_9 ?_
  exact ⟨hf, ia, rfl, f⟩
set_option maxHeartbeats 4000000 in
set_option maxRecDepth 100000 in
theorem c_X6_refuses {l : Launch} {G : Gm} (hj : Aj G) {I : Ii} {pm : Pm} {σ : Sg} {n h : Nat} (V : Iv n h σ) {pl : Nat} {pad : Sg} {tp mm : Nat} (T : TD I mm pl pad tp) (hO : (orT pl pad tp).1 = true) (hmm : mm < 60) {x : Int32} (ex : x = nI (4 * mm)) : CI l G yX6_refuses (wz yX6_refuses cX6_refuses 2 (some .int)) (rmL 2) [.ref (G.2.2 16 0), .int x] (upR I 17 0 σ) pm (fun r u => ((r = 0 ∧ exOK pl pad tp h σ) ∨ (r ≠ 0 ∧ ∃ q, exR pl pad tp σ q ∧ q.1 < 0)) ∧ u = (upR I 17 0 σ, pm)) := by
  refine CI.walk hj (by decide +kernel) (by show _ ≤ 2; exact Nat.le_of_ble_eq_true rfl) ?_
  intro p e s m args below meth c F hr hlk
  refine g_aload_n F 0 dX6_refuses_0 rfl rfl ?_
  refine gf_16_11 F (by decide) mFL_X6_29 dX6_refuses_1 ?_
  refine g_iload_n F 1 dX6_refuses_4 rfl rfl ?_
  refine ga_23 (j := (4 * mm)) F (by decide) ex (by omega) dX6_refuses_5 ?_
  refine g_eqi (rd16 (by decide)) ?_
  refine g_eqi T.1 ?_
  by_cases hs_6_102 : (sgT pl pad tp) = 102
  · refine g_lookup F 69 dX6_refuses_6 (by decide) (by rw [hs_6_102] <;> rfl) (by decide) ?_
    refine g_aload_n F 0 dX6_refuses_69 rfl rfl ?_
    refine gf_16_11 F (by decide) mFL_X6_29 dX6_refuses_70 ?_
    refine g_iload_n F 1 dX6_refuses_73 rfl rfl ?_
    refine g_iconst (v := 1) F dX6_refuses_74 (by decide) ?_
    refine g_iadd F dX6_refuses_75 ?_
    refine ga_23 (j := ((4 * mm) + 1)) F (by decide) (nx_add ex rfl) (by omega) dX6_refuses_76 ?_
    refine g_eqi (rd16 (by decide)) ?_
    refine g_eqi (T.2.2.1 hs_6_102).1 ?_
    refine g_aload_n F 0 dX6_refuses_77 rfl rfl ?_
    refine gf_16_11 F (by decide) mFL_X6_29 dX6_refuses_78 ?_
    refine g_iload_n F 1 dX6_refuses_81 rfl rfl ?_
    refine g_iconst (v := 2) F dX6_refuses_82 (by decide) ?_
    refine g_iadd F dX6_refuses_83 ?_
    refine ga_23 (j := ((4 * mm) + 2)) F (by decide) (nx_add ex rfl) (by omega) dX6_refuses_84 ?_
    refine g_eqi (rd16 (by decide)) ?_
    refine g_eqi (T.2.2.1 hs_6_102).2.1 ?_
    refine g_aload_n F 0 dX6_refuses_85 rfl rfl ?_
    refine gf_16_11 F (by decide) mFL_X6_29 dX6_refuses_86 ?_
    refine g_iload_n F 1 dX6_refuses_89 rfl rfl ?_
    refine g_iconst (v := 3) F dX6_refuses_90 (by decide) ?_
    refine g_iadd F dX6_refuses_91 ?_
    refine ga_23 (j := ((4 * mm) + 3)) F (by decide) (nx_add ex rfl) (by omega) dX6_refuses_92 ?_
    refine g_eqi (rd16 (by decide)) ?_
    refine g_eqi (T.2.2.1 hs_6_102).2.2 ?_
    refine g_callIs (na := 3) F (c_X6_refusesFrame hj) lk_X6_99 rfl rfl (by decide +kernel) ⟨rfl, rfl, Nat.le_of_ble_eq_true rfl, Nat.le_of_ble_eq_true rfl, Nat.le_of_ble_eq_true rfl, Nat.le_of_ble_eq_true rfl, Nat.le_of_ble_eq_true rfl⟩ dX6_refuses_93 (fun r_93 u_93 h_93 => ?_)
    obtain ⟨hc, rfl⟩ := h_93
    try dsimp only
    refine g_iret F hr hlk rfl dX6_refuses_96 ?_
    refine ⟨?_, rfl⟩
    rcases hc with ⟨h1, e2⟩ | ⟨h1, e2⟩
    · exact Or.inr ⟨by rw [e2]; decide, (-2, σ), Or.inr (Or.inl ⟨hs_6_102, Or.inl ⟨h1, rfl⟩⟩), (show (-2 : Int32) < 0 by decide)⟩
    · exact Or.inl ⟨e2, Or.inr (Or.inl ⟨hs_6_102, h1⟩)⟩
  by_cases hs_6_111 : (sgT pl pad tp) = 111
  · refine g_lookup F 40 dX6_refuses_6 (by decide) (by rw [hs_6_111] <;> rfl) (by decide) ?_
    refine g_aload_n F 0 dX6_refuses_40 rfl rfl ?_
    refine g_aload_n F 0 dX6_refuses_41 rfl rfl ?_
    refine gf_16_11 F (by decide) mFL_X6_29 dX6_refuses_42 ?_
    refine g_iload_n F 1 dX6_refuses_45 rfl rfl ?_
    refine g_iconst (v := 1) F dX6_refuses_46 (by decide) ?_
    refine g_iadd F dX6_refuses_47 ?_
    refine ga_23 (j := ((4 * mm) + 1)) F (by decide) (nx_add ex rfl) (by omega) dX6_refuses_48 ?_
    refine g_eqi (rd16 (by decide)) ?_
    refine g_eqi (T.2.1 hs_6_111).1 ?_
    refine g_aload_n F 0 dX6_refuses_49 rfl rfl ?_
    refine gf_16_11 F (by decide) mFL_X6_29 dX6_refuses_50 ?_
    refine g_iload_n F 1 dX6_refuses_53 rfl rfl ?_
    refine g_iconst (v := 2) F dX6_refuses_54 (by decide) ?_
    refine g_iadd F dX6_refuses_55 ?_
    refine ga_23 (j := ((4 * mm) + 2)) F (by decide) (nx_add ex rfl) (by omega) dX6_refuses_56 ?_
    refine g_eqi (rd16 (by decide)) ?_
    refine g_eqi (T.2.1 hs_6_111).2.1 ?_
    refine g_aload_n F 0 dX6_refuses_57 rfl rfl ?_
    refine gf_16_11 F (by decide) mFL_X6_29 dX6_refuses_58 ?_
    refine g_iload_n F 1 dX6_refuses_61 rfl rfl ?_
    refine g_iconst (v := 3) F dX6_refuses_62 (by decide) ?_
    refine g_iadd F dX6_refuses_63 ?_
    refine ga_23 (j := ((4 * mm) + 3)) F (by decide) (nx_add ex rfl) (by omega) dX6_refuses_64 ?_
    refine g_eqi (rd16 (by decide)) ?_
    refine g_eqi (T.2.1 hs_6_111).2.2 ?_
    refine g_callIv (na := 3) F 16 _ (c_X6_refusesOrder hj V) (by decide) rfl rfl lk_X6_93 rfl rfl (by decide +kernel) ⟨rfl, rfl, Nat.le_of_ble_eq_true rfl, Nat.le_of_ble_eq_true rfl, Nat.le_of_ble_eq_true rfl, Nat.le_of_ble_eq_true rfl, Nat.le_of_ble_eq_true rfl⟩ dX6_refuses_65 (fun r_65 u_65 h_65 => ?_)
    obtain ⟨hc, rfl⟩ := h_65
    try dsimp only
    refine g_iret F hr hlk rfl dX6_refuses_68 ?_
    refine ⟨?_, rfl⟩
    rcases hc with ⟨h1, e2⟩ | ⟨h1, h2, e2⟩ | ⟨h1, h2, e2⟩
    · exact Or.inr ⟨by rw [e2]; decide, (-2, σ), Or.inl ⟨hs_6_111, Or.inl ⟨h1, rfl⟩⟩, (show (-2 : Int32) < 0 by decide)⟩
    · exact Or.inr ⟨by rw [e2]; decide, (-4, σ), Or.inl ⟨hs_6_111, Or.inr (Or.inl ⟨h1, by rw [V.hofe]; exact h2, rfl⟩)⟩, (show (-4 : Int32) < 0 by decide)⟩
    · exact Or.inl ⟨e2, Or.inl ⟨hs_6_111, h1, h2⟩⟩
  by_cases hs_6_115 : (sgT pl pad tp) = 115
  · refine g_lookup F 97 dX6_refuses_6 (by decide) (by rw [hs_6_115] <;> rfl) (by decide) ?_
    refine g_aload_n F 0 dX6_refuses_97 rfl rfl ?_
    refine gf_16_11 F (by decide) mFL_X6_29 dX6_refuses_98 ?_
    refine g_iload_n F 1 dX6_refuses_101 rfl rfl ?_
    refine g_iconst (v := 1) F dX6_refuses_102 (by decide) ?_
    refine g_iadd F dX6_refuses_103 ?_
    refine ga_23 (j := ((4 * mm) + 1)) F (by decide) (nx_add ex rfl) (by omega) dX6_refuses_104 ?_
    refine g_eqi (rd16 (by decide)) ?_
    refine g_eqi (T.2.2.2.1 hs_6_115).1 ?_
    refine g_aload_n F 0 dX6_refuses_105 rfl rfl ?_
    refine gf_16_11 F (by decide) mFL_X6_29 dX6_refuses_106 ?_
    refine g_iload_n F 1 dX6_refuses_109 rfl rfl ?_
    refine g_iconst (v := 2) F dX6_refuses_110 (by decide) ?_
    refine g_iadd F dX6_refuses_111 ?_
    refine ga_23 (j := ((4 * mm) + 2)) F (by decide) (nx_add ex rfl) (by omega) dX6_refuses_112 ?_
    refine g_eqi (rd16 (by decide)) ?_
    refine g_eqi (T.2.2.2.1 hs_6_115).2 ?_
    refine g_callIs (na := 2) F (c_X6_refusesShorts hj) lk_X6_102 rfl rfl (by decide +kernel) ⟨rfl, rfl, Nat.le_of_ble_eq_true rfl, Nat.le_of_ble_eq_true rfl, Nat.le_of_ble_eq_true rfl, Nat.le_of_ble_eq_true rfl, Nat.le_of_ble_eq_true rfl⟩ dX6_refuses_113 (fun r_113 u_113 h_113 => ?_)
    obtain ⟨hc, rfl⟩ := h_113
    try dsimp only
    refine g_iret F hr hlk rfl dX6_refuses_116 ?_
    refine ⟨?_, rfl⟩
    rcases hc with ⟨h1, e2⟩ | ⟨h1, h2, e2⟩ | ⟨h1, h2, e2⟩
    · exact Or.inr ⟨by rw [e2]; decide, (-1, σ), Or.inr (Or.inr (Or.inl ⟨hs_6_115, Or.inl ⟨h1, rfl⟩⟩)), (show (-1 : Int32) < 0 by decide)⟩
    · exact Or.inr ⟨by rw [e2]; decide, (-2, σ), Or.inr (Or.inr (Or.inl ⟨hs_6_115, Or.inr (Or.inl ⟨h1, h2, rfl⟩)⟩)), (show (-2 : Int32) < 0 by decide)⟩
    · exact Or.inl ⟨e2, Or.inr (Or.inr (Or.inl ⟨hs_6_115, h1, h2⟩))⟩
  refine g_lookup (off := 111) F 117 dX6_refuses_6 (by decide) ((lv_osw hs_6_102 rfl).trans <| (lv_osw hs_6_111 rfl).trans <| (lv_osw hs_6_115 rfl).trans <| rfl) (by decide) ?_
  have K116 := or_k hO hs_6_111 hs_6_102 hs_6_115
  refine g_aload_n F 0 dX6_refuses_117 rfl rfl ?_
  refine g_aload_n F 0 dX6_refuses_118 rfl rfl ?_
  refine gf_16_11 F (by decide) mFL_X6_29 dX6_refuses_119 ?_
  refine g_iload_n F 1 dX6_refuses_122 rfl rfl ?_
  refine g_iconst (v := 1) F dX6_refuses_123 (by decide) ?_
  refine g_iadd F dX6_refuses_124 ?_
  refine ga_23 (j := ((4 * mm) + 1)) F (by decide) (nx_add ex rfl) (by omega) dX6_refuses_125 ?_
  refine g_eqi (rd16 (by decide)) ?_
  refine g_eqi (T.2.2.2.2 K116) ?_
  refine g_callIv (na := 1) F 16 _ (c_X6_refusesPass hj) (by decide) rfl rfl lk_X6_106 rfl rfl (by decide +kernel) ⟨rfl, rfl, Nat.le_of_ble_eq_true rfl, Nat.le_of_ble_eq_true rfl, Nat.le_of_ble_eq_true rfl, Nat.le_of_ble_eq_true rfl, Nat.le_of_ble_eq_true rfl⟩ dX6_refuses_126 (fun r_126 u_126 h_126 => ?_)
  obtain ⟨hc, rfl⟩ := h_126
  try dsimp only
  refine g_iret F hr hlk rfl dX6_refuses_129 ?_
  refine ⟨?_, rfl⟩
  rcases hc with ⟨h1, e2⟩ | ⟨h1, h2, e2⟩ | ⟨h1, h2, e2⟩
  · exact Or.inr ⟨by rw [e2]; decide, (-2, σ), Or.inr (Or.inr (Or.inr ⟨K116, Or.inl ⟨h1, rfl⟩⟩)), (show (-2 : Int32) < 0 by decide)⟩
  · exact Or.inr ⟨by rw [e2]; decide, (-5, σ), Or.inr (Or.inr (Or.inr ⟨K116, Or.inr (Or.inl ⟨h1, h2, rfl⟩)⟩)), (show (-5 : Int32) < 0 by decide)⟩
  · exact Or.inl ⟨e2, Or.inr (Or.inr (Or.inr ⟨K116, h1, h2⟩))⟩
set_option maxHeartbeats 4000000 in
set_option maxRecDepth 100000 in
theorem c_X6_does {l : Launch} {G : Gm} (hj : Aj G) {I : Ii} {pm : Pm} {σ : Sg} {n h : Nat} (V : Iv n h σ) {pl : Nat} {pad : Sg} {tp mm : Nat} (T : TD I mm pl pad tp) (hO : (orT pl pad tp).1 = true) (hmm : mm < 60) {x : Int32} (ex : x = nI (4 * mm)) (XO : exOK pl pad tp h σ) : CV l G yX6_does (wz yX6_does cX6_does 2 none) (rmL 7) [.ref (G.2.2 16 0), .int x] (upR I 17 0 σ) pm (fun u => ∃ q, exR pl pad tp σ q ∧ ¬ q.1 < 0 ∧ u = (upR I 17 0 q.2, pm)) := by
  have hn8 := V.2.1
  have hh20 := V.2.2.2.1
  refine CV.walk hj (by decide +kernel) (by show _ ≤ 2; exact Nat.le_of_ble_eq_true rfl) ?_
  intro p e s m args below meth c F hr hlk
  refine g_aload_n F 0 dX6_does_0 rfl rfl ?_
  refine gf_16_11 F (by decide) mFL_X6_29 dX6_does_1 ?_
  refine g_iload_n F 1 dX6_does_4 rfl rfl ?_
  refine ga_23 (j := (4 * mm)) F (by decide) ex (by omega) dX6_does_5 ?_
  refine g_eqi (rd16 (by decide)) ?_
  refine g_eqi T.1 ?_
  by_cases hs_6_102 : (sgT pl pad tp) = 102
  · refine g_lookup F 72 dX6_does_6 (by decide) (by rw [hs_6_102] <;> rfl) (by decide) ?_
    have XK : okF (nmV pl pad (tp + 1)) (nmV pl pad (p2T pl pad tp)) (nmV pl pad (p3T pl pad tp)) := by
      rcases XO with ⟨z, y⟩ | ⟨z, y⟩ | ⟨z, y⟩ | ⟨z, y⟩
      · exact absurd (hs_6_102.symm.trans z) (by decide)
      · exact y
      · exact absurd (hs_6_102.symm.trans z) (by decide)
      · exact absurd (hs_6_102.symm.trans z) (by decide)
    refine g_aload_n F 0 dX6_does_72 rfl rfl ?_
    refine g_aload_n F 0 dX6_does_73 rfl rfl ?_
    refine gf_16_11 F (by decide) mFL_X6_29 dX6_does_74 ?_
    refine g_iload_n F 1 dX6_does_77 rfl rfl ?_
    refine g_iconst (v := 1) F dX6_does_78 (by decide) ?_
    refine g_iadd F dX6_does_79 ?_
    refine ga_23 (j := ((4 * mm) + 1)) F (by decide) (nx_add ex rfl) (by omega) dX6_does_80 ?_
    refine g_eqi (rd16 (by decide)) ?_
    refine g_eqi (T.2.2.1 hs_6_102).1 ?_
    refine g_aload_n F 0 dX6_does_81 rfl rfl ?_
    refine gf_16_11 F (by decide) mFL_X6_29 dX6_does_82 ?_
    refine g_iload_n F 1 dX6_does_85 rfl rfl ?_
    refine g_iconst (v := 2) F dX6_does_86 (by decide) ?_
    refine g_iadd F dX6_does_87 ?_
    refine ga_23 (j := ((4 * mm) + 2)) F (by decide) (nx_add ex rfl) (by omega) dX6_does_88 ?_
    refine g_eqi (rd16 (by decide)) ?_
    refine g_eqi (T.2.2.1 hs_6_102).2.1 ?_
    refine g_aload_n F 0 dX6_does_89 rfl rfl ?_
    refine gf_16_11 F (by decide) mFL_X6_29 dX6_does_90 ?_
    refine g_iload_n F 1 dX6_does_93 rfl rfl ?_
    refine g_iconst (v := 3) F dX6_does_94 (by decide) ?_
    refine g_iadd F dX6_does_95 ?_
    refine ga_23 (j := ((4 * mm) + 3)) F (by decide) (nx_add ex rfl) (by omega) dX6_does_96 ?_
    refine g_eqi (rd16 (by decide)) ?_
    refine g_eqi (T.2.2.1 hs_6_102).2.2 ?_
    refine g_callIv (na := 3) F 16 _ (c_X6_comes hj V ⟨i_le.mp XK.2.1.1, i_le.mp XK.2.1.2⟩) (by decide) rfl rfl lk_X6_66 rfl rfl (by decide +kernel) ⟨rfl, rfl, Nat.le_of_ble_eq_true rfl, Nat.le_of_ble_eq_true rfl, Nat.le_of_ble_eq_true rfl, Nat.le_of_ble_eq_true rfl, Nat.le_of_ble_eq_true rfl⟩ dX6_does_97 (fun r_97 u_97 h_97 => ?_)
    obtain ⟨rfl, rfl⟩ := h_97
    try dsimp only
    refine g_pop F dX6_does_100 rfl ?_
    refine g_goto F 144 dX6_does_101 (by decide) ?_
    refine g_vret F hr hlk dX6_does_144 ?_
    first
    | exact ⟨(nI (h + 1), ordS h _ _ _ σ), Or.inl ⟨hs_6_111, Or.inr (Or.inr ⟨XK.1, by rw [V.hofe]; exact XK.2, by rw [V.hofe]⟩)⟩, nneg (by omega), rfl⟩
    | exact ⟨((comS n _ _ _ σ).2, (comS n _ _ _ σ).1), Or.inr (Or.inl ⟨hs_6_102, Or.inr ⟨XK, by rw [V.nofe]⟩⟩), com_nn (by omega), rfl⟩
    | exact ⟨(σ _, upd σ _ _), Or.inr (Or.inr (Or.inl ⟨hs_6_115, Or.inr (Or.inr ⟨XK.1, XK.2, rfl⟩)⟩)), nneg_i (V.2.2.2.2.2.1 _ (by omega)).1, rfl⟩
    | exact ⟨((itS n h σ _).2, (itS n h σ _).1), Or.inr (Or.inr (Or.inr ⟨K116, Or.inr (Or.inr ⟨XK.1, XK.2, by rw [V.nofe, V.hofe]⟩)⟩)), it_nn RG.1, rfl⟩
  by_cases hs_6_111 : (sgT pl pad tp) = 111
  · refine g_lookup F 40 dX6_does_6 (by decide) (by rw [hs_6_111] <;> rfl) (by decide) ?_
    have XK : okO (nmV pl pad (tp + 1)) (nmV pl pad (p2T pl pad tp)) (sgT pl pad (p3T pl pad tp) - 48) ∧ h < 20 := by
      rcases XO with ⟨z, y⟩ | ⟨z, y⟩ | ⟨z, y⟩ | ⟨z, y⟩
      · exact y
      · exact absurd (hs_6_111.symm.trans z) (by decide)
      · exact absurd (hs_6_111.symm.trans z) (by decide)
      · exact absurd (hs_6_111.symm.trans z) (by decide)
    refine g_aload_n F 0 dX6_does_40 rfl rfl ?_
    refine g_aload_n F 0 dX6_does_41 rfl rfl ?_
    refine gf_16_11 F (by decide) mFL_X6_29 dX6_does_42 ?_
    refine g_iload_n F 1 dX6_does_45 rfl rfl ?_
    refine g_iconst (v := 1) F dX6_does_46 (by decide) ?_
    refine g_iadd F dX6_does_47 ?_
    refine ga_23 (j := ((4 * mm) + 1)) F (by decide) (nx_add ex rfl) (by omega) dX6_does_48 ?_
    refine g_eqi (rd16 (by decide)) ?_
    refine g_eqi (T.2.1 hs_6_111).1 ?_
    refine g_aload_n F 0 dX6_does_49 rfl rfl ?_
    refine gf_16_11 F (by decide) mFL_X6_29 dX6_does_50 ?_
    refine g_iload_n F 1 dX6_does_53 rfl rfl ?_
    refine g_iconst (v := 2) F dX6_does_54 (by decide) ?_
    refine g_iadd F dX6_does_55 ?_
    refine ga_23 (j := ((4 * mm) + 2)) F (by decide) (nx_add ex rfl) (by omega) dX6_does_56 ?_
    refine g_eqi (rd16 (by decide)) ?_
    refine g_eqi (T.2.1 hs_6_111).2.1 ?_
    refine g_aload_n F 0 dX6_does_57 rfl rfl ?_
    refine gf_16_11 F (by decide) mFL_X6_29 dX6_does_58 ?_
    refine g_iload_n F 1 dX6_does_61 rfl rfl ?_
    refine g_iconst (v := 3) F dX6_does_62 (by decide) ?_
    refine g_iadd F dX6_does_63 ?_
    refine ga_23 (j := ((4 * mm) + 3)) F (by decide) (nx_add ex rfl) (by omega) dX6_does_64 ?_
    refine g_eqi (rd16 (by decide)) ?_
    refine g_eqi (T.2.1 hs_6_111).2.2 ?_
    refine g_callIv (na := 3) F 16 _ (c_X6_laysOrder hj V XK.2) (by decide) rfl rfl lk_X6_96 rfl rfl (by decide +kernel) ⟨rfl, rfl, Nat.le_of_ble_eq_true rfl, Nat.le_of_ble_eq_true rfl, Nat.le_of_ble_eq_true rfl, Nat.le_of_ble_eq_true rfl, Nat.le_of_ble_eq_true rfl⟩ dX6_does_65 (fun r_65 u_65 h_65 => ?_)
    obtain ⟨rfl, rfl⟩ := h_65
    try dsimp only
    refine g_pop F dX6_does_68 rfl ?_
    refine g_goto F 144 dX6_does_69 (by decide) ?_
    refine g_vret F hr hlk dX6_does_144 ?_
    first
    | exact ⟨(nI (h + 1), ordS h _ _ _ σ), Or.inl ⟨hs_6_111, Or.inr (Or.inr ⟨XK.1, by rw [V.hofe]; exact XK.2, by rw [V.hofe]⟩)⟩, nneg (by omega), rfl⟩
    | exact ⟨((comS n _ _ _ σ).2, (comS n _ _ _ σ).1), Or.inr (Or.inl ⟨hs_6_102, Or.inr ⟨XK, by rw [V.nofe]⟩⟩), com_nn (by omega), rfl⟩
    | exact ⟨(σ _, upd σ _ _), Or.inr (Or.inr (Or.inl ⟨hs_6_115, Or.inr (Or.inr ⟨XK.1, XK.2, rfl⟩)⟩)), nneg_i (V.2.2.2.2.2.1 _ (by omega)).1, rfl⟩
    | exact ⟨((itS n h σ _).2, (itS n h σ _).1), Or.inr (Or.inr (Or.inr ⟨K116, Or.inr (Or.inr ⟨XK.1, XK.2, by rw [V.nofe, V.hofe]⟩)⟩)), it_nn RG.1, rfl⟩
  by_cases hs_6_115 : (sgT pl pad tp) = 115
  · refine g_lookup F 104 dX6_does_6 (by decide) (by rw [hs_6_115] <;> rfl) (by decide) ?_
    have XK : (0 ≤ sgT pl pad (tp + 1) - 48 ∧ sgT pl pad (tp + 1) - 48 ≤ 7) ∧ (0 ≤ nmV pl pad (tp + 3) ∧ nmV pl pad (tp + 3) ≤ 99) := by
      rcases XO with ⟨z, y⟩ | ⟨z, y⟩ | ⟨z, y⟩ | ⟨z, y⟩
      · exact absurd (hs_6_115.symm.trans z) (by decide)
      · exact absurd (hs_6_115.symm.trans z) (by decide)
      · exact y
      · exact absurd (hs_6_115.symm.trans z) (by decide)
    have RG := rng (M := 7) (m := 7) rfl XK.1.1 XK.1.2
    have RG1 := RG.1
    refine g_aload_n F 0 dX6_does_104 rfl rfl ?_
    refine gf_16_1 F (by decide) mFL_X6_7 dX6_does_105 ?_
    refine g_bipush (v := 8) F dX6_does_108 (by decide) ?_
    refine g_aload_n F 0 dX6_does_110 rfl rfl ?_
    refine gf_16_11 F (by decide) mFL_X6_29 dX6_does_111 ?_
    refine g_iload_n F 1 dX6_does_114 rfl rfl ?_
    refine g_iconst (v := 1) F dX6_does_115 (by decide) ?_
    refine g_iadd F dX6_does_116 ?_
    refine ga_23 (j := ((4 * mm) + 1)) F (by decide) (nx_add ex rfl) (by omega) dX6_does_117 ?_
    refine g_eqi (rd16 (by decide)) ?_
    refine g_eqi (T.2.2.2.1 hs_6_115).1 ?_
    refine g_iadd F dX6_does_118 ?_
    refine g_aload_n F 0 dX6_does_119 rfl rfl ?_
    refine gf_16_11 F (by decide) mFL_X6_29 dX6_does_120 ?_
    refine g_iload_n F 1 dX6_does_123 rfl rfl ?_
    refine g_iconst (v := 2) F dX6_does_124 (by decide) ?_
    refine g_iadd F dX6_does_125 ?_
    refine ga_23 (j := ((4 * mm) + 2)) F (by decide) (nx_add ex rfl) (by omega) dX6_does_126 ?_
    refine g_eqi (rd16 (by decide)) ?_
    refine g_eqi (T.2.2.2.1 hs_6_115).2 ?_
    refine gs_17 (j := (8 + (sgT pl pad (tp + 1) - 48).toInt.toNat)) F (by decide) (nx_add (a := 8) rfl RG.2) (by omega) dX6_does_127 ?_
    refine g_I wr17 ?_
    refine g_goto F 144 dX6_does_128 (by decide) ?_
    refine g_vret F hr hlk dX6_does_144 ?_
    first
    | exact ⟨(nI (h + 1), ordS h _ _ _ σ), Or.inl ⟨hs_6_111, Or.inr (Or.inr ⟨XK.1, by rw [V.hofe]; exact XK.2, by rw [V.hofe]⟩)⟩, nneg (by omega), rfl⟩
    | exact ⟨((comS n _ _ _ σ).2, (comS n _ _ _ σ).1), Or.inr (Or.inl ⟨hs_6_102, Or.inr ⟨XK, by rw [V.nofe]⟩⟩), com_nn (by omega), rfl⟩
    | exact ⟨(σ _, upd σ _ _), Or.inr (Or.inr (Or.inl ⟨hs_6_115, Or.inr (Or.inr ⟨XK.1, XK.2, rfl⟩)⟩)), nneg_i (V.2.2.2.2.2.1 _ (by omega)).1, rfl⟩
    | exact ⟨((itS n h σ _).2, (itS n h σ _).1), Or.inr (Or.inr (Or.inr ⟨K116, Or.inr (Or.inr ⟨XK.1, XK.2, by rw [V.nofe, V.hofe]⟩)⟩)), it_nn RG.1, rfl⟩
  refine g_lookup (off := 125) F 131 dX6_does_6 (by decide) ((lv_osw hs_6_102 rfl).trans <| (lv_osw hs_6_111 rfl).trans <| (lv_osw hs_6_115 rfl).trans <| rfl) (by decide) ?_
  have K116 := or_k hO hs_6_111 hs_6_102 hs_6_115
  have XK : (1 ≤ nmV pl pad (tp + 1) ∧ nmV pl pad (tp + 1) ≤ 99) ∧ ¬ 99999 < σ 0 + nmV pl pad (tp + 1) := by
    rcases XO with ⟨z, y⟩ | ⟨z, y⟩ | ⟨z, y⟩ | ⟨z, y⟩
    · exact absurd (K116.symm.trans z) (by decide)
    · exact absurd (K116.symm.trans z) (by decide)
    · exact absurd (K116.symm.trans z) (by decide)
    · exact y
  have RG := rng (M := 99) (m := 99) rfl (Int32.le_trans (by decide) XK.1.1) XK.1.2
  refine g_aload_n F 0 dX6_does_131 rfl rfl ?_
  refine g_aload_n F 0 dX6_does_132 rfl rfl ?_
  refine gf_16_11 F (by decide) mFL_X6_29 dX6_does_133 ?_
  refine g_iload_n F 1 dX6_does_136 rfl rfl ?_
  refine g_iconst (v := 1) F dX6_does_137 (by decide) ?_
  refine g_iadd F dX6_does_138 ?_
  refine ga_23 (j := ((4 * mm) + 1)) F (by decide) (nx_add ex rfl) (by omega) dX6_does_139 ?_
  refine g_eqi (rd16 (by decide)) ?_
  refine g_eqi (T.2.2.2.2 K116) ?_
  refine g_callIv (na := 1) F 16 _ (c_X6_ticks hj V RG.2 RG.1) (by decide) rfl rfl lk_X6_109 rfl rfl (by decide +kernel) ⟨rfl, rfl, Nat.le_of_ble_eq_true rfl, Nat.le_of_ble_eq_true rfl, Nat.le_of_ble_eq_true rfl, Nat.le_of_ble_eq_true rfl, Nat.le_of_ble_eq_true rfl⟩ dX6_does_140 (fun r_140 u_140 h_140 => ?_)
  obtain ⟨rfl, rfl⟩ := h_140
  try dsimp only
  refine g_pop F dX6_does_143 rfl ?_
  refine g_vret F hr hlk dX6_does_144 ?_
  first
  | exact ⟨(nI (h + 1), ordS h _ _ _ σ), Or.inl ⟨hs_6_111, Or.inr (Or.inr ⟨XK.1, by rw [V.hofe]; exact XK.2, by rw [V.hofe]⟩)⟩, nneg (by omega), rfl⟩
  | exact ⟨((comS n _ _ _ σ).2, (comS n _ _ _ σ).1), Or.inr (Or.inl ⟨hs_6_102, Or.inr ⟨XK, by rw [V.nofe]⟩⟩), com_nn (by omega), rfl⟩
  | exact ⟨(σ _, upd σ _ _), Or.inr (Or.inr (Or.inl ⟨hs_6_115, Or.inr (Or.inr ⟨XK.1, XK.2, rfl⟩)⟩)), nneg_i (V.2.2.2.2.2.1 _ (by omega)).1, rfl⟩
  | exact ⟨((itS n h σ _).2, (itS n h σ _).1), Or.inr (Or.inr (Or.inr ⟨K116, Or.inr (Or.inr ⟨XK.1, XK.2, by rw [V.nofe, V.hofe]⟩)⟩)), it_nn RG.1, rfl⟩
def FC6 (I I' : Ii) : Prop := ∀ K i c, (K < 16 ∨ K = 20 ∨ K = 21 ∨ K = 22) → I' K i c = I K i c
set_option maxHeartbeats 4000000 in
set_option maxRecDepth 100000 in
theorem c_X6_carryOut {l : Launch} {G : Gm} (hj : Aj G) {I : Ii} {pm : Pm} {σ : Sg} {n h : Nat} (V : Iv n h σ) {hn : Nat} {hist : Nat → Sg} (M : MXH I hn hist) {pl : Nat} {pad : Sg} (P : MP I pl pad) : CI l G yX6_carryOut (wz yX6_carryOut cX6_carryOut 2 (some .int)) (rmL 8) [.ref (G.2.2 16 0)] (upR I 17 0 σ) pm (fun r u => ∃ r0, ffR pl pad r0 ∧ ∃ ia τ, u = (upR ia 17 0 τ, pm) ∧ ((r0 ≠ -6 ∧ r = -3 ∧ τ = σ ∧ MXH ia hn hist ∧ ia 16 0 8 = nI pl) ∨ (∃ j q, wfT pl pad j ∧ caR pl pad (j + 1) 0 σ q ∧ r = nI q.1 ∧ τ = q.2 ∧ MXH ia (pushN hn) (pushH hn hist σ) ∧ ia 16 0 8 = nI 0)) ∧ FC6 I ia) := by
  refine CI.walk hj (by decide +kernel) (by show _ ≤ 2; exact Nat.le_of_ble_eq_true rfl) ?_
  intro p e s m args below meth c F hr hlk
  have h80 := P.2.1
  have FIN : ∀ ic, MXH ic (pushN hn) (pushH hn hist σ) → FC6 I ic → ic 16 0 8 = nI 0 → ∀ N, wfT pl pad N → ∀ (τ : Sg) (r : Int32) (cnt : Nat), r = nI cnt → caR pl pad (N + 1) 0 σ (cnt, τ) → (fun r u => ∃ r0, ffR pl pad r0 ∧ ∃ ia τ, u = (upR ia 17 0 τ, pm) ∧ ((r0 ≠ -6 ∧ r = -3 ∧ τ = σ ∧ MXH ia hn hist ∧ ia 16 0 8 = nI pl) ∨ (∃ j q, wfT pl pad j ∧ caR pl pad (j + 1) 0 σ q ∧ r = nI q.1 ∧ τ = q.2 ∧ MXH ia (pushN hn) (pushH hn hist σ) ∧ ia 16 0 8 = nI 0)) ∧ FC6 I ia) r (upR ic 17 0 τ, pm) := fun ic M3 f3 h8 N hN τ r cnt er hc => ⟨-6, wf_ff hN, ic, τ, rfl, Or.inr ⟨N, (cnt, τ), hN, hc, er, rfl, M3, h8⟩, f3⟩
  have LOOP : ∀ ic, MXH ic (pushN hn) (pushH hn hist σ) → FC6 I ic → ic 16 0 8 = nI 0 → ∀ N, wfT pl pad N → ic 16 0 12 = nI (N + 1) → (∀ i, i ≤ N → TD ic i pl pad (posT pl pad i)) → ∀ j, j ≤ N + 1 → ∀ (τ : Sg), (∃ n' h', Iv n' h' τ) → (∀ y, caR pl pad (N + 1 - j) (posT pl pad j) τ y → caR pl pad (N + 1) 0 σ (y.1 + j, y.2)) → ∀ xj, xj = nI j → GG p l e (rmL 8) s m args below meth c G (AA G) 2 0 0 (MQ below (va_Qi (fun (r : Int32) (u : Ii × Pm) => ∃ r0, ffR pl pad r0 ∧ ∃ ia τ, u = (upR ia 17 0 τ, pm) ∧ ((r0 ≠ -6 ∧ r = -3 ∧ τ = σ ∧ MXH ia hn hist ∧ ia 16 0 8 = nI pl) ∨ (∃ j q, wfT pl pad j ∧ caR pl pad (j + 1) 0 σ q ∧ r = nI q.1 ∧ τ = q.2 ∧ MXH ia (pushN hn) (pushH hn hist σ) ∧ ia 16 0 8 = nI 0)) ∧ FC6 I ia) (fun (u : Ii × Pm) t => Wd G u.1 u.2 t.heap) (AA G)) args s 0 0 (AA G)) (upR ic 17 0 τ) pm [(0, .ref (G.2.2 16 0)), (1, .int xj)] 28 [] := by
    intro ic M3 f3 h8 N hN h12 hT
    have h26 := wf_26 h80 hN
    refine dn_ind ?_
    intro j hjN ih τ hV hc xj ej
    obtain ⟨n', h', V'⟩ := hV
    have HOR : j < N + 1 → (orT pl pad (posT pl pad j)).1 = true := fun hlt => by
      by_cases q : j = N
      · rw [q]; exact hN.2.1
      · exact (hN.1 j (by omega)).1
    refine g_iload_n F 1 dX6_carryOut_28 rfl rfl ?_
    refine g_aload_n F 0 dX6_carryOut_29 rfl rfl ?_
    refine gf_16_12 F (by decide) mFL_X6_145 dX6_carryOut_30 ?_
    refine g_eqi (rd16 (by decide)) ?_
    refine g_icmp_ge F 61 dX6_carryOut_33 (by decide) (fun c_33 => ?_) (fun c_33 => ?_)
    · have n_33 := nx_get (a := j) (b := (N + 1)) ej h12 (by omega) (by omega) c_33
      refine g_aload_n F 0 dX6_carryOut_61 rfl rfl ?_
      refine gf_16_12 F (by decide) mFL_X6_145 dX6_carryOut_62 ?_
      refine g_eqi (rd16 (by decide)) ?_
      refine g_iret F hr hlk rfl dX6_carryOut_65 ?_
      refine FIN ic M3 f3 h8 N hN τ _ (N + 1) h12 ?_
      have := hc (0, τ) (by rw [show N + 1 - j = 0 by omega]; rfl)
      rw [show N + 1 = 0 + j by omega] at this ⊢
      exact this
    · have n_33 := nx_gef (a := j) (b := (N + 1)) ej h12 (by omega) (by omega) c_33
      refine g_aload_n F 0 dX6_carryOut_36 rfl rfl ?_
      refine g_iconst (v := 4) F dX6_carryOut_37 (by decide) ?_
      refine g_iload_n F 1 dX6_carryOut_38 rfl rfl ?_
      refine g_imul F dX6_carryOut_39 ?_
      refine g_callIv (na := 1) F 16 _ (c_X6_refuses hj V' (hT j (by omega)) (HOR (by omega)) (by omega) (nx_mul (a := 4) rfl ej)) (by decide) rfl rfl lk_X6_160 rfl rfl (by decide +kernel) ⟨rfl, rfl, Nat.le_of_ble_eq_true rfl, Nat.le_of_ble_eq_true rfl, Nat.le_of_ble_eq_true rfl, Nat.le_of_ble_eq_true rfl, Nat.le_of_ble_eq_true rfl⟩ dX6_carryOut_40 (fun r_40 u_40 h_40 => ?_)
      obtain ⟨hc2, rfl⟩ := h_40
      try dsimp only
      refine g_if_eq F 48 dX6_carryOut_43 (by decide) (fun c_43 => ?_) (fun c_43 => ?_)
      · have XO : exOK pl pad (posT pl pad j) h' τ := by
          rcases hc2 with ⟨-, y⟩ | ⟨y, -⟩
          · exact y
          · exact absurd c_43 y
        refine g_aload_n F 0 dX6_carryOut_48 rfl rfl ?_
        refine g_iconst (v := 4) F dX6_carryOut_49 (by decide) ?_
        refine g_iload_n F 1 dX6_carryOut_50 rfl rfl ?_
        refine g_imul F dX6_carryOut_51 ?_
        refine g_callVv (na := 1) F 16 _ (c_X6_does hj V' (hT j (by omega)) (HOR (by omega)) (by omega) (nx_mul (a := 4) rfl ej) XO) (by decide) rfl rfl lk_X6_163 rfl rfl (by decide +kernel) ⟨rfl, rfl, Nat.le_of_ble_eq_true rfl, Nat.le_of_ble_eq_true rfl, Nat.le_of_ble_eq_true rfl, Nat.le_of_ble_eq_true rfl, Nat.le_of_ble_eq_true rfl⟩ dX6_carryOut_52 (fun u_52 h_52 => ?_)
        obtain ⟨q, hq, hpos2, rfl⟩ := h_52
        try dsimp only
        refine g_iincC (q := 1) (L' := [(1, _), (0, _)]) F 1 dX6_carryOut_55 (by decide) rfl (by decide) rfl ?_
        refine g_goto F 28 dX6_carryOut_58 (by decide) ?_
        refine g_sub [1, 0] rfl ?_
        refine ih (by omega) q.2 ⟨_, _, exR.ok V' hq hpos2⟩ (fun y hy => ?_) _ (nx_add ej rfl)
        have := hc (y.1 + 1, y.2) (by rw [show N + 1 - j = (N + 1 - (j + 1)) + 1 by omega]; exact ⟨q, hq, Or.inr ⟨hpos2, y, hy, rfl⟩⟩)
        rw [show y.1 + (j + 1) = y.1 + 1 + j by omega]
        exact this
      · obtain ⟨q, hq, hneg⟩ : ∃ q, exR pl pad (posT pl pad j) τ q ∧ q.1 < 0 := by
          rcases hc2 with ⟨y, -⟩ | ⟨-, y⟩
          · exact absurd y c_43
          · exact y
        refine g_iload_n F 1 dX6_carryOut_46 rfl rfl ?_
        refine g_iret F hr hlk rfl dX6_carryOut_47 ?_
        refine FIN ic M3 f3 h8 N hN τ _ j ej ?_
        have := hc (0, τ) (by rw [show N + 1 - j = (N - j) + 1 by omega]; exact ⟨q, hq, Or.inl ⟨hneg, rfl⟩⟩)
        rw [show j = 0 + j by omega]
        exact this
  refine g_aload_n F 0 dX6_carryOut_0 rfl rfl ?_
  refine g_iconst (v := 0) F dX6_carryOut_1 (by decide) ?_
  refine gp_16_0 F (by decide) mFL_X6_32 dX6_carryOut_2 ?_
  refine g_I (wr16 (by decide)) ?_
  refine g_aload_n F 0 dX6_carryOut_5 rfl rfl ?_
  refine g_callIv (na := 0) F 16 _ (c_X6_reads hj P.thr) (by decide) rfl rfl lk_X6_157 rfl rfl (by decide +kernel) ⟨rfl, rfl, Nat.le_of_ble_eq_true rfl, Nat.le_of_ble_eq_true rfl, Nat.le_of_ble_eq_true rfl, Nat.le_of_ble_eq_true rfl, Nat.le_of_ble_eq_true rfl⟩ dX6_carryOut_6 (fun r_6 u_6 h_6 => ?_)
  obtain ⟨hf, ia, rfl, f, hTs⟩ := h_6
  try dsimp only
  have M2 : MXH ia hn hist := ⟨(f 16 0 4 (by decide) (by decide)).trans M.thr.1, M.2.1, fun i hi k hk => (f 19 0 _ (by omega) (by omega)).trans (M.thr.2.2 i hi k hk)⟩
  have F2 : FC6 I ia := fun K i cc hK => (f K i cc (by omega) (by omega)).trans (up3_n (by omega))
  refine g_bipush (v := -6) F dX6_carryOut_9 (by decide) ?_
  refine g_icmp_eq F 17 dX6_carryOut_11 (by decide) (fun c_11 => ?_) (fun c_11 => ?_)
  · refine g_aload_n F 0 dX6_carryOut_17 rfl rfl ?_
    refine g_callVv (na := 0) F 16 _ (c_X6_records hj M2) (by decide) rfl rfl lk_X6_90 rfl rfl (by decide +kernel) ⟨rfl, rfl, Nat.le_of_ble_eq_true rfl, Nat.le_of_ble_eq_true rfl, Nat.le_of_ble_eq_true rfl, Nat.le_of_ble_eq_true rfl, Nat.le_of_ble_eq_true rfl⟩ dX6_carryOut_18 (fun u_18 h_18 => ?_)
    obtain ⟨ib, rfl, M3, fh⟩ := h_18
    try dsimp only
    obtain ⟨N, hN⟩ := ff_none h80 (by rw [c_11] at hf; exact hf)
    refine g_aload_n F 0 dX6_carryOut_21 rfl rfl ?_
    refine g_iconst (v := 0) F dX6_carryOut_22 (by decide) ?_
    refine gp_16_8 F (by decide) mFL_X6_121 dX6_carryOut_23 ?_
    refine g_I (wr16 (by decide)) ?_
    refine g_iconst (v := 0) F dX6_carryOut_26 (by decide) ?_
    refine g_istore_n (L' := [(1, _), (0, _)]) F dX6_carryOut_27 rfl (by decide) rfl ?_
    refine g_sub [1, 0] rfl ?_
    exact LOOP (up3 ib 16 0 8 0) ⟨(up3_n (by decide)).trans M3.1, M3.2.1, fun i hi k hk => (up3_k (by decide)).trans (M3.2.2 i hi k hk)⟩ (fun K i cc hK => (up3_n (by omega)).trans ((fh K i cc (by omega) (by omega)).trans (F2 K i cc hK))) up3_s N hN ((up3_n (by decide)).trans ((fh 16 0 12 (by decide) (by decide)).trans (hTs N hN).1)) (fun i hi => ((hTs N hN).2 i hi).keep (fun cc hcc => (up3_k (by decide)).trans (fh 23 0 cc (by omega) (by decide)))) 0 (Nat.zero_le _) σ ⟨n, h, V⟩ (fun y hy => hy) _ (by first | rfl | assumption)
  · refine g_bipush (v := -3) F dX6_carryOut_14 (by decide) ?_
    refine g_iret F hr hlk rfl dX6_carryOut_16 ?_
    exact ⟨_, hf, ia, σ, rfl, Or.inl ⟨c_11, rfl, rfl, M2, (f 16 0 8 (by decide) (by decide)).trans P.thr.1⟩, F2⟩
