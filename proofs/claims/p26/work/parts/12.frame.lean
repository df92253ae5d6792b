/-! PART 12: bounds that stay; a frame is taken -/
theorem Rp.cnt {n h : Nat} {I : Ii} {pm : Pm} {k : Nat} {σ : Sg} (R : Rp n h I pm k σ) : I 0 k 3 = nI n := R.1.1.trans R.2.2.2.2.2.2.1
theorem Rp.hel {n h : Nat} {I : Ii} {pm : Pm} {k : Nat} {σ : Sg} (R : Rp n h I pm k σ) : I 2 k 3 = nI h := R.1.2.2.2.2.2.2.2.trans R.2.2.2.2.2.2.2.2.1
theorem Rp.n8 {n h : Nat} {I : Ii} {pm : Pm} {k : Nat} {σ : Sg} (R : Rp n h I pm k σ) : n ≤ 8 := R.2.2.2.2.2.2.2.1
theorem Rp.h20 {n h : Nat} {I : Ii} {pm : Pm} {k : Nat} {σ : Sg} (R : Rp n h I pm k σ) : h ≤ 20 := R.2.2.2.2.2.2.2.2.2
theorem Rp.p8 {n h : Nat} {I : Ii} {pm : Pm} {k : Nat} {σ : Sg} (R : Rp n h I pm k σ) {r : Nat} (hr : r < 8) : pm k r < 8 := R.2.2.2.2.1 r hr
theorem Rp.lc {n h : Nat} {I : Ii} {pm : Pm} {k : Nat} {σ : Sg} (R : Rp n h I pm k σ) {r f : Nat} (hr : r < n) (hf : f < 11) : I 7 (8 * k + pm k r) (fmS f) = σ (16 + 11 * r + f) := R.2.2.1 r f hr hf
theorem Rp.sh {n h : Nat} {I : Ii} {pm : Pm} {k : Nat} {σ : Sg} (R : Rp n h I pm k σ) {b : Nat} (hb : b < 8) : I 6 k b = σ (8 + b) := R.2.1 b hb
theorem blk_lt {σ : Sg} {r : Nat} (h : LcOk σ r) : blkS σ r < 8 := by
  have := h.2.2.1
  unfold blkS
  omega
theorem blk_eq {σ : Sg} {r : Nat} (h : LcOk σ r) : σ (16 + 11 * r + 3) / 100 = nI (blkS σ r) := by
  have h3 := h.2.2.1
  unfold blkS
  exact nx_div (nat_of h3.1) (b := 100) rfl (by omega) (by decide) (by decide)
theorem Rp.blk {n h : Nat} {I : Ii} {pm : Pm} {k : Nat} {σ : Sg} (R : Rp n h I pm k σ) {r : Nat} (hr : r < n) (h : LcOk σ r) : I 7 (8 * k + pm k r) 3 / 100 = nI (blkS σ r) := by
  rw [← blk_eq h, ← R.lc hr (f := 3) (by decide)]
  rfl
theorem LcOk.cong {σ σ' : Sg} {r : Nat} (h : LcOk σ r) (e : ∀ f, f < 11 → σ' (16 + 11 * r + f) = σ (16 + 11 * r + f)) : LcOk σ' r := by
  unfold LcOk
  rw [e 1 (by decide), e 2 (by decide), e 3 (by decide), e 4 (by decide), e 5 (by decide), e 6 (by decide), e 7 (by decide)]
  exact h
theorem Iv.num {n h : Nat} {σ σ' : Sg} (V : Iv n h σ) (e : ∀ i, 6 ≤ i → σ' i = σ i) (e1 : σ' 1 = σ 1) : Iv n h σ' := by
  obtain ⟨v1, v2, v3, v4, v5, v6, v7, v8⟩ := V
  refine ⟨by rw [e 6 (by decide)]; exact v1, v2, by rw [e 7 (by decide)]; exact v3, v4, fun r hr => (v5 r hr).cong (fun f hf => e _ (by omega)), fun b hb => by rw [e _ (by omega)]; exact v6 b hb, by rw [e1]; exact v7, fun j hj => ?_⟩
  rw [e _ (by omega), e _ (by omega)]
  exact v8 j hj
/-- the numbers of one loco change, and stay in their bounds -/
theorem Iv.loco {n h : Nat} {σ σ' : Sg} (V : Iv n h σ) {r : Nat} (hr : r < n) (e : ∀ i, (i < 16 + 11 * r ∨ 16 + 11 * r + 11 ≤ i) → σ' i = σ i) (hl : LcOk σ' r) : Iv n h σ' := by
  obtain ⟨v1, v2, v3, v4, v5, v6, v7, v8⟩ := V
  refine ⟨by rw [e 6 (by omega)]; exact v1, v2, by rw [e 7 (by omega)]; exact v3, v4, fun r' hr' => ?_, fun b hb => by rw [e _ (by omega)]; exact v6 b hb, by rw [e 1 (by omega)]; exact v7, fun j hj => ?_⟩
  · by_cases hq : r' = r
    · subst hq; exact hl
    · exact (v5 r' hr').cong (fun f hf => e _ (by omega))
  · rw [e _ (by omega), e _ (by omega)]
    exact v8 j hj
theorem hear_out {σ : Sg} {r : Nat} {d : Int32} {i : Nat} (h : i < 16 + 11 * r ∨ 16 + 11 * r + 11 ≤ i) : hearS r d σ i = σ i := by
  unfold hearS
  have n9 : i ≠ 16 + 11 * r + 9 := by omega
  have n6 : i ≠ 16 + 11 * r + 6 := by omega
  have n7 : i ≠ 16 + 11 * r + 7 := by omega
  have n5 : i ≠ 16 + 11 * r + 5 := by omega
  have n8 : i ≠ 16 + 11 * r + 8 := by omega
  split
  · rw [upd_n n5, upd_n n6, upd_n n9]
  · split
    · rw [upd_n n8, upd_n n9]
    · split
      · rw [upd_n n7, upd_n n6, upd_n n9]
      · rw [upd_n n9]
theorem Iv.hear {n h : Nat} {σ : Sg} (V : Iv n h σ) {r : Nat} (hr : r < n) {d : Int32} (hd : 0 ≤ d.toInt ∧ d.toInt ≤ 255) : Iv n h (hearS r d σ) := by
  refine V.loco hr (fun i hi => hear_out hi) ?_
  have L := V.2.2.2.2.1 r hr
  obtain ⟨l1, l2, l3, l4, l5, l6, l7⟩ := L
  have hm : (d % 128).toInt = d.toInt % 128 := by rw [Kit.i32_rem_nonneg hd.1]; rfl
  have hq : d / 128 = nI (d.toInt.toNat / 128) := nx_div (nat_of hd.1) (b := 128) rfl (by omega) (by decide) (by decide)
  have hq2 : (d / 128).toInt = ((d.toInt.toNat / 128 : Nat) : Int) := by rw [hq, nI_toInt (by omega)]
  unfold hearS LcOk
  split
  · simp only [upd]
    simp
    exact ⟨l1, l2, l3, l4, l7⟩
  · split
    · simp only [upd]
      simp
      exact ⟨l1, l2, l3, l4, l5, l6, l7⟩
    · split
      · simp only [upd]
        simp [-Int32.toInt_div, -Int32.toInt_mod]
        rw [hm, hq2]
        refine ⟨l1, l2, l3, l4, l5, ⟨by omega, ?_⟩, by omega, by omega⟩
        rename_i q
        have q2 := i_le.mp q.2
        rw [hm] at q2
        exact q2
      · simp only [upd]
        simp
        exact ⟨l1, l2, l3, l4, l5, l6, l7⟩
theorem Iv.cml {n h : Nat} {a d : Int32} (hd : 0 ≤ d.toInt ∧ d.toInt ≤ 255) {q : Sg × Int32} (V : Iv n h q.1) : ∀ j, j ≤ n → Iv n h (cmL a d j q).1 := by
  intro j
  induction j with
  | zero => exact fun _ => V
  | succ j ih =>
    intro hj
    have h1 := ih (by omega)
    show Iv n h (cmStep a d j (cmL a d j q)).1
    unfold cmStep
    split
    · exact h1.hear (by omega) hd
    · exact h1
theorem Iv.com {n h : Nat} {a d c : Int32} {σ : Sg} (V : Iv n h σ) (hd : 0 ≤ d.toInt ∧ d.toInt ≤ 255) : Iv n h (comS n a d c σ).1 := by
  have V1 : Iv n h (upd σ 3 (σ 3 + 1)) := V.num (fun i hi => upd_n (by omega)) (by simp [upd])
  unfold comS
  split
  · exact Iv.cml hd V1 n (Nat.le_refl _)
  · exact V1.num (fun i hi => upd_n (by omega)) (by simp [upd])

set_option maxHeartbeats 4000000 in
set_option maxRecDepth 100000 in
theorem c_X1_isShorted {l : Launch} {G : Gm} (hj : Aj G) {I : Ii} {pm : Pm} {k : Nat} (hk : k < 11) {x : Int32} {b : Nat} (hb : b < 8) (hx : x = nI b) : CI l G yX1_isShorted (wz yX1_isShorted cX1_isShorted 2 (some .boolean)) (rmL 0) [.ref (G.2.2 0 k), .int x] I pm (fun r u => r = bz (0 < I 6 k b) ∧ u = (I, pm)) := by
  refine CI.walk hj (by decide +kernel) (by show _ ≤ 2; exact Nat.le_of_ble_eq_true rfl) ?_
  intro p e s m args below meth c F hr hlk
  refine g_iload_n F 1 dX1_isShorted_0 rfl rfl ?_
  refine g_if_lt F 23 dX1_isShorted_1 (by decide) (fun c_1 => ?_) (fun c_1 => ?_)
  · have n_1 := nx_ltt (a := b) (b := 0) hx rfl (by omega) (by omega) c_1
    omega
  · have n_1 := nx_ltf (a := b) (b := 0) hx rfl (by omega) (by omega) c_1
    refine g_iload_n F 1 dX1_isShorted_4 rfl rfl ?_
    refine g_bipush (v := 8) F dX1_isShorted_5 (by decide) ?_
    refine g_icmp_ge F 23 dX1_isShorted_7 (by decide) (fun c_7 => ?_) (fun c_7 => ?_)
    · have n_7 := nx_get (a := b) (b := 8) hx rfl (by omega) (by omega) c_7
      omega
    · have n_7 := nx_gef (a := b) (b := 8) hx rfl (by omega) (by omega) c_7
      skip
      refine g_aload_n F 0 dX1_isShorted_10 rfl rfl ?_
      refine gf_0_2 F hk mFL_X1_24 dX1_isShorted_11 ?_
      refine g_iload_n F 1 dX1_isShorted_14 rfl rfl ?_
      refine ga_6 (j := b) F hk hx (by omega) dX1_isShorted_15 ?_
      refine g_if_le F 23 dX1_isShorted_16 (by decide) (fun c_16 => ?_) (fun c_16 => ?_)
      · refine g_iconst (v := 0) F dX1_isShorted_23 (by decide) ?_
        exact g_iret F hr hlk rfl dX1_isShorted_24 (by simp_all [bz, Int32.not_le, Int32.not_lt])
      · refine g_iconst (v := 1) F dX1_isShorted_19 (by decide) ?_
        refine g_goto F 24 dX1_isShorted_20 (by decide) ?_
        exact g_iret F hr hlk rfl dX1_isShorted_24 (by simp_all [bz, Int32.not_le, Int32.not_lt])
set_option maxHeartbeats 4000000 in
set_option maxRecDepth 100000 in
theorem c_X1_takeFrame {l : Launch} {G : Gm} (hj : Aj G) {I : Ii} {pm : Pm} {k : Nat} (hk : k < 11) {n h : Nat} {σ : Sg} (R : Rp n h I pm k σ) (V : Iv n h σ) {x y z : Int32} : CI l G yX1_takeFrame (wz yX1_takeFrame cX1_takeFrame 7 (some .int)) (rmL 2) [.ref (G.2.2 0 k), .int x, .int y, .int z] I pm (fun r u => (¬ ((0 ≤ x ∧ x ≤ 255) ∧ (0 ≤ y ∧ y ≤ 255) ∧ (0 ≤ z ∧ z ≤ 255)) ∧ r = -2 ∧ u = (I, pm)) ∨ ((0 ≤ x ∧ x ≤ 255) ∧ (0 ≤ y ∧ y ≤ 255) ∧ (0 ≤ z ∧ z ≤ 255)) ∧ r = (comS n x y z σ).2 ∧ Rp n h u.1 u.2 k (comS n x y z σ).1 ∧ Fr k I pm u.1 u.2 ∧ u.2 = pm) := by
  refine CI.walk hj (by decide +kernel) (by show _ ≤ 7; exact Nat.le_of_ble_eq_true rfl) ?_
  intro p e s m args below meth c F hr hlk
  have hn8 := R.n8
  have LOOP : ∀ j, j ≤ n → ((0 ≤ x ∧ x ≤ 255) ∧ (0 ≤ y ∧ y ≤ 255) ∧ (0 ≤ z ∧ z ≤ 255)) → z = x ^^^ y → ∀ (I2 : Ii) (q : Sg × Int32) (hc xj : Int32), xj = nI j → q = cmL x y j (upd σ 3 (σ 3 + 1), 0) → hc = q.2 → Rp n h I2 pm k q.1 → Fr k I pm I2 pm → GG p l e (rmL 2) s m args below meth c G (AA G) 7 0 0 (MQ below (va_Qi (fun (r : Int32) (u : Ii × Pm) => (¬ ((0 ≤ x ∧ x ≤ 255) ∧ (0 ≤ y ∧ y ≤ 255) ∧ (0 ≤ z ∧ z ≤ 255)) ∧ r = -2 ∧ u = (I, pm)) ∨ ((0 ≤ x ∧ x ≤ 255) ∧ (0 ≤ y ∧ y ≤ 255) ∧ (0 ≤ z ∧ z ≤ 255)) ∧ r = (comS n x y z σ).2 ∧ Rp n h u.1 u.2 k (comS n x y z σ).1 ∧ Fr k I pm u.1 u.2 ∧ u.2 = pm) (fun (u : Ii × Pm) t => Wd G u.1 u.2 t.heap) (AA G)) args s 0 0 (AA G)) I2 pm [(0, .ref (G.2.2 0 k)), (1, .int x), (2, .int y), (3, .int z), (4, .int hc), (5, .int xj)] 71 [] := by
    refine dn_ind ?_
    intro j hjl ih hb hz I2 q hc xj ej hq eh R2 F2
    have hdI : 0 ≤ y.toInt ∧ y.toInt ≤ 255 := ⟨i_le.mp hb.2.1.1, i_le.mp hb.2.1.2⟩
    have V2 : Iv n h q.1 := by rw [hq]; exact Iv.cml hdI (V.num (fun i hi => upd_n (by omega)) (by simp [upd])) j hjl
    refine g_iload F 5 dX1_takeFrame_71 rfl ?_
    refine g_aload_n F 0 dX1_takeFrame_73 rfl rfl ?_
    refine gf_0_3 F hk mFL_X1_29 dX1_takeFrame_74 ?_
    refine g_icmp_ge F 129 dX1_takeFrame_77 (by decide) (fun c_77 => ?_) (fun c_77 => ?_)
    · have n_77 := nx_get (a := j) (b := n) ej R2.cnt (by omega) (by omega) c_77
      refine g_iload F 4 dX1_takeFrame_129 rfl ?_
      exact g_iret F hr hlk rfl dX1_takeFrame_131 (by
      have hjn : j = n := by omega
      subst hjn
      refine Or.inr ⟨hb, ?_⟩
      unfold comS
      rw [if_pos hz, ← hq]
      exact ⟨eh, R2, F2, rfl⟩)
    · have n_77 := nx_gef (a := j) (b := n) ej R2.cnt (by omega) (by omega) c_77
      refine g_aload_n F 0 dX1_takeFrame_80 rfl rfl ?_
      refine gf_0_0 F hk mFL_X1_11 dX1_takeFrame_81 ?_
      refine g_iload F 5 dX1_takeFrame_84 rfl ?_
      refine ga_1 (j := j) F hk ej (by omega) dX1_takeFrame_86 ?_
      refine g_astore (L' := [(6, _), (0, _), (1, _), (2, _), (3, _), (4, _), (5, _)]) F dX1_takeFrame_87 (by decide) rfl ?_
      have hi7 : 8 * k + pm k j < 88 := by have := R2.p8 (r := j) (by omega); omega
      have LL := V2.2.2.2.2.1 j (by omega)
      have ea : I2 7 (8 * k + pm k j) 0 = q.1 (16 + 11 * j) := R2.lc (r := j) (f := 0) (by omega) (by decide)
      refine g_iload_n F 2 dX1_takeFrame_89 rfl rfl ?_
      refine g_if_eq F 102 dX1_takeFrame_90 (by decide) (fun c_90 => ?_) (fun c_90 => ?_)
      · have H1 : x = 0 ∨ q.1 (16 + 11 * j) = x := Or.inl c_90
        refine g_aload_n F 1 dX1_takeFrame_102 rfl rfl ?_
        refine g_aload F 0 dX1_takeFrame_103 rfl ?_
        refine g_callIv (na := 0) F 7 _ (c_X2_blockNumber hj hi7) hi7 rfl rfl lk_X1_87 rfl rfl (by decide +kernel) ⟨rfl, rfl, Nat.le_of_ble_eq_true rfl, Nat.le_of_ble_eq_true rfl, Nat.le_of_ble_eq_true rfl, Nat.le_of_ble_eq_true rfl, Nat.le_of_ble_eq_true rfl⟩ dX1_takeFrame_105 (fun r_105 u_105 h_105 => ?_)
        obtain ⟨rfl, rfl⟩ := h_105
        try dsimp only
        refine g_callIv (na := 1) F 0 _ (c_X1_isShorted hj hk (blk_lt LL) (R2.blk (by omega) LL)) hk rfl rfl lk_X1_91 rfl rfl (by decide +kernel) ⟨rfl, rfl, Nat.le_of_ble_eq_true rfl, Nat.le_of_ble_eq_true rfl, Nat.le_of_ble_eq_true rfl, Nat.le_of_ble_eq_true rfl, Nat.le_of_ble_eq_true rfl⟩ dX1_takeFrame_108 (fun r_108 u_108 h_108 => ?_)
        obtain ⟨rfl, rfl⟩ := h_108
        try dsimp only
        rw [R2.sh (blk_lt LL)]
        refine g_if_ne F 123 dX1_takeFrame_111 (by decide) (fun c_111 => ?_) (fun c_111 => ?_)
        · have HH : ¬ hrdS x q.1 j := fun w => w.2 (bz_n.mp c_111)
          refine g_iincC (q := 1) (L' := [(5, _), (6, _), (0, _), (1, _), (2, _), (3, _), (4, _)]) F 6 dX1_takeFrame_123 (by decide) rfl (by decide) rfl ?_
          refine g_goto F 71 dX1_takeFrame_126 (by decide) ?_
          refine g_sub [2, 3, 4, 5, 6, 0] rfl ?_
          first
          | exact ih (by omega) hb hz _ (hearS j y q.1, q.2 + 1) _ _ (nx_add ej rfl) (by rw [cmL, ← hq, cmStep, if_pos HH]) (by rw [eh]) (R2.hear (by omega) y hdI) (F2.tr (Fr.hear (R2.p8 (by omega)) y))
          | exact ih (by omega) hb hz _ q _ _ (nx_add ej rfl) (by rw [cmL, ← hq, cmStep, if_neg HH]) eh R2 F2
        · have HH : hrdS x q.1 j := ⟨H1, bz_0.mp c_111⟩
          refine g_aload F 0 dX1_takeFrame_114 rfl ?_
          refine g_iload_n F 3 dX1_takeFrame_116 rfl rfl ?_
          refine g_callVv (na := 1) F 7 _ (c_X2_hear hj hi7) hi7 rfl rfl lk_X1_94 rfl rfl (by decide +kernel) ⟨rfl, rfl, Nat.le_of_ble_eq_true rfl, Nat.le_of_ble_eq_true rfl, Nat.le_of_ble_eq_true rfl, Nat.le_of_ble_eq_true rfl, Nat.le_of_ble_eq_true rfl⟩ dX1_takeFrame_117 (fun u_117 h_117 => ?_)
          subst h_117
          try dsimp only
          refine g_iincC (q := 1) (L' := [(4, _), (6, _), (0, _), (1, _), (2, _), (3, _), (5, _)]) F 5 dX1_takeFrame_120 (by decide) rfl (by decide) rfl ?_
          refine g_iincC (q := 1) (L' := [(5, _), (4, _), (6, _), (0, _), (1, _), (2, _), (3, _)]) F 6 dX1_takeFrame_123 (by decide) rfl (by decide) rfl ?_
          refine g_goto F 71 dX1_takeFrame_126 (by decide) ?_
          refine g_sub [3, 4, 5, 6, 1, 0] rfl ?_
          first
          | exact ih (by omega) hb hz _ (hearS j y q.1, q.2 + 1) _ _ (nx_add ej rfl) (by rw [cmL, ← hq, cmStep, if_pos HH]) (by rw [eh]) (R2.hear (by omega) y hdI) (F2.tr (Fr.hear (R2.p8 (by omega)) y))
          | exact ih (by omega) hb hz _ q _ _ (nx_add ej rfl) (by rw [cmL, ← hq, cmStep, if_neg HH]) eh R2 F2
      · refine g_iload_n F 2 dX1_takeFrame_93 rfl rfl ?_
        refine g_aload F 0 dX1_takeFrame_94 rfl ?_
        refine gf_7_0 F hi7 mFL_X1_76 dX1_takeFrame_96 ?_
        refine g_icmp_ne F 123 dX1_takeFrame_99 (by decide) (fun c_99 => ?_) (fun c_99 => ?_)
        · have HH : ¬ hrdS x q.1 j := fun w => w.1.elim c_90 (fun w2 => c_99 (by rw [ea, w2]))
          refine g_iincC (q := 1) (L' := [(5, _), (6, _), (0, _), (1, _), (2, _), (3, _), (4, _)]) F 6 dX1_takeFrame_123 (by decide) rfl (by decide) rfl ?_
          refine g_goto F 71 dX1_takeFrame_126 (by decide) ?_
          refine g_sub [2, 3, 4, 5, 6, 0] rfl ?_
          first
          | exact ih (by omega) hb hz _ (hearS j y q.1, q.2 + 1) _ _ (nx_add ej rfl) (by rw [cmL, ← hq, cmStep, if_pos HH]) (by rw [eh]) (R2.hear (by omega) y hdI) (F2.tr (Fr.hear (R2.p8 (by omega)) y))
          | exact ih (by omega) hb hz _ q _ _ (nx_add ej rfl) (by rw [cmL, ← hq, cmStep, if_neg HH]) eh R2 F2
        · have H1 : x = 0 ∨ q.1 (16 + 11 * j) = x := Or.inr (by rw [← ea]; exact c_99.symm)
          refine g_aload_n F 1 dX1_takeFrame_102 rfl rfl ?_
          refine g_aload F 0 dX1_takeFrame_103 rfl ?_
          refine g_callIv (na := 0) F 7 _ (c_X2_blockNumber hj hi7) hi7 rfl rfl lk_X1_87 rfl rfl (by decide +kernel) ⟨rfl, rfl, Nat.le_of_ble_eq_true rfl, Nat.le_of_ble_eq_true rfl, Nat.le_of_ble_eq_true rfl, Nat.le_of_ble_eq_true rfl, Nat.le_of_ble_eq_true rfl⟩ dX1_takeFrame_105 (fun r_105 u_105 h_105 => ?_)
          obtain ⟨rfl, rfl⟩ := h_105
          try dsimp only
          refine g_callIv (na := 1) F 0 _ (c_X1_isShorted hj hk (blk_lt LL) (R2.blk (by omega) LL)) hk rfl rfl lk_X1_91 rfl rfl (by decide +kernel) ⟨rfl, rfl, Nat.le_of_ble_eq_true rfl, Nat.le_of_ble_eq_true rfl, Nat.le_of_ble_eq_true rfl, Nat.le_of_ble_eq_true rfl, Nat.le_of_ble_eq_true rfl⟩ dX1_takeFrame_108 (fun r_108 u_108 h_108 => ?_)
          obtain ⟨rfl, rfl⟩ := h_108
          try dsimp only
          rw [R2.sh (blk_lt LL)]
          refine g_if_ne F 123 dX1_takeFrame_111 (by decide) (fun c_111 => ?_) (fun c_111 => ?_)
          · have HH : ¬ hrdS x q.1 j := fun w => w.2 (bz_n.mp c_111)
            refine g_iincC (q := 1) (L' := [(5, _), (6, _), (0, _), (1, _), (2, _), (3, _), (4, _)]) F 6 dX1_takeFrame_123 (by decide) rfl (by decide) rfl ?_
            refine g_goto F 71 dX1_takeFrame_126 (by decide) ?_
            refine g_sub [2, 3, 4, 5, 6, 0] rfl ?_
            first
            | exact ih (by omega) hb hz _ (hearS j y q.1, q.2 + 1) _ _ (nx_add ej rfl) (by rw [cmL, ← hq, cmStep, if_pos HH]) (by rw [eh]) (R2.hear (by omega) y hdI) (F2.tr (Fr.hear (R2.p8 (by omega)) y))
            | exact ih (by omega) hb hz _ q _ _ (nx_add ej rfl) (by rw [cmL, ← hq, cmStep, if_neg HH]) eh R2 F2
          · have HH : hrdS x q.1 j := ⟨H1, bz_0.mp c_111⟩
            refine g_aload F 0 dX1_takeFrame_114 rfl ?_
            refine g_iload_n F 3 dX1_takeFrame_116 rfl rfl ?_
            refine g_callVv (na := 1) F 7 _ (c_X2_hear hj hi7) hi7 rfl rfl lk_X1_94 rfl rfl (by decide +kernel) ⟨rfl, rfl, Nat.le_of_ble_eq_true rfl, Nat.le_of_ble_eq_true rfl, Nat.le_of_ble_eq_true rfl, Nat.le_of_ble_eq_true rfl, Nat.le_of_ble_eq_true rfl⟩ dX1_takeFrame_117 (fun u_117 h_117 => ?_)
            subst h_117
            try dsimp only
            refine g_iincC (q := 1) (L' := [(4, _), (6, _), (0, _), (1, _), (2, _), (3, _), (5, _)]) F 5 dX1_takeFrame_120 (by decide) rfl (by decide) rfl ?_
            refine g_iincC (q := 1) (L' := [(5, _), (4, _), (6, _), (0, _), (1, _), (2, _), (3, _)]) F 6 dX1_takeFrame_123 (by decide) rfl (by decide) rfl ?_
            refine g_goto F 71 dX1_takeFrame_126 (by decide) ?_
            refine g_sub [3, 4, 5, 6, 1, 0] rfl ?_
            first
            | exact ih (by omega) hb hz _ (hearS j y q.1, q.2 + 1) _ _ (nx_add ej rfl) (by rw [cmL, ← hq, cmStep, if_pos HH]) (by rw [eh]) (R2.hear (by omega) y hdI) (F2.tr (Fr.hear (R2.p8 (by omega)) y))
            | exact ih (by omega) hb hz _ q _ _ (nx_add ej rfl) (by rw [cmL, ← hq, cmStep, if_neg HH]) eh R2 F2
  refine g_iload_n F 1 dX1_takeFrame_0 rfl rfl ?_
  refine g_iconst (v := 0) F dX1_takeFrame_1 (by decide) ?_
  refine g_sipush (v := 255) F dX1_takeFrame_2 (by decide) ?_
  refine g_callIn (na := 3) F (c_X5_within hj) (gw mCO_yX5_within) F.2.2.1.1 mST_yX5_within mIN_RX5 rfl rfl (by decide +kernel) ⟨rfl, rfl, Nat.le_of_ble_eq_true rfl, Nat.le_of_ble_eq_true rfl, Nat.le_of_ble_eq_true rfl, Nat.le_of_ble_eq_true rfl, Nat.le_of_ble_eq_true rfl⟩ dX1_takeFrame_5 (fun r_5 u_5 h_5 => ?_)
  obtain ⟨rfl, rfl⟩ := h_5
  try dsimp only
  refine g_if_eq F 33 dX1_takeFrame_8 (by decide) (fun c_8 => ?_) (fun c_8 => ?_)
  · have N1 := bz_0.mp c_8
    refine g_bipush (v := -2) F dX1_takeFrame_33 (by decide) ?_
    exact g_iret F hr hlk rfl dX1_takeFrame_35 (by refine Or.inl ⟨fun w => ?_, rfl, rfl⟩; first | exact N1 w.1 | exact N2 w.2.1 | exact N3 w.2.2)
  · have P1 := bz_n.mp c_8
    refine g_iload_n F 2 dX1_takeFrame_11 rfl rfl ?_
    refine g_iconst (v := 0) F dX1_takeFrame_12 (by decide) ?_
    refine g_sipush (v := 255) F dX1_takeFrame_13 (by decide) ?_
    refine g_callIn (na := 3) F (c_X5_within hj) (gw mCO_yX5_within) F.2.2.1.1 mST_yX5_within mIN_RX5 rfl rfl (by decide +kernel) ⟨rfl, rfl, Nat.le_of_ble_eq_true rfl, Nat.le_of_ble_eq_true rfl, Nat.le_of_ble_eq_true rfl, Nat.le_of_ble_eq_true rfl, Nat.le_of_ble_eq_true rfl⟩ dX1_takeFrame_16 (fun r_16 u_16 h_16 => ?_)
    obtain ⟨rfl, rfl⟩ := h_16
    try dsimp only
    refine g_if_eq F 33 dX1_takeFrame_19 (by decide) (fun c_19 => ?_) (fun c_19 => ?_)
    · have N2 := bz_0.mp c_19
      refine g_bipush (v := -2) F dX1_takeFrame_33 (by decide) ?_
      exact g_iret F hr hlk rfl dX1_takeFrame_35 (by refine Or.inl ⟨fun w => ?_, rfl, rfl⟩; first | exact N1 w.1 | exact N2 w.2.1 | exact N3 w.2.2)
    · have P2 := bz_n.mp c_19
      refine g_iload_n F 3 dX1_takeFrame_22 rfl rfl ?_
      refine g_iconst (v := 0) F dX1_takeFrame_23 (by decide) ?_
      refine g_sipush (v := 255) F dX1_takeFrame_24 (by decide) ?_
      refine g_callIn (na := 3) F (c_X5_within hj) (gw mCO_yX5_within) F.2.2.1.1 mST_yX5_within mIN_RX5 rfl rfl (by decide +kernel) ⟨rfl, rfl, Nat.le_of_ble_eq_true rfl, Nat.le_of_ble_eq_true rfl, Nat.le_of_ble_eq_true rfl, Nat.le_of_ble_eq_true rfl, Nat.le_of_ble_eq_true rfl⟩ dX1_takeFrame_27 (fun r_27 u_27 h_27 => ?_)
      obtain ⟨rfl, rfl⟩ := h_27
      try dsimp only
      refine g_if_ne F 36 dX1_takeFrame_30 (by decide) (fun c_30 => ?_) (fun c_30 => ?_)
      · have P3 := bz_n.mp c_30
        refine g_aload_n F 0 dX1_takeFrame_36 rfl rfl ?_
        refine g_dup F dX1_takeFrame_37 rfl ?_
        refine gf_0_7 F hk mFL_X1_55 dX1_takeFrame_38 ?_
        refine g_iconst (v := 1) F dX1_takeFrame_41 (by decide) ?_
        refine g_iadd F dX1_takeFrame_42 ?_
        refine gp_0_7 F hk mFL_X1_55 dX1_takeFrame_43 ?_
        refine g_iload_n F 3 dX1_takeFrame_46 rfl rfl ?_
        refine g_iload_n F 1 dX1_takeFrame_47 rfl rfl ?_
        refine g_iload_n F 2 dX1_takeFrame_48 rfl rfl ?_
        refine g_ixor F dX1_takeFrame_49 ?_
        refine g_icmp_eq F 65 dX1_takeFrame_50 (by decide) (fun c_50 => ?_) (fun c_50 => ?_)
        · refine g_iconst (v := 0) F dX1_takeFrame_65 (by decide) ?_
          refine g_istore (L' := [(4, _), (0, _), (1, _), (2, _), (3, _)]) F dX1_takeFrame_66 (by decide) rfl ?_
          refine g_iconst (v := 0) F dX1_takeFrame_68 (by decide) ?_
          refine g_istore (L' := [(5, _), (4, _), (0, _), (1, _), (2, _), (3, _)]) F dX1_takeFrame_69 (by decide) rfl ?_
          refine g_sub [2, 3, 4, 5, 1, 0] rfl ?_
          refine LOOP 0 (Nat.zero_le _) ⟨P1, P2, P3⟩ c_50 _ (upd σ 3 (σ 3 + 1), 0) _ _ rfl rfl rfl ?_ (Fr.up (inL_0 (by decide)))
          show Rp n h _ pm k (upd σ 3 (σ 3 + 1))
          exact R.num (fun K i j hK => up3_k hK) (fun i hi => upd_n (by omega)) (by simp [up3, upd]; exact R.1.1) (by simp [up3, upd]; exact R.1.2.1) (by simp [up3, upd]; exact R.1.2.2.1) (by simp [up3, upd]; exact R.1.2.2.2.1) (by simp [up3, upd]; rw [R.1.2.2.2.2.1]) (by simp [up3, upd]; exact R.1.2.2.2.2.2.1) (by simp [up3, upd]; exact R.1.2.2.2.2.2.2.1)
        · refine g_aload_n F 0 dX1_takeFrame_53 rfl rfl ?_
          refine g_dup F dX1_takeFrame_54 rfl ?_
          refine gf_0_8 F hk mFL_X1_58 dX1_takeFrame_55 ?_
          refine g_eqi (y := I 0 k 8) (by simp [up3]) ?_
          refine g_iconst (v := 1) F dX1_takeFrame_58 (by decide) ?_
          refine g_iadd F dX1_takeFrame_59 ?_
          refine gp_0_8 F hk mFL_X1_58 dX1_takeFrame_60 ?_
          refine g_iconst (v := 0) F dX1_takeFrame_63 (by decide) ?_
          exact g_iret F hr hlk rfl dX1_takeFrame_64 (by
      have R1 := R.num (I' := up3 (up3 I 0 k 7 (I 0 k 7 + 1)) 0 k 8 (I 0 k 8 + 1)) (σ' := upd (upd σ 3 (σ 3 + 1)) 4 (σ 4 + 1)) (fun K i j hK => by rw [up3_k hK, up3_k hK]) (fun i hi => by rw [upd_n (by omega), upd_n (by omega)]) (by simp [up3, upd]; exact R.1.1) (by simp [up3, upd]; exact R.1.2.1) (by simp [up3, upd]; exact R.1.2.2.1) (by simp [up3, upd]; exact R.1.2.2.2.1) (by simp [up3, upd]; rw [R.1.2.2.2.2.1]) (by simp [up3, upd]; rw [R.1.2.2.2.2.2.1]) (by simp [up3, upd]; exact R.1.2.2.2.2.2.2.1)
      refine Or.inr ⟨⟨P1, P2, P3⟩, ?_⟩
      unfold comS
      rw [if_neg c_50]
      exact ⟨rfl, R1, (Fr.up (inL_0 (by decide))).tr (Fr.up (inL_0 (by decide))), rfl⟩)
      · have N3 := bz_0.mp c_30
        refine g_bipush (v := -2) F dX1_takeFrame_33 (by decide) ?_
        exact g_iret F hr hlk rfl dX1_takeFrame_35 (by refine Or.inl ⟨fun w => ?_, rfl, rfl⟩; first | exact N1 w.1 | exact N2 w.2.1 | exact N3 w.2.2)
