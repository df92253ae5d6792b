/-! PART 13: the station -/
theorem nx_dec {x : Int32} {j : Nat} (h : x = nI j) (h0 : 0 < j) : x + (-1) = nI (j - 1) := by
  obtain ⟨i, rfl⟩ : ∃ i, j = i + 1 := ⟨j - 1, by omega⟩
  rw [h, pk_m1]
  rfl
def rowI (I : Ii) (k q : Nat) (a d t : Int32) : Ii := up3 (up3 (up3 I 3 k q a) 4 k q d) 5 k q t
theorem iposS_le (σ : Sg) (t : Int32) : ∀ j, iposS σ t j ≤ j := by
  intro j
  induction j with
  | zero => exact Nat.le_refl _
  | succ j ih =>
    unfold iposS
    split
    · omega
    · exact Nat.le_refl _
/-- the rows of the station and what stands in them change, nothing else -/
theorem Rp.rows {n h h' : Nat} {I I' : Ii} {pm : Pm} {k : Nat} {σ σ' : Sg} (R : Rp n h I pm k σ) (hh : h' ≤ 20) (ho : ∀ K i c, ¬ (2 ≤ K ∧ K ≤ 5) → I' K i c = I K i c) (hs : ∀ i, i < 104 → i ≠ 7 → σ' i = σ i) (s7 : σ' 7 = nI h') (h2 : I' 2 k 3 = nI h') (hr : ∀ j, j < h' → I' 3 k j = σ' (104 + 3 * j) ∧ I' 4 k j = σ' (105 + 3 * j) ∧ I' 5 k j = σ' (106 + 3 * j)) : Rp n h' I' pm k σ' := by
  obtain ⟨⟨a1, a2, a3, a4, a5, a6, a7, a8⟩, b, c, d, e1, e2, e3, e4, e5, e6⟩ := R
  refine ⟨⟨?_, ?_, ?_, ?_, ?_, ?_, ?_, ?_⟩, fun b' hb => ?_, fun r' f' hr' hf' => ?_, hr, e1, e2, by rw [hs 6 (by decide) (by decide)]; exact e3, e4, s7, hh⟩
  · rw [ho _ _ _ (by decide), hs _ (by decide) (by decide)]; exact a1
  · rw [ho _ _ _ (by decide), hs _ (by decide) (by decide)]; exact a2
  · rw [ho _ _ _ (by decide), hs _ (by decide) (by decide)]; exact a3
  · rw [ho _ _ _ (by decide), ho _ _ _ (by decide), hs _ (by decide) (by decide)]; exact a4
  · rw [ho _ _ _ (by decide), hs _ (by decide) (by decide)]; exact a5
  · rw [ho _ _ _ (by decide), hs _ (by decide) (by decide)]; exact a6
  · rw [ho _ _ _ (by decide), hs _ (by decide) (by decide)]; exact a7
  · rw [h2, s7]
  · rw [ho _ _ _ (by decide), hs _ (by omega) (by omega)]; exact b b' hb
  · rw [ho _ _ _ (by decide), hs _ (by omega) (by omega)]; exact c r' f' hr' hf'
theorem Rp.row {n h : Nat} {I : Ii} {pm : Pm} {k : Nat} {σ : Sg} (R : Rp n h I pm k σ) {j : Nat} (hj : j < h) : I 3 k j = σ (104 + 3 * j) ∧ I 4 k j = σ (105 + 3 * j) ∧ I 5 k j = σ (106 + 3 * j) := R.2.2.2.1 j hj
theorem ord_at {h : Nat} {a d t : Int32} {σ : Sg} {j w : Nat} (hj : j < h + 1) (hw : w < 3) : ordS h a d t σ (104 + 3 * j + w) = if j < iposS σ t h then σ (104 + 3 * j + w) else if j = iposS σ t h then (if w = 0 then a else if w = 1 then d else t) else σ (104 + 3 * j + w - 3) := by
  have e1 : (104 + 3 * j + w - 104) / 3 = j := by omega
  have e2 : (104 + 3 * j + w - 104) % 3 = w := by omega
  unfold ordS
  rw [if_neg (by omega), if_pos (by omega), e1, e2]
theorem Rp.ord {n h : Nat} {I I' : Ii} {pm : Pm} {k : Nat} {σ : Sg} {a d t : Int32} (R : Rp n h I pm k σ) (hh : h < 20) (ho : ∀ K i c, ¬ (2 ≤ K ∧ K ≤ 5) → I' K i c = I K i c) (h2 : I' 2 k 3 = nI (h + 1))
    (hr : ∀ K q, 3 ≤ K → K ≤ 5 → q < h + 1 → I' K k q = if q < iposS σ t h then I K k q else if q = iposS σ t h then (if K = 3 then a else if K = 4 then d else t) else I K k (q - 1)) : Rp n (h + 1) I' pm k (ordS h a d t σ) := by
  have hp := iposS_le σ t h
  refine R.rows hh ho (fun i hi h7 => by unfold ordS; rw [if_neg h7, if_neg (by omega)]) (by unfold ordS; rw [if_pos rfl]) h2 (fun j hj => ?_)
  have o0 := ord_at (a := a) (d := d) (t := t) (σ := σ) hj (show 0 < 3 by decide)
  have o1 := ord_at (a := a) (d := d) (t := t) (σ := σ) hj (show 1 < 3 by decide)
  have o2 := ord_at (a := a) (d := d) (t := t) (σ := σ) hj (show 2 < 3 by decide)
  have s1 : 104 + 3 * j + 1 = 105 + 3 * j := by omega
  have s2 : 104 + 3 * j + 2 = 106 + 3 * j := by omega
  rw [s1] at o1
  rw [s2] at o2
  rw [Nat.add_zero] at o0
  rw [o0, o1, o2, hr 3 j (by decide) (by decide) hj, hr 4 j (by decide) (by decide) hj, hr 5 j (by decide) (by decide) hj]
  by_cases c1 : j < iposS σ t h
  · have r := R.row (j := j) (by omega)
    simp only [if_pos c1]
    exact r
  · simp only [if_neg c1]
    by_cases c2 : j = iposS σ t h
    · simp only [if_pos c2]
      exact ⟨rfl, rfl, rfl⟩
    · simp only [if_neg c2]
      have r := R.row (j := j - 1) (by omega)
      rw [show 104 + 3 * j - 3 = 104 + 3 * (j - 1) by omega, show 105 + 3 * j - 3 = 105 + 3 * (j - 1) by omega, show 106 + 3 * j - 3 = 106 + 3 * (j - 1) by omega]
      exact r
theorem Rp.drop {n h : Nat} {I I' : Ii} {pm : Pm} {k : Nat} {σ : Sg} (R : Rp n h I pm k σ) (ho : ∀ K i c, ¬ (2 ≤ K ∧ K ≤ 5) → I' K i c = I K i c) (h2 : I' 2 k 3 = nI (h - 1))
    (hr : ∀ K q, 3 ≤ K → K ≤ 5 → q + 1 < h → I' K k q = I K k (q + 1)) : Rp n (h - 1) I' pm k (dropS h σ) := by
  have hh := R.h20
  refine R.rows (by omega) ho (fun i hi h7 => by unfold dropS; rw [if_neg h7, if_neg (by omega), if_neg (by omega)]) (by unfold dropS; rw [if_pos rfl]) h2 (fun j hj => ?_)
  have r := R.row (j := j + 1) (by omega)
  have d1 : ∀ w, w < 3 → dropS h σ (104 + 3 * j + w) = σ (104 + 3 * (j + 1) + w) := by
    intro w hw
    unfold dropS
    rw [if_neg (by omega), if_pos (by omega)]
    congr 1
    omega
  have o0 := d1 0 (by decide)
  have o1 := d1 1 (by decide)
  have o2 := d1 2 (by decide)
  rw [show 104 + 3 * j + 1 = 105 + 3 * j by omega, show 104 + 3 * (j + 1) + 1 = 105 + 3 * (j + 1) by omega] at o1
  rw [show 104 + 3 * j + 2 = 106 + 3 * j by omega, show 104 + 3 * (j + 1) + 2 = 106 + 3 * (j + 1) by omega] at o2
  rw [Nat.add_zero, Nat.add_zero] at o0
  rw [o0, o1, o2, hr 3 j (by decide) (by decide) (by omega), hr 4 j (by decide) (by decide) (by omega), hr 5 j (by decide) (by decide) (by omega)]
  exact r
theorem row_at {I : Ii} {k q : Nat} {a d t : Int32} {K j : Nat} (h3 : 3 ≤ K) (h5 : K ≤ 5) : rowI I k q a d t K k j = if j = q then (if K = 3 then a else if K = 4 then d else t) else I K k j := by
  unfold rowI
  rcases (show K = 3 ∨ K = 4 ∨ K = 5 by omega) with rfl | rfl | rfl <;> simp [up3]
theorem row_out {I : Ii} {k q : Nat} {a d t : Int32} {K i c : Nat} (h : ¬ (3 ≤ K ∧ K ≤ 5 ∧ i = k)) : rowI I k q a d t K i c = I K i c := by
  unfold rowI
  rw [up3_n (fun e => h ⟨by omega, by omega, e.2.1⟩), up3_n (fun e => h ⟨by omega, by omega, e.2.1⟩), up3_n (fun e => h ⟨by omega, by omega, e.2.1⟩)]
theorem Fr.rows {k : Nat} {I I' : Ii} {pm : Pm} (h : ∀ K i c, ¬ (2 ≤ K ∧ K ≤ 5 ∧ i = k) → I' K i c = I K i c) : Fr k I pm I' pm := ⟨fun K i c q => h K i c (fun e => q (Or.inl ⟨by omega, e.2.2⟩)), fun _ _ _ => rfl⟩
theorem wait_in {x : Int32} {h : Nat} (hh : h ≤ 20) (h0 : 0 ≤ x) (h1 : x ≤ nI h - 1) : ∃ q, q < h ∧ x = nI q := by
  have e0 := i_le.mp h0
  have e1 := i_le.mp h1
  have e2 : (nI h - 1).toInt = (h : Int) - 1 := by
    rw [Kit.i32_sub (by rw [nI_toInt (by omega)]; show _ ≤ (h : Int) - 1; omega) (by rw [nI_toInt (by omega)]; show (h : Int) - 1 < _; omega), nI_toInt (by omega)]
    rfl
  have e3 : (0 : Int32).toInt = 0 := rfl
  rw [e2] at e1
  rw [e3] at e0
  exact ⟨x.toInt.toNat, by omega, nat_of e0⟩
def waitS (h : Nat) (σ : Sg) (x y : Int32) : Int32 := if 0 ≤ x ∧ x ≤ nI h - 1 then (if y = 0 then σ (104 + 3 * x.toInt.toNat) else if y = 1 then σ (105 + 3 * x.toInt.toNat) else if y = 2 then σ (106 + 3 * x.toInt.toNat) else -2) else -1

set_option maxHeartbeats 4000000 in
set_option maxRecDepth 100000 in
theorem c_X4_setRow {l : Launch} {G : Gm} (hj : Aj G) {I : Ii} {pm : Pm} {k : Nat} (hk : k < 11) {q : Nat} (hq : q < 20) {x a d t : Int32} (hx : x = nI q) : CV l G yX4_setRow (wz yX4_setRow cX4_setRow 5 none) (rmL 0) [.ref (G.2.2 2 k), .int x, .int a, .int d, .int t] I pm (fun u => u = (rowI I k q a d t, pm)) := by
  refine CV.walk hj (by decide +kernel) (by show _ ≤ 5; exact Nat.le_of_ble_eq_true rfl) ?_
  intro p e s m args below meth c F hr hlk
  refine g_aload_n F 0 dX4_setRow_0 rfl rfl ?_
  refine gf_2_0 F hk mFL_X4_9 dX4_setRow_1 ?_
  refine g_iload_n F 1 dX4_setRow_4 rfl rfl ?_
  refine g_iload_n F 2 dX4_setRow_5 rfl rfl ?_
  refine gs_3 (j := q) F hk hx (by omega) dX4_setRow_6 ?_
  refine g_aload_n F 0 dX4_setRow_7 rfl rfl ?_
  refine gf_2_1 F hk mFL_X4_15 dX4_setRow_8 ?_
  refine g_iload_n F 1 dX4_setRow_11 rfl rfl ?_
  refine g_iload_n F 3 dX4_setRow_12 rfl rfl ?_
  refine gs_4 (j := q) F hk hx (by omega) dX4_setRow_13 ?_
  refine g_aload_n F 0 dX4_setRow_14 rfl rfl ?_
  refine gf_2_2 F hk mFL_X4_18 dX4_setRow_15 ?_
  refine g_iload_n F 1 dX4_setRow_18 rfl rfl ?_
  refine g_iload F 4 dX4_setRow_19 rfl ?_
  refine gs_5 (j := q) F hk hx (by omega) dX4_setRow_21 ?_
  refine g_vret F hr hlk dX4_setRow_22 ?_
  exact rfl
set_option maxHeartbeats 4000000 in
set_option maxRecDepth 100000 in
theorem c_X4_dropFirst {l : Launch} {G : Gm} (hj : Aj G) {I : Ii} {pm : Pm} {k : Nat} (hk : k < 11) {n h : Nat} {σ : Sg} (R : Rp n h I pm k σ) (h1 : 1 ≤ h) : CV l G yX4_dropFirst (wz yX4_dropFirst cX4_dropFirst 2 none) (rmL 1) [.ref (G.2.2 2 k)] I pm (fun u => Rp n (h - 1) u.1 pm k (dropS h σ) ∧ u.2 = pm ∧ ∀ K i c, ¬ (2 ≤ K ∧ K ≤ 5 ∧ i = k) → u.1 K i c = I K i c) := by
  refine CV.walk hj (by decide +kernel) (by show _ ≤ 2; exact Nat.le_of_ble_eq_true rfl) ?_
  intro p e s m args below meth c F hr hlk
  have hh := R.h20
  have LOOP : ∀ j, j ≤ h → 1 ≤ j → ∀ (I2 : Ii) (xj : Int32), xj = nI j → (∀ K q, 3 ≤ K → K ≤ 5 → I2 K k q = if q + 1 < j then I K k (q + 1) else I K k q) → (∀ K i c, ¬ (3 ≤ K ∧ K ≤ 5 ∧ i = k) → I2 K i c = I K i c) → GG p l e (rmL 1) s m args below meth c G (AA G) 2 0 0 (MQ below (va_Qv (fun (u : Ii × Pm) => Rp n (h - 1) u.1 pm k (dropS h σ) ∧ u.2 = pm ∧ ∀ K i c, ¬ (2 ≤ K ∧ K ≤ 5 ∧ i = k) → u.1 K i c = I K i c) (fun (u : Ii × Pm) t => Wd G u.1 u.2 t.heap) (AA G)) args s 0 0 (AA G)) I2 pm [(0, .ref (G.2.2 2 k)), (1, .int xj)] 2 [] := by
    refine dn_ind ?_
    intro j hjl ih hj1 I2 xj ej hv ho
    have e23 : I2 2 k 3 = nI h := (ho 2 k 3 (by omega)).trans R.hel
    refine g_iload_n F 1 dX4_dropFirst_2 rfl rfl ?_
    refine g_aload_n F 0 dX4_dropFirst_3 rfl rfl ?_
    refine gf_2_3 F hk mFL_X4_27 dX4_dropFirst_4 ?_
    refine g_icmp_ge F 41 dX4_dropFirst_7 (by decide) (fun c_7 => ?_) (fun c_7 => ?_)
    · have n_7 := nx_get (a := j) (b := h) ej e23 (by omega) (by omega) c_7
      refine g_aload_n F 0 dX4_dropFirst_41 rfl rfl ?_
      refine g_iconst (v := 0) F dX4_dropFirst_42 (by decide) ?_
      refine g_aload_n F 0 dX4_dropFirst_43 rfl rfl ?_
      refine gf_2_3 F hk mFL_X4_27 dX4_dropFirst_44 ?_
      refine g_iconst (v := 1) F dX4_dropFirst_47 (by decide) ?_
      refine g_isub F dX4_dropFirst_48 ?_
      refine g_mmax F mML_X4_39 mST_LMmax mIN_java_lang_Math mCO_LMmax ⟨Nat.le_of_ble_eq_true rfl, Nat.le_of_ble_eq_true rfl, Nat.le_of_ble_eq_true rfl, Nat.le_of_ble_eq_true rfl⟩ dX4_dropFirst_49 ?_
      refine gp_2_3 F hk mFL_X4_27 dX4_dropFirst_52 ?_
      refine g_vret F hr hlk dX4_dropFirst_55 ?_
      have hjh : j = h := by omega
      subst hjh
      have em : (if (0 : Int32) < I2 2 k 3 - 1 then I2 2 k 3 - 1 else 0) = nI (j - 1) := by
        have e1 : I2 2 k 3 - 1 = nI (j - 1) := nx_sub e23 (b := 1) rfl h1
        rw [e1]
        split
        · rfl
        · rename_i q
          have := nx_ltf (a := 0) (b := j - 1) rfl rfl (by omega) (by omega) q
          rw [show j - 1 = 0 by omega]
          rfl
      rw [em]
      refine ⟨R.drop (I' := up3 I2 2 k 3 (nI (j - 1))) (fun K i c q => by rw [up3_k (by omega)]; exact ho K i c (by omega)) up3_s (fun K q h3 h5 hq => ?_), rfl, fun K i c q => ?_⟩
      · rw [up3_k (by omega), hv K q h3 h5, if_pos hq]
      · show up3 I2 2 k 3 _ K i c = I K i c
        rw [up3_n (fun e => q ⟨by omega, by omega, e.2.1⟩)]
        exact ho K i c (by omega)
    · have n_7 := nx_gef (a := j) (b := h) ej e23 (by omega) (by omega) c_7
      refine g_aload_n F 0 dX4_dropFirst_10 rfl rfl ?_
      refine g_iload_n F 1 dX4_dropFirst_11 rfl rfl ?_
      refine g_iconst (v := 1) F dX4_dropFirst_12 (by decide) ?_
      refine g_isub F dX4_dropFirst_13 ?_
      refine g_aload_n F 0 dX4_dropFirst_14 rfl rfl ?_
      refine gf_2_0 F hk mFL_X4_9 dX4_dropFirst_15 ?_
      refine g_iload_n F 1 dX4_dropFirst_18 rfl rfl ?_
      refine ga_3 (j := j) F hk ej (by omega) dX4_dropFirst_19 ?_
      refine g_aload_n F 0 dX4_dropFirst_20 rfl rfl ?_
      refine gf_2_1 F hk mFL_X4_15 dX4_dropFirst_21 ?_
      refine g_iload_n F 1 dX4_dropFirst_24 rfl rfl ?_
      refine ga_4 (j := j) F hk ej (by omega) dX4_dropFirst_25 ?_
      refine g_aload_n F 0 dX4_dropFirst_26 rfl rfl ?_
      refine gf_2_2 F hk mFL_X4_18 dX4_dropFirst_27 ?_
      refine g_iload_n F 1 dX4_dropFirst_30 rfl rfl ?_
      refine ga_5 (j := j) F hk ej (by omega) dX4_dropFirst_31 ?_
      refine g_callVv (na := 4) F 2 _ (c_X4_setRow hj hk (q := j - 1) (by omega) (nx_sub ej (b := 1) rfl hj1)) hk rfl rfl lk_X4_35 rfl rfl (by decide +kernel) ⟨rfl, rfl, Nat.le_of_ble_eq_true rfl, Nat.le_of_ble_eq_true rfl, Nat.le_of_ble_eq_true rfl, Nat.le_of_ble_eq_true rfl, Nat.le_of_ble_eq_true rfl⟩ dX4_dropFirst_32 (fun u_32 h_32 => ?_)
      subst h_32
      try dsimp only
      refine g_iincC (q := 1) (L' := [(1, _), (0, _)]) F 1 dX4_dropFirst_35 (by decide) rfl (by decide) rfl ?_
      refine g_goto F 2 dX4_dropFirst_38 (by decide) ?_
      refine g_sub [1, 0] rfl ?_
      refine ih (by omega) (by omega) _ _ (nx_add ej rfl) (fun K q h3 h5 => ?_) (fun K i c q => by rw [row_out q]; exact ho K i c q)
      rw [row_at h3 h5]
      by_cases c1 : q = j - 1
      · rw [c1, if_pos rfl, show (if j - 1 + 1 < j + 1 then I K k (j - 1 + 1) else I K k (j - 1)) = I K k j from by rw [if_pos (by omega), show j - 1 + 1 = j by omega]]
        rcases (show K = 3 ∨ K = 4 ∨ K = 5 by omega) with rfl | rfl | rfl
        · rw [if_pos rfl, hv 3 j (by decide) (by decide), if_neg (by omega)]
        · rw [if_neg (by decide), if_pos rfl, hv 4 j (by decide) (by decide), if_neg (by omega)]
        · rw [if_neg (by decide), if_neg (by decide), hv 5 j (by decide) (by decide), if_neg (by omega)]
      · rw [if_neg c1, hv K q h3 h5]
        by_cases c2 : q + 1 < j
        · rw [if_pos c2, if_pos (by omega)]
        · rw [if_neg c2, if_neg (by omega)]
  refine g_iconst (v := 1) F dX4_dropFirst_0 (by decide) ?_
  refine g_istore_n (L' := [(1, _), (0, _)]) F dX4_dropFirst_1 rfl (by decide) rfl ?_
  refine g_sub [1, 0] rfl ?_
  exact LOOP 1 h1 (Nat.le_refl _) _ _ rfl (fun K q h3 h5 => by rw [if_neg (by omega)]) (fun _ _ _ _ => rfl)
set_option maxHeartbeats 4000000 in
set_option maxRecDepth 100000 in
theorem c_X4_take {l : Launch} {G : Gm} (hj : Aj G) {I : Ii} {pm : Pm} {k : Nat} (hk : k < 11) {n h : Nat} {σ : Sg} (R : Rp n h I pm k σ) {a d t : Int32} : CI l G yX4_take (wz yX4_take cX4_take 5 (some .int)) (rmL 1) [.ref (G.2.2 2 k), .int a, .int d, .int t] I pm (fun r u => (¬ ((0 ≤ a ∧ a ≤ 99) ∧ (0 ≤ d ∧ d ≤ 255) ∧ (0 ≤ t ∧ t ≤ 3)) ∧ r = -2 ∧ u = (I, pm)) ∨ (((0 ≤ a ∧ a ≤ 99) ∧ (0 ≤ d ∧ d ≤ 255) ∧ (0 ≤ t ∧ t ≤ 3)) ∧ h = 20 ∧ r = -4 ∧ u = (I, pm)) ∨ (((0 ≤ a ∧ a ≤ 99) ∧ (0 ≤ d ∧ d ≤ 255) ∧ (0 ≤ t ∧ t ≤ 3)) ∧ h < 20 ∧ r = nI (h + 1) ∧ Rp n (h + 1) u.1 pm k (ordS h a d t σ) ∧ u.2 = pm ∧ ∀ K i c, ¬ (2 ≤ K ∧ K ≤ 5 ∧ i = k) → u.1 K i c = I K i c)) := by
  refine CI.walk hj (by decide +kernel) (by show _ ≤ 5; exact Nat.le_of_ble_eq_true rfl) ?_
  intro p e s m args below meth c F hr hlk
  have hh := R.h20
  have LOOP : ∀ j, ((0 ≤ a ∧ a ≤ 99) ∧ (0 ≤ d ∧ d ≤ 255) ∧ (0 ≤ t ∧ t ≤ 3)) → h < 20 → ∀ (I2 : Ii) (xj : Int32), xj = nI j → j ≤ h → iposS σ t h = iposS σ t j → (∀ K q, 3 ≤ K → K ≤ 5 → I2 K k q = if j < q ∧ q ≤ h then I K k (q - 1) else I K k q) → (∀ K i c, ¬ (3 ≤ K ∧ K ≤ 5 ∧ i = k) → I2 K i c = I K i c) → GG p l e (rmL 1) s m args below meth c G (AA G) 5 0 0 (MQ below (va_Qi (fun (r : Int32) (u : Ii × Pm) => (¬ ((0 ≤ a ∧ a ≤ 99) ∧ (0 ≤ d ∧ d ≤ 255) ∧ (0 ≤ t ∧ t ≤ 3)) ∧ r = -2 ∧ u = (I, pm)) ∨ (((0 ≤ a ∧ a ≤ 99) ∧ (0 ≤ d ∧ d ≤ 255) ∧ (0 ≤ t ∧ t ≤ 3)) ∧ h = 20 ∧ r = -4 ∧ u = (I, pm)) ∨ (((0 ≤ a ∧ a ≤ 99) ∧ (0 ≤ d ∧ d ≤ 255) ∧ (0 ≤ t ∧ t ≤ 3)) ∧ h < 20 ∧ r = nI (h + 1) ∧ Rp n (h + 1) u.1 pm k (ordS h a d t σ) ∧ u.2 = pm ∧ ∀ K i c, ¬ (2 ≤ K ∧ K ≤ 5 ∧ i = k) → u.1 K i c = I K i c)) (fun (u : Ii × Pm) t => Wd G u.1 u.2 t.heap) (AA G)) args s 0 0 (AA G)) I2 pm [(0, .ref (G.2.2 2 k)), (1, .int a), (2, .int d), (3, .int t), (4, .int xj)] 51 [] := by
    refine up_ind ?_
    intro j ih hb hlt I2 xj ej hjl hip hv ho
    have e23 : I2 2 k 3 = nI h := (ho 2 k 3 (by omega)).trans R.hel
    refine g_iload F 4 dX4_take_51 rfl ?_
    refine g_if_le F 108 dX4_take_53 (by decide) (fun c_53 => ?_) (fun c_53 => ?_)
    · have n_53 := nx_let (a := j) (b := 0) ej rfl (by omega) (by omega) c_53
      have HP : iposS σ t h = j := by rw [hip, show j = 0 by omega]; rfl
      refine g_aload_n F 0 dX4_take_108 rfl rfl ?_
      refine g_iload F 4 dX4_take_109 rfl ?_
      refine g_iload_n F 1 dX4_take_111 rfl rfl ?_
      refine g_iload_n F 2 dX4_take_112 rfl rfl ?_
      refine g_iload_n F 3 dX4_take_113 rfl rfl ?_
      refine g_callVv (na := 4) F 2 _ (c_X4_setRow hj hk (q := j) (by omega) ej) hk rfl rfl lk_X4_35 rfl rfl (by decide +kernel) ⟨rfl, rfl, Nat.le_of_ble_eq_true rfl, Nat.le_of_ble_eq_true rfl, Nat.le_of_ble_eq_true rfl, Nat.le_of_ble_eq_true rfl, Nat.le_of_ble_eq_true rfl⟩ dX4_take_114 (fun u_114 h_114 => ?_)
      subst h_114
      try dsimp only
      refine g_aload_n F 0 dX4_take_117 rfl rfl ?_
      refine g_dup F dX4_take_118 rfl ?_
      refine gf_2_3 F hk mFL_X4_27 dX4_take_119 ?_
      refine g_iconst (v := 1) F dX4_take_122 (by decide) ?_
      refine g_iadd F dX4_take_123 ?_
      refine gp_2_3 F hk mFL_X4_27 dX4_take_124 ?_
      refine g_aload_n F 0 dX4_take_127 rfl rfl ?_
      refine gf_2_3 F hk mFL_X4_27 dX4_take_128 ?_
      refine g_iret F hr hlk rfl dX4_take_131 ?_
      simp only [up3_s]
      refine Or.inr (Or.inr ⟨hb, hlt, ?_, ?_, trivial, fun K i c q => ?_⟩)
      · rw [row_out (by omega), e23]; exact nI_1 h
      · refine R.ord hlt (fun K i c q => by rw [up3_k (by omega), row_out (by omega)]; exact ho K i c (by omega)) (by rw [up3_s, row_out (by omega), e23]; exact nI_1 h) (fun K q h3 h5 hq => ?_)
        rw [up3_k (by omega), row_at h3 h5, HP, hv K q h3 h5]
        by_cases c1 : q = j
        · rw [if_pos c1, show (if q < j then I K k q else if q = j then (if K = 3 then a else if K = 4 then d else t) else I K k (q - 1)) = (if K = 3 then a else if K = 4 then d else t) from by rw [if_neg (by omega), if_pos c1]]
        · rw [if_neg c1]
          by_cases c2 : q < j
          · rw [if_neg (by omega), if_pos c2]
          · rw [if_pos (by omega), if_neg c2, if_neg c1]
      · show up3 (rowI I2 k j a d t) 2 k 3 _ K i c = I K i c
        rw [up3_n (fun e => q ⟨by omega, by omega, e.2.1⟩), row_out (by omega)]
        exact ho K i c (by omega)
    · have n_53 := nx_lef (a := j) (b := 0) ej rfl (by omega) (by omega) c_53
      have e5 : I2 5 k (j - 1) = σ (104 + 3 * (j - 1) + 2) := by
        rw [hv 5 _ (by decide) (by decide), if_neg (by omega), (R.row (j := j - 1) (by omega)).2.2]
        congr 1
        omega
      refine g_aload_n F 0 dX4_take_56 rfl rfl ?_
      refine gf_2_2 F hk mFL_X4_18 dX4_take_57 ?_
      refine g_iload F 4 dX4_take_60 rfl ?_
      refine g_iconst (v := 1) F dX4_take_62 (by decide) ?_
      refine g_isub F dX4_take_63 ?_
      refine ga_5 (j := (j - 1)) F hk (nx_sub ej rfl (by omega)) (by omega) dX4_take_64 ?_
      refine g_iload_n F 3 dX4_take_65 rfl rfl ?_
      refine g_icmp_ge F 108 dX4_take_66 (by decide) (fun c_66 => ?_) (fun c_66 => ?_)
      · have HP : iposS σ t h = j := by
          obtain ⟨i, rfl⟩ : ∃ i, j = i + 1 := ⟨j - 1, by omega⟩
          rw [hip]
          show (if σ (104 + 3 * i + 2) < t then iposS σ t i else i + 1) = i + 1
          rw [Nat.add_sub_cancel] at e5
          have c66 := c_66
          rw [Nat.add_sub_cancel, e5] at c66
          exact if_neg (Int32.not_lt.mpr c66)
        refine g_aload_n F 0 dX4_take_108 rfl rfl ?_
        refine g_iload F 4 dX4_take_109 rfl ?_
        refine g_iload_n F 1 dX4_take_111 rfl rfl ?_
        refine g_iload_n F 2 dX4_take_112 rfl rfl ?_
        refine g_iload_n F 3 dX4_take_113 rfl rfl ?_
        refine g_callVv (na := 4) F 2 _ (c_X4_setRow hj hk (q := j) (by omega) ej) hk rfl rfl lk_X4_35 rfl rfl (by decide +kernel) ⟨rfl, rfl, Nat.le_of_ble_eq_true rfl, Nat.le_of_ble_eq_true rfl, Nat.le_of_ble_eq_true rfl, Nat.le_of_ble_eq_true rfl, Nat.le_of_ble_eq_true rfl⟩ dX4_take_114 (fun u_114 h_114 => ?_)
        subst h_114
        try dsimp only
        refine g_aload_n F 0 dX4_take_117 rfl rfl ?_
        refine g_dup F dX4_take_118 rfl ?_
        refine gf_2_3 F hk mFL_X4_27 dX4_take_119 ?_
        refine g_iconst (v := 1) F dX4_take_122 (by decide) ?_
        refine g_iadd F dX4_take_123 ?_
        refine gp_2_3 F hk mFL_X4_27 dX4_take_124 ?_
        refine g_aload_n F 0 dX4_take_127 rfl rfl ?_
        refine gf_2_3 F hk mFL_X4_27 dX4_take_128 ?_
        refine g_iret F hr hlk rfl dX4_take_131 ?_
        simp only [up3_s]
        refine Or.inr (Or.inr ⟨hb, hlt, ?_, ?_, trivial, fun K i c q => ?_⟩)
        · rw [row_out (by omega), e23]; exact nI_1 h
        · refine R.ord hlt (fun K i c q => by rw [up3_k (by omega), row_out (by omega)]; exact ho K i c (by omega)) (by rw [up3_s, row_out (by omega), e23]; exact nI_1 h) (fun K q h3 h5 hq => ?_)
          rw [up3_k (by omega), row_at h3 h5, HP, hv K q h3 h5]
          by_cases c1 : q = j
          · rw [if_pos c1, show (if q < j then I K k q else if q = j then (if K = 3 then a else if K = 4 then d else t) else I K k (q - 1)) = (if K = 3 then a else if K = 4 then d else t) from by rw [if_neg (by omega), if_pos c1]]
          · rw [if_neg c1]
            by_cases c2 : q < j
            · rw [if_neg (by omega), if_pos c2]
            · rw [if_pos (by omega), if_neg c2, if_neg c1]
        · show up3 (rowI I2 k j a d t) 2 k 3 _ K i c = I K i c
          rw [up3_n (fun e => q ⟨by omega, by omega, e.2.1⟩), row_out (by omega)]
          exact ho K i c (by omega)
      · refine g_aload_n F 0 dX4_take_69 rfl rfl ?_
        refine g_iload F 4 dX4_take_70 rfl ?_
        refine g_aload_n F 0 dX4_take_72 rfl rfl ?_
        refine gf_2_0 F hk mFL_X4_9 dX4_take_73 ?_
        refine g_iload F 4 dX4_take_76 rfl ?_
        refine g_iconst (v := 1) F dX4_take_78 (by decide) ?_
        refine g_isub F dX4_take_79 ?_
        refine ga_3 (j := (j - 1)) F hk (nx_sub ej rfl (by omega)) (by omega) dX4_take_80 ?_
        refine g_aload_n F 0 dX4_take_81 rfl rfl ?_
        refine gf_2_1 F hk mFL_X4_15 dX4_take_82 ?_
        refine g_iload F 4 dX4_take_85 rfl ?_
        refine g_iconst (v := 1) F dX4_take_87 (by decide) ?_
        refine g_isub F dX4_take_88 ?_
        refine ga_4 (j := (j - 1)) F hk (nx_sub ej rfl (by omega)) (by omega) dX4_take_89 ?_
        refine g_aload_n F 0 dX4_take_90 rfl rfl ?_
        refine gf_2_2 F hk mFL_X4_18 dX4_take_91 ?_
        refine g_iload F 4 dX4_take_94 rfl ?_
        refine g_iconst (v := 1) F dX4_take_96 (by decide) ?_
        refine g_isub F dX4_take_97 ?_
        refine ga_5 (j := (j - 1)) F hk (nx_sub ej rfl (by omega)) (by omega) dX4_take_98 ?_
        refine g_callVv (na := 4) F 2 _ (c_X4_setRow hj hk (q := j) (by omega) ej) hk rfl rfl lk_X4_35 rfl rfl (by decide +kernel) ⟨rfl, rfl, Nat.le_of_ble_eq_true rfl, Nat.le_of_ble_eq_true rfl, Nat.le_of_ble_eq_true rfl, Nat.le_of_ble_eq_true rfl, Nat.le_of_ble_eq_true rfl⟩ dX4_take_99 (fun u_99 h_99 => ?_)
        subst h_99
        try dsimp only
        refine g_iincC (q := -1) (L' := [(4, _), (0, _), (1, _), (2, _), (3, _)]) F 4 dX4_take_102 (by decide) rfl (by decide) rfl ?_
        refine g_goto F 51 dX4_take_105 (by decide) ?_
        refine g_sub [1, 2, 3, 4, 0] rfl ?_
        refine ih (j - 1) (by omega) hb hlt _ _ (nx_dec ej n_53) (by omega) ?_ (fun K q h3 h5 => ?_) (fun K i c q => by rw [row_out q]; exact ho K i c q)
        · rw [hip]
          obtain ⟨i, rfl⟩ : ∃ i, j = i + 1 := ⟨j - 1, by omega⟩
          rw [Nat.add_sub_cancel] at e5 ⊢
          have c66 := c_66
          rw [Nat.add_sub_cancel, e5] at c66
          show (if σ (104 + 3 * i + 2) < t then iposS σ t i else i + 1) = _
          exact if_pos (Int32.not_le.mp c66)
        · rw [row_at h3 h5]
          by_cases c1 : q = j
          · rw [c1, if_pos rfl, show (if j - 1 < j ∧ j ≤ h then I K k (j - 1) else I K k j) = I K k (j - 1) from if_pos (by omega)]
            rcases (show K = 3 ∨ K = 4 ∨ K = 5 by omega) with rfl | rfl | rfl
            · rw [if_pos rfl, hv 3 _ (by decide) (by decide), if_neg (by omega)]
            · rw [if_neg (by decide), if_pos rfl, hv 4 _ (by decide) (by decide), if_neg (by omega)]
            · rw [if_neg (by decide), if_neg (by decide), hv 5 _ (by decide) (by decide), if_neg (by omega)]
          · rw [if_neg c1, hv K q h3 h5]
            by_cases c2 : j < q ∧ q ≤ h
            · rw [if_pos c2, if_pos (by omega)]
            · rw [if_neg c2, if_neg (by omega)]
  refine g_iload_n F 1 dX4_take_0 rfl rfl ?_
  refine g_iconst (v := 0) F dX4_take_1 (by decide) ?_
  refine g_bipush (v := 99) F dX4_take_2 (by decide) ?_
  refine g_callIn (na := 3) F (c_X5_within hj) (gw mCO_yX5_within) F.2.2.1.2.1 mST_yX5_within mIN_RX5 rfl rfl (by decide +kernel) ⟨rfl, rfl, Nat.le_of_ble_eq_true rfl, Nat.le_of_ble_eq_true rfl, Nat.le_of_ble_eq_true rfl, Nat.le_of_ble_eq_true rfl, Nat.le_of_ble_eq_true rfl⟩ dX4_take_4 (fun r_4 u_4 h_4 => ?_)
  obtain ⟨rfl, rfl⟩ := h_4
  try dsimp only
  refine g_if_eq F 30 dX4_take_7 (by decide) (fun c_7 => ?_) (fun c_7 => ?_)
  · have N1 := bz_0.mp c_7
    refine g_bipush (v := -2) F dX4_take_30 (by decide) ?_
    exact g_iret F hr hlk rfl dX4_take_32 (by refine Or.inl ⟨fun w => ?_, rfl, rfl⟩; first | exact N1 w.1 | exact N2 w.2.1 | exact N3 w.2.2)
  · have P1 := bz_n.mp c_7
    refine g_iload_n F 2 dX4_take_10 rfl rfl ?_
    refine g_iconst (v := 0) F dX4_take_11 (by decide) ?_
    refine g_sipush (v := 255) F dX4_take_12 (by decide) ?_
    refine g_callIn (na := 3) F (c_X5_within hj) (gw mCO_yX5_within) F.2.2.1.2.1 mST_yX5_within mIN_RX5 rfl rfl (by decide +kernel) ⟨rfl, rfl, Nat.le_of_ble_eq_true rfl, Nat.le_of_ble_eq_true rfl, Nat.le_of_ble_eq_true rfl, Nat.le_of_ble_eq_true rfl, Nat.le_of_ble_eq_true rfl⟩ dX4_take_15 (fun r_15 u_15 h_15 => ?_)
    obtain ⟨rfl, rfl⟩ := h_15
    try dsimp only
    refine g_if_eq F 30 dX4_take_18 (by decide) (fun c_18 => ?_) (fun c_18 => ?_)
    · have N2 := bz_0.mp c_18
      refine g_bipush (v := -2) F dX4_take_30 (by decide) ?_
      exact g_iret F hr hlk rfl dX4_take_32 (by refine Or.inl ⟨fun w => ?_, rfl, rfl⟩; first | exact N1 w.1 | exact N2 w.2.1 | exact N3 w.2.2)
    · have P2 := bz_n.mp c_18
      refine g_iload_n F 3 dX4_take_21 rfl rfl ?_
      refine g_iconst (v := 0) F dX4_take_22 (by decide) ?_
      refine g_iconst (v := 3) F dX4_take_23 (by decide) ?_
      refine g_callIn (na := 3) F (c_X5_within hj) (gw mCO_yX5_within) F.2.2.1.2.1 mST_yX5_within mIN_RX5 rfl rfl (by decide +kernel) ⟨rfl, rfl, Nat.le_of_ble_eq_true rfl, Nat.le_of_ble_eq_true rfl, Nat.le_of_ble_eq_true rfl, Nat.le_of_ble_eq_true rfl, Nat.le_of_ble_eq_true rfl⟩ dX4_take_24 (fun r_24 u_24 h_24 => ?_)
      obtain ⟨rfl, rfl⟩ := h_24
      try dsimp only
      refine g_if_ne F 33 dX4_take_27 (by decide) (fun c_27 => ?_) (fun c_27 => ?_)
      · have P3 := bz_n.mp c_27
        refine g_aload_n F 0 dX4_take_33 rfl rfl ?_
        refine gf_2_3 F hk mFL_X4_27 dX4_take_34 ?_
        refine g_bipush (v := 20) F dX4_take_37 (by decide) ?_
        refine g_icmp_lt F 45 dX4_take_39 (by decide) (fun c_39 => ?_) (fun c_39 => ?_)
        · have n_39 := nx_ltt (a := h) (b := 20) R.hel rfl (by omega) (by omega) c_39
          refine g_aload_n F 0 dX4_take_45 rfl rfl ?_
          refine gf_2_3 F hk mFL_X4_27 dX4_take_46 ?_
          refine g_topi (fun x4_49 ex4_49 => ?_)
          refine g_istore (L' := [(4, _), (0, _), (1, _), (2, _), (3, _)]) F dX4_take_49 (by decide) rfl ?_
          refine g_sub [1, 2, 3, 4, 0] rfl ?_
          exact LOOP h ⟨P1, P2, P3⟩ (by omega) _ _ (ex4_49.trans R.hel) (Nat.le_refl _) rfl (fun K q h3 h5 => by rw [if_neg (by omega)]) (fun _ _ _ _ => rfl)
        · have n_39 := nx_ltf (a := h) (b := 20) R.hel rfl (by omega) (by omega) c_39
          refine g_bipush (v := -4) F dX4_take_42 (by decide) ?_
          refine g_iret F hr hlk rfl dX4_take_44 ?_
          exact Or.inr (Or.inl ⟨⟨P1, P2, P3⟩, by omega, rfl, rfl⟩)
      · have N3 := bz_0.mp c_27
        refine g_bipush (v := -2) F dX4_take_30 (by decide) ?_
        exact g_iret F hr hlk rfl dX4_take_32 (by refine Or.inl ⟨fun w => ?_, rfl, rfl⟩; first | exact N1 w.1 | exact N2 w.2.1 | exact N3 w.2.2)
set_option maxHeartbeats 4000000 in
set_option maxRecDepth 100000 in
theorem c_X4_told {l : Launch} {G : Gm} (hj : Aj G) {I : Ii} {pm : Pm} {k : Nat} (hk : k < 11) {n h : Nat} {σ : Sg} (R : Rp n h I pm k σ) {x y : Int32} : CI l G yX4_told (wz yX4_told cX4_told 3 (some .int)) (rmL 1) [.ref (G.2.2 2 k), .int x, .int y] I pm (fun r u => r = waitS h σ x y ∧ u = (I, pm)) := by
  have hh := R.h20
  have hl := R.hel
  refine CI.walk hj (by decide +kernel) (by show _ ≤ 3; exact Nat.le_of_ble_eq_true rfl) ?_
  intro p e s m args below meth c F hr hlk
  refine g_iload_n F 1 dX4_told_0 rfl rfl ?_
  refine g_iconst (v := 0) F dX4_told_1 (by decide) ?_
  refine g_aload_n F 0 dX4_told_2 rfl rfl ?_
  refine gf_2_3 F hk mFL_X4_27 dX4_told_3 ?_
  refine g_iconst (v := 1) F dX4_told_6 (by decide) ?_
  refine g_isub F dX4_told_7 ?_
  refine g_callIn (na := 3) F (c_X5_within hj) (gw mCO_yX5_within) F.2.2.1.2.1 mST_yX5_within mIN_RX5 rfl rfl (by decide +kernel) ⟨rfl, rfl, Nat.le_of_ble_eq_true rfl, Nat.le_of_ble_eq_true rfl, Nat.le_of_ble_eq_true rfl, Nat.le_of_ble_eq_true rfl, Nat.le_of_ble_eq_true rfl⟩ dX4_told_8 (fun r_8 u_8 h_8 => ?_)
  obtain ⟨rfl, rfl⟩ := h_8
  try dsimp only
  refine g_if_ne F 16 dX4_told_11 (by decide) (fun c_11 => ?_) (fun c_11 => ?_)
  · have P1 := bz_n.mp c_11
    rw [hl] at P1
    obtain ⟨q, hq, eq⟩ := wait_in hh P1.1 P1.2
    have hxq : x.toInt.toNat = q := by rw [eq, nI_toInt (by omega)]; rfl
    have ex : x = nI x.toInt.toNat := by rw [hxq]; exact eq
    have hqh : x.toInt.toNat < h := by omega
    have r := R.row hqh
    refine g_iload_n F 2 dX4_told_16 rfl rfl ?_
    by_cases hs_17 : 0 ≤ y.toInt ∧ y.toInt ≤ 2
    · obtain ⟨js_17, hj_17, ej_17⟩ := sw_in hs_17.1 hs_17.2 (by decide)
      rcases (show js_17 = 0 ∨ js_17 = 1 ∨ js_17 = 2 by omega) with hq | hq | hq
      · have hs_17_0 : y = 0 := by rw [ej_17, hq] <;> rfl
        refine g_tableIn (off := 27) F 44 dX4_told_17 (by rw [hs_17_0]; decide) (by rw [hs_17_0]; decide) (by rw [hs_17_0]; rfl) (by decide) ?_
        refine g_aload_n F 0 dX4_told_44 rfl rfl ?_
        refine gf_2_0 F hk mFL_X4_9 dX4_told_45 ?_
        refine g_iload_n F 1 dX4_told_48 rfl rfl ?_
        refine ga_3 (j := x.toInt.toNat) F hk ex (by omega) dX4_told_49 ?_
        exact g_iret F hr hlk rfl dX4_told_50 (by refine ⟨?_, rfl⟩; unfold waitS; rw [if_pos P1, if_pos hs_17_0]; exact r.1)
      · have hs_17_1 : y = 1 := by rw [ej_17, hq] <;> rfl
        refine g_tableIn (off := 34) F 51 dX4_told_17 (by rw [hs_17_1]; decide) (by rw [hs_17_1]; decide) (by rw [hs_17_1]; rfl) (by decide) ?_
        refine g_aload_n F 0 dX4_told_51 rfl rfl ?_
        refine gf_2_1 F hk mFL_X4_15 dX4_told_52 ?_
        refine g_iload_n F 1 dX4_told_55 rfl rfl ?_
        refine ga_4 (j := x.toInt.toNat) F hk ex (by omega) dX4_told_56 ?_
        exact g_iret F hr hlk rfl dX4_told_57 (by refine ⟨?_, rfl⟩; unfold waitS; rw [if_pos P1, hs_17_1]; exact r.2.1)
      · have hs_17_2 : y = 2 := by rw [ej_17, hq] <;> rfl
        refine g_tableIn (off := 41) F 58 dX4_told_17 (by rw [hs_17_2]; decide) (by rw [hs_17_2]; decide) (by rw [hs_17_2]; rfl) (by decide) ?_
        refine g_aload_n F 0 dX4_told_58 rfl rfl ?_
        refine gf_2_2 F hk mFL_X4_18 dX4_told_59 ?_
        refine g_iload_n F 1 dX4_told_62 rfl rfl ?_
        refine ga_5 (j := x.toInt.toNat) F hk ex (by omega) dX4_told_63 ?_
        exact g_iret F hr hlk rfl dX4_told_64 (by refine ⟨?_, rfl⟩; unfold waitS; rw [if_pos P1, hs_17_2]; exact r.2.2)
    · refine g_tableOut F 65 dX4_told_17 (by omega) (by decide) ?_
      refine g_bipush (v := -2) F dX4_told_65 (by decide) ?_
      exact g_iret F hr hlk rfl dX4_told_67 (by refine ⟨?_, rfl⟩; unfold waitS; rw [if_pos P1, if_neg (fun e => hs_17 (by rw [e]; decide)), if_neg (fun e => hs_17 (by rw [e]; decide)), if_neg (fun e => hs_17 (by rw [e]; decide))])
  · have N1 := bz_0.mp c_11
    rw [hl] at N1
    refine g_iconst (v := -1) F dX4_told_14 (by decide) ?_
    exact g_iret F hr hlk rfl dX4_told_15 (by refine ⟨?_, rfl⟩; unfold waitS; rw [if_neg N1])
set_option maxHeartbeats 4000000 in
set_option maxRecDepth 100000 in
theorem c_X4_copyFrom {l : Launch} {G : Gm} (hj : Aj G) {I : Ii} {pm : Pm} {k k2 : Nat} (hk : k < 11) (hk2 : k2 < 11) (hne : k2 ≠ k) : CV l G yX4_copyFrom (wz yX4_copyFrom cX4_copyFrom 2 none) (rmL 1) [.ref (G.2.2 2 k), .ref (G.2.2 2 k2)] I pm (fun u => u.2 = pm ∧ (∀ K q, 3 ≤ K → K ≤ 5 → q < 20 → u.1 K k q = I K k2 q) ∧ u.1 2 k 3 = I 2 k2 3 ∧ ∀ K i c, ¬ (2 ≤ K ∧ K ≤ 5 ∧ i = k) → u.1 K i c = I K i c) := by
  refine CV.walk hj (by decide +kernel) (by show _ ≤ 2; exact Nat.le_of_ble_eq_true rfl) ?_
  intro p e s m args below meth c F hr hlk
  refine g_aload_n F 1 dX4_copyFrom_0 rfl rfl ?_
  refine gf_2_0 F hk2 mFL_X4_9 dX4_copyFrom_1 ?_
  refine g_iconst (v := 0) F dX4_copyFrom_4 (by decide) ?_
  refine g_aload_n F 0 dX4_copyFrom_5 rfl rfl ?_
  refine gf_2_0 F hk mFL_X4_9 dX4_copyFrom_6 ?_
  refine g_iconst (v := 0) F dX4_copyFrom_9 (by decide) ?_
  refine g_bipush (v := 20) F dX4_copyFrom_10 (by decide) ?_
  refine g_copyi (n := 20) (K := 3) (K' := 3) F hk2 hk rfl rfl mML_X4_21 mNA_arraycopyName mST_arraycopyName mIN_java_lang_System rfl (by decide) ⟨Nat.le_of_ble_eq_true rfl, Nat.le_of_ble_eq_true rfl⟩ (by simp only [cvv, upR_s]) dX4_copyFrom_12 ?_
  refine g_aload_n F 1 dX4_copyFrom_15 rfl rfl ?_
  refine gf_2_1 F hk2 mFL_X4_15 dX4_copyFrom_16 ?_
  refine g_iconst (v := 0) F dX4_copyFrom_19 (by decide) ?_
  refine g_aload_n F 0 dX4_copyFrom_20 rfl rfl ?_
  refine gf_2_1 F hk mFL_X4_15 dX4_copyFrom_21 ?_
  refine g_iconst (v := 0) F dX4_copyFrom_24 (by decide) ?_
  refine g_bipush (v := 20) F dX4_copyFrom_25 (by decide) ?_
  refine g_copyi (n := 20) (K := 4) (K' := 4) F hk2 hk rfl rfl mML_X4_21 mNA_arraycopyName mST_arraycopyName mIN_java_lang_System rfl (by decide) ⟨Nat.le_of_ble_eq_true rfl, Nat.le_of_ble_eq_true rfl⟩ (by simp only [cvv, upR_s]) dX4_copyFrom_27 ?_
  refine g_aload_n F 1 dX4_copyFrom_30 rfl rfl ?_
  refine gf_2_2 F hk2 mFL_X4_18 dX4_copyFrom_31 ?_
  refine g_iconst (v := 0) F dX4_copyFrom_34 (by decide) ?_
  refine g_aload_n F 0 dX4_copyFrom_35 rfl rfl ?_
  refine gf_2_2 F hk mFL_X4_18 dX4_copyFrom_36 ?_
  refine g_iconst (v := 0) F dX4_copyFrom_39 (by decide) ?_
  refine g_bipush (v := 20) F dX4_copyFrom_40 (by decide) ?_
  refine g_copyi (n := 20) (K := 5) (K' := 5) F hk2 hk rfl rfl mML_X4_21 mNA_arraycopyName mST_arraycopyName mIN_java_lang_System rfl (by decide) ⟨Nat.le_of_ble_eq_true rfl, Nat.le_of_ble_eq_true rfl⟩ (by simp only [cvv, upR_s]) dX4_copyFrom_42 ?_
  refine g_aload_n F 0 dX4_copyFrom_45 rfl rfl ?_
  refine g_aload_n F 1 dX4_copyFrom_46 rfl rfl ?_
  refine gf_2_3 F hk2 mFL_X4_27 dX4_copyFrom_47 ?_
  refine gp_2_3 F hk mFL_X4_27 dX4_copyFrom_50 ?_
  refine g_vret F hr hlk dX4_copyFrom_53 ?_
  refine ⟨rfl, fun K q h3 h5 hq => ?_, ?_, fun K i c q => ?_⟩
  · rcases (show K = 3 ∨ K = 4 ∨ K = 5 by omega) with rfl | rfl | rfl <;> simp [up3, upR, va_cpy, hq]
  · simp [up3, upR, hne]
  · dsimp only
    rw [up3_n (fun e => q ⟨by omega, by omega, e.2.1⟩), upR_n (fun e => q ⟨by omega, by omega, e.2⟩), upR_n (fun e => q ⟨by omega, by omega, e.2⟩), upR_n (fun e => q ⟨by omega, by omega, e.2⟩)]
