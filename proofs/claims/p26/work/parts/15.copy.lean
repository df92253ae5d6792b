/-! PART 15: a layout is copied; locos come and go -/
theorem inL_ne {k k2 K : Nat} (h : K ≤ 6) (hne : k2 ≠ k) : ¬ inL k K k2 := fun q => q.elim (fun e => hne e.2) (fun e => by omega)
theorem inL_ne7 {k k2 j : Nat} (hj : j < 8) (hne : k2 ≠ k) : ¬ inL k 7 (8 * k2 + j) := fun q => q.elim (fun e => by omega) (fun e => hne (by omega))
theorem Rp.keep {n h : Nat} {I I' : Ii} {pm pm' : Pm} {k k2 : Nat} {σ : Sg} (R : Rp n h I pm k2 σ) (F : Fr k I pm I' pm') (hne : k2 ≠ k) : Rp n h I' pm' k2 σ := by
  obtain ⟨⟨a1, a2, a3, a4, a5, a6, a7, a8⟩, b, c, d, e1, e2, e3, e4, e5, e6⟩ := R
  have u : ∀ K j, K ≤ 6 → I' K k2 j = I K k2 j := fun K j hK => F.1 K k2 j (inL_ne hK hne)
  have up : ∀ r, pm' k2 r = pm k2 r := fun r => F.2 k2 r hne
  refine ⟨⟨?_, ?_, ?_, ?_, ?_, ?_, ?_, ?_⟩, fun b' hb' => ?_, fun r' f' hr' hf' => ?_, fun j hj => ?_, fun r hr => by rw [up]; exact e1 r hr, fun r r' hr hr' hq => e2 r r' hr hr' (by rw [← up, ← up]; exact hq), e3, e4, e5, e6⟩
  · rw [u _ _ (by decide)]; exact a1
  · rw [u _ _ (by decide)]; exact a2
  · rw [u _ _ (by decide)]; exact a3
  · rw [u _ _ (by decide), u _ _ (by decide)]; exact a4
  · rw [u _ _ (by decide)]; exact a5
  · rw [u _ _ (by decide)]; exact a6
  · rw [u _ _ (by decide)]; exact a7
  · rw [u _ _ (by decide)]; exact a8
  · rw [u _ _ (by decide)]; exact b b' hb'
  · rw [up, F.1 _ _ _ (inL_ne7 (e1 r' (by omega)) hne)]
    exact c r' f' hr' hf'
  · rw [u _ _ (by decide), u _ _ (by decide), u _ _ (by decide)]; exact d j hj
/-- a row's places: the numbers 0 to 7, each once -/
def Pw (pm : Pm) (k : Nat) : Prop := (∀ r, r < 8 → pm k r < 8) ∧ ∀ r r', r < 8 → r' < 8 → pm k r = pm k r' → r = r'
theorem Rp.pw {n h : Nat} {I : Ii} {pm : Pm} {k : Nat} {σ : Sg} (R : Rp n h I pm k σ) : Pw pm k := ⟨R.2.2.2.2.1, R.2.2.2.2.2.1⟩
def lposS (σ : Sg) (a : Int32) : Nat → Nat
  | 0 => 0
  | j + 1 => if a < σ (16 + 11 * j) then lposS σ a j else j + 1
theorem lposS_le (σ : Sg) (a : Int32) : ∀ j, lposS σ a j ≤ j := by
  intro j
  induction j with
  | zero => exact Nat.le_refl _
  | succ j ih =>
    unfold lposS
    split
    · omega
    · exact Nat.le_refl _
def newF (a b c d : Int32) (f : Nat) : Int32 := if f = 0 then a else if f = 1 then b else if f = 2 then c else if f = 3 then d else if f = 7 then 1 else 0
def addS (n : Nat) (a b c d : Int32) (σ : Sg) : Sg := fun i => if i = 6 then nI (n + 1) else if 16 ≤ i ∧ i < 27 + 11 * n then (if (i - 16) / 11 < lposS σ a n then σ i else if (i - 16) / 11 = lposS σ a n then newF a b c d ((i - 16) % 11) else σ (i - 11)) else σ i
def lifS (n p : Nat) (σ : Sg) : Sg := fun i => if i = 6 then nI (n - 1) else if 16 + 11 * p ≤ i ∧ i < 16 + 11 * (n - 1) then σ (i + 11) else if 16 + 11 * (n - 1) ≤ i ∧ i < 16 + 11 * n then 0 else σ i
/-- which loco stands where, behind a coming and behind a going -/
def pmA (pm : Pm) (k n p : Nat) : Pm := fun k' r => if k' = k then (if r < p then pm k r else if r = p then pm k n else if r ≤ n then pm k (r - 1) else pm k r) else pm k' r
def pmL (pm : Pm) (k n p : Nat) : Pm := fun k' r => if k' = k then (if r < p then pm k r else if r + 1 < n then pm k (r + 1) else if r + 1 = n then pm k p else pm k r) else pm k' r
theorem Rp.locos {n h n' : Nat} {I I' : Ii} {pm pm' : Pm} {k : Nat} {σ σ' : Sg} (R : Rp n h I pm k σ) (hn : n' ≤ 8) (hw : Pw pm' k) (ho : ∀ K j, K ≤ 6 → ¬ (K = 0 ∧ j = 3) → I' K k j = I K k j) (hs : ∀ i, (i < 16 ∨ 104 ≤ i) → i ≠ 6 → σ' i = σ i) (s6 : σ' 6 = nI n') (h3 : I' 0 k 3 = nI n') (hr : ∀ r f, r < n' → f < 11 → I' 7 (8 * k + pm' k r) (fmS f) = σ' (16 + 11 * r + f)) : Rp n' h I' pm' k σ' := by
  obtain ⟨⟨a1, a2, a3, a4, a5, a6, a7, a8⟩, b, c, d, e1, e2, e3, e4, e5, e6⟩ := R
  refine ⟨⟨?_, ?_, ?_, ?_, ?_, ?_, ?_, ?_⟩, fun b' hb => ?_, hr, fun j hj => ?_, hw.1, hw.2, s6, hn, by rw [hs 7 (by decide) (by decide)]; exact e5, e6⟩
  · rw [h3, s6]
  · rw [ho _ _ (by decide) (by decide), hs _ (by decide) (by decide)]; exact a2
  · rw [ho _ _ (by decide) (by decide), hs _ (by decide) (by decide)]; exact a3
  · rw [ho _ _ (by decide) (by decide), ho _ _ (by decide) (by decide), hs _ (by decide) (by decide)]; exact a4
  · rw [ho _ _ (by decide) (by decide), hs _ (by decide) (by decide)]; exact a5
  · rw [ho _ _ (by decide) (by decide), hs _ (by decide) (by decide)]; exact a6
  · rw [ho _ _ (by decide) (by decide), hs _ (by decide) (by decide)]; exact a7
  · rw [ho _ _ (by decide) (by decide), hs _ (by decide) (by decide)]; exact a8
  · rw [ho _ _ (by decide) (by omega), hs _ (by omega) (by omega)]; exact b b' hb
  · rw [ho _ _ (by decide) (by omega), ho _ _ (by decide) (by omega), ho _ _ (by decide) (by omega), hs _ (by omega) (by omega), hs _ (by omega) (by omega), hs _ (by omega) (by omega)]; exact d j hj
theorem begin_at {I : Ii} {i : Nat} {a b c d : Int32} {f : Nat} (hf : f < 11) : beginI I i a b c d 7 i (fmS f) = newF a b c d f := by
  rcases (show f = 0 ∨ f = 1 ∨ f = 2 ∨ f = 3 ∨ f = 4 ∨ f = 5 ∨ f = 6 ∨ f = 7 ∨ f = 8 ∨ f = 9 ∨ f = 10 by omega) with rfl | rfl | rfl | rfl | rfl | rfl | rfl | rfl | rfl | rfl | rfl <;> simp [beginI, up3, newF, fmS]
theorem begin_out {I : Ii} {i : Nat} {a b c d : Int32} {K i' f : Nat} (h : ¬ (K = 7 ∧ i' = i)) : beginI I i a b c d K i' f = I K i' f := by
  unfold beginI
  iterate 11 rw [up3_n (fun e => h ⟨e.1, e.2.1⟩)]
theorem pwA {pm : Pm} {k n p : Nat} (h : Pw pm k) (hn : n < 8) (hp : p ≤ n) : Pw (pmA pm k n p) k := by
  have key : ∀ r, r < 8 → ∃ s, s < 8 ∧ pmA pm k n p k r = pm k s ∧ ((r < p ∧ s = r) ∨ (r = p ∧ s = n) ∨ (p < r ∧ r ≤ n ∧ s + 1 = r) ∨ (n < r ∧ s = r)) := by
    intro r hr
    unfold pmA
    rw [if_pos rfl]
    by_cases c1 : r < p
    · exact ⟨r, hr, by rw [if_pos c1], Or.inl ⟨c1, rfl⟩⟩
    · by_cases c2 : r = p
      · exact ⟨n, hn, by rw [if_neg c1, if_pos c2], Or.inr (Or.inl ⟨c2, rfl⟩)⟩
      · by_cases c3 : r ≤ n
        · exact ⟨r - 1, by omega, by rw [if_neg c1, if_neg c2, if_pos c3], Or.inr (Or.inr (Or.inl ⟨by omega, c3, by omega⟩))⟩
        · exact ⟨r, hr, by rw [if_neg c1, if_neg c2, if_neg c3], Or.inr (Or.inr (Or.inr ⟨by omega, rfl⟩))⟩
  refine ⟨fun r hr => ?_, fun r r' hr hr' e => ?_⟩
  · obtain ⟨s, hs, e, -⟩ := key r hr
    rw [e]; exact h.1 s hs
  · obtain ⟨s, hs, e1, h1⟩ := key r hr
    obtain ⟨s', hs', e2, h2⟩ := key r' hr'
    rw [e1, e2] at e
    have := h.2 s s' hs hs' e
    omega
theorem pwL {pm : Pm} {k n p : Nat} (h : Pw pm k) (hn : n ≤ 8) (hp : p < n) : Pw (pmL pm k n p) k := by
  have key : ∀ r, r < 8 → ∃ s, s < 8 ∧ pmL pm k n p k r = pm k s ∧ ((r < p ∧ s = r) ∨ (p ≤ r ∧ r + 1 < n ∧ s = r + 1) ∨ (r + 1 = n ∧ s = p) ∨ (n ≤ r ∧ s = r)) := by
    intro r hr
    unfold pmL
    rw [if_pos rfl]
    by_cases c1 : r < p
    · exact ⟨r, hr, by rw [if_pos c1], Or.inl ⟨c1, rfl⟩⟩
    · by_cases c2 : r + 1 < n
      · exact ⟨r + 1, by omega, by rw [if_neg c1, if_pos c2], Or.inr (Or.inl ⟨by omega, c2, rfl⟩)⟩
      · by_cases c3 : r + 1 = n
        · exact ⟨p, by omega, by rw [if_neg c1, if_neg c2, if_pos c3], Or.inr (Or.inr (Or.inl ⟨c3, rfl⟩))⟩
        · exact ⟨r, hr, by rw [if_neg c1, if_neg c2, if_neg c3], Or.inr (Or.inr (Or.inr ⟨by omega, rfl⟩))⟩
  refine ⟨fun r hr => ?_, fun r r' hr hr' e => ?_⟩
  · obtain ⟨s, hs, e, -⟩ := key r hr
    rw [e]; exact h.1 s hs
  · obtain ⟨s, hs, e1, h1⟩ := key r hr
    obtain ⟨s', hs', e2, h2⟩ := key r' hr'
    rw [e1, e2] at e
    have := h.2 s s' hs hs' e
    omega
theorem Rp.add {n h : Nat} {I I' : Ii} {pm pm' : Pm} {k : Nat} {σ : Sg} {a b c d : Int32} (R : Rp n h I pm k σ) (hn : n < 8) (hpm : ∀ r, r < 8 → pm' k r = pmA pm k n (lposS σ a n) k r) (hI : ∀ K i j, ¬ (K = 0 ∧ i = k ∧ j = 3) → I' K i j = beginI I (8 * k + pm k n) a b c d K i j) (h3 : I' 0 k 3 = nI (n + 1)) : Rp (n + 1) h I' pm' k (addS n a b c d σ) := by
  have hp := lposS_le σ a n
  have hw := pwA R.pw hn hp
  have hw' : Pw pm' k := ⟨fun r hr => by rw [hpm r hr]; exact hw.1 r hr, fun r r' hr hr' e => hw.2 r r' hr hr' (by rw [← hpm r hr, ← hpm r' hr']; exact e)⟩
  refine R.locos (by omega) hw' (fun K j hK hj => by rw [hI _ _ _ (fun e => hj ⟨e.1, e.2.2⟩), begin_out (by omega)]) (fun i hi h6 => by unfold addS; rw [if_neg h6, if_neg (by omega)]) (by unfold addS; rw [if_pos rfl]) h3 (fun r f hr hf => ?_)
  rw [hI _ _ _ (by omega), hpm r (by omega)]
  have q1 : (16 + 11 * r + f - 16) / 11 = r := by omega
  have q2 : (16 + 11 * r + f - 16) % 11 = f := by omega
  have hσ : addS n a b c d σ (16 + 11 * r + f) = if r < lposS σ a n then σ (16 + 11 * r + f) else if r = lposS σ a n then newF a b c d f else σ (16 + 11 * r + f - 11) := by
    unfold addS
    rw [if_neg (by omega), if_pos (by omega), q1, q2]
  have hp2 : pmA pm k n (lposS σ a n) k r = if r < lposS σ a n then pm k r else if r = lposS σ a n then pm k n else if r ≤ n then pm k (r - 1) else pm k r := by
    unfold pmA
    rw [if_pos rfl]
  rw [hσ, hp2]
  have hne : ∀ s, s < n → ¬ (7 = 7 ∧ 8 * k + pm k s = 8 * k + pm k n) := fun s hs e => by
    have := R.pw.2 s n (by omega) hn (by omega)
    omega
  by_cases c1 : r < lposS σ a n
  · rw [if_pos c1, if_pos c1, begin_out (hne r (by omega))]
    exact R.lc (by omega) hf
  · rw [if_neg c1, if_neg c1]
    by_cases c2 : r = lposS σ a n
    · rw [if_pos c2, if_pos c2, begin_at hf]
    · rw [if_neg c2, if_neg c2, if_pos (by omega), begin_out (hne (r - 1) (by omega)), show 16 + 11 * r + f - 11 = 16 + 11 * (r - 1) + f by omega]
      exact R.lc (by omega) hf
theorem Rp.lift {n h : Nat} {I I' : Ii} {pm pm' : Pm} {k p : Nat} {σ : Sg} (R : Rp n h I pm k σ) (hp : p < n) (hpm : ∀ r, r < 8 → pm' k r = pmL pm k n p k r) (hI : ∀ K i j, ¬ (K = 0 ∧ i = k ∧ j = 3) → I' K i j = I K i j) (h3 : I' 0 k 3 = nI (n - 1)) : Rp (n - 1) h I' pm' k (lifS n p σ) := by
  have hn := R.n8
  have hw := pwL R.pw hn hp
  have hw' : Pw pm' k := ⟨fun r hr => by rw [hpm r hr]; exact hw.1 r hr, fun r r' hr hr' e => hw.2 r r' hr hr' (by rw [← hpm r hr, ← hpm r' hr']; exact e)⟩
  refine R.locos (by omega) hw' (fun K j hK hj => hI _ _ _ (fun e => hj ⟨e.1, e.2.2⟩)) (fun i hi h6 => by unfold lifS; rw [if_neg h6, if_neg (by omega), if_neg (by omega)]) (by unfold lifS; rw [if_pos rfl]) h3 (fun r f hr hf => ?_)
  rw [hI _ _ _ (by omega), hpm r (by omega)]
  have hσ : lifS n p σ (16 + 11 * r + f) = if r < p then σ (16 + 11 * r + f) else σ (16 + 11 * r + f + 11) := by
    unfold lifS
    by_cases c1 : r < p
    · rw [if_neg (by omega), if_neg (by omega), if_neg (by omega), if_pos c1]
    · rw [if_neg (by omega), if_pos (by omega), if_neg c1]
  have hp2 : pmL pm k n p k r = if r < p then pm k r else if r + 1 < n then pm k (r + 1) else if r + 1 = n then pm k p else pm k r := by
    unfold pmL
    rw [if_pos rfl]
  rw [hσ, hp2]
  by_cases c1 : r < p
  · rw [if_pos c1, if_pos c1]
    exact R.lc (by omega) hf
  · rw [if_neg c1, if_neg c1, if_pos (by omega), show 16 + 11 * r + f + 11 = 16 + 11 * (r + 1) + f by omega]
    exact R.lc (by omega) hf
/-- a layout holds what another held -/
theorem Rp.cop {n h : Nat} {I I' : Ii} {pm pm' : Pm} {k k2 : Nat} {σ : Sg} (R : Rp n h I pm k2 σ) (hw : Pw pm' k) (h0 : ∀ j, 3 ≤ j → j < 10 → I' 0 k j = I 0 k2 j) (h2 : I' 2 k 3 = I 2 k2 3) (h6 : ∀ b, b < 8 → I' 6 k b = I 6 k2 b) (hr : ∀ K q, 3 ≤ K → K ≤ 5 → q < 20 → I' K k q = I K k2 q) (h7 : ∀ r f, r < n → f < 11 → I' 7 (8 * k + pm' k r) f = I 7 (8 * k2 + pm k2 r) f) : Rp n h I' pm' k σ := by
  obtain ⟨⟨a1, a2, a3, a4, a5, a6, a7, a8⟩, b, c, d, e1, e2, e3, e4, e5, e6⟩ := R
  refine ⟨⟨?_, ?_, ?_, ?_, ?_, ?_, ?_, ?_⟩, fun b' hb => ?_, fun r f hrr hf => ?_, fun j hj => ?_, hw.1, hw.2, e3, e4, e5, e6⟩
  · rw [h0 _ (by decide) (by decide)]; exact a1
  · rw [h0 _ (by decide) (by decide)]; exact a2
  · rw [h0 _ (by decide) (by decide)]; exact a3
  · rw [h0 _ (by decide) (by decide), h0 _ (by decide) (by decide)]; exact a4
  · rw [h0 _ (by decide) (by decide)]; exact a5
  · rw [h0 _ (by decide) (by decide)]; exact a6
  · rw [h0 _ (by decide) (by decide)]; exact a7
  · rw [h2]; exact a8
  · rw [h6 b' hb]; exact b b' hb
  · rw [h7 r _ hrr (fmS_lt hf)]; exact c r f hrr hf
  · rw [hr _ _ (by decide) (by decide) (by omega), hr _ _ (by decide) (by decide) (by omega), hr _ _ (by decide) (by decide) (by omega)]; exact d j hj
set_option maxHeartbeats 4000000 in
set_option maxRecDepth 100000 in
theorem c_X1_copyFrom {l : Launch} {G : Gm} (hj : Aj G) {I : Ii} {pm : Pm} {k k2 : Nat} (hk : k < 11) (hk2 : k2 < 11) (hne : k2 ≠ k) {n h : Nat} {σ : Sg} (R : Rp n h I pm k2 σ) (hw : Pw pm k) : CV l G yX1_copyFrom (wz yX1_copyFrom cX1_copyFrom 3 none) (rmL 2) [.ref (G.2.2 0 k), .ref (G.2.2 0 k2)] I pm (fun u => Rp n h u.1 u.2 k σ ∧ Fr k I pm u.1 u.2 ∧ u.2 = pm) := by
  refine CV.walk hj (by decide +kernel) (by show _ ≤ 3; exact Nat.le_of_ble_eq_true rfl) ?_
  intro p e s m args below meth c F hr hlk
  have hn8 := R.n8
  have LOOP : ∀ j, j ≤ n → ∀ (I2 : Ii) (xj : Int32), xj = nI j → (∀ r f, r < j → f < 11 → I2 7 (8 * k + pm k r) f = I 7 (8 * k2 + pm k2 r) f) → (∀ K i c, ¬ (K = 7 ∧ i / 8 = k) → I2 K i c = I K i c) → GG p l e (rmL 2) s m args below meth c G (AA G) 3 0 0 (MQ below (va_Qv (fun (u : Ii × Pm) => Rp n h u.1 u.2 k σ ∧ Fr k I pm u.1 u.2 ∧ u.2 = pm) (fun (u : Ii × Pm) t => Wd G u.1 u.2 t.heap) (AA G)) args s 0 0 (AA G)) I2 pm [(0, .ref (G.2.2 0 k)), (1, .ref (G.2.2 0 k2)), (2, .int xj)] 2 [] := by
    refine dn_ind ?_
    intro j hjl ih I2 xj ej hv ho
    have ec : I2 0 k2 3 = nI n := (ho 0 k2 3 (by omega)).trans R.cnt
    refine g_iload_n F 2 dX1_copyFrom_2 rfl rfl ?_
    refine g_aload_n F 1 dX1_copyFrom_3 rfl rfl ?_
    refine gf_0_3 F hk2 mFL_X1_29 dX1_copyFrom_4 ?_
    refine g_icmp_ge F 31 dX1_copyFrom_7 (by decide) (fun c_7 => ?_) (fun c_7 => ?_)
    · have n_7 := nx_get (a := j) (b := n) ej ec (by omega) (by omega) c_7
      refine g_aload_n F 0 dX1_copyFrom_31 rfl rfl ?_
      refine gf_0_1 F hk mFL_X1_20 dX1_copyFrom_32 ?_
      refine g_aload_n F 1 dX1_copyFrom_35 rfl rfl ?_
      refine gf_0_1 F hk2 mFL_X1_20 dX1_copyFrom_36 ?_
      refine g_callVv (na := 1) F 2 _ (c_X4_copyFrom hj hk hk2 hne) hk rfl rfl lk_X1_37 rfl rfl (by decide +kernel) ⟨rfl, rfl, Nat.le_of_ble_eq_true rfl, Nat.le_of_ble_eq_true rfl, Nat.le_of_ble_eq_true rfl, Nat.le_of_ble_eq_true rfl, Nat.le_of_ble_eq_true rfl⟩ dX1_copyFrom_39 (fun u_39 h_39 => ?_)
      obtain ⟨ue, uv, us, uo⟩ := h_39
      obtain ⟨I3, pm3⟩ := u_39
      dsimp only at ue uv us uo
      subst ue
      dsimp only
      refine g_aload_n F 1 dX1_copyFrom_42 rfl rfl ?_
      refine gf_0_2 F hk2 mFL_X1_24 dX1_copyFrom_43 ?_
      refine g_iconst (v := 0) F dX1_copyFrom_46 (by decide) ?_
      refine g_aload_n F 0 dX1_copyFrom_47 rfl rfl ?_
      refine gf_0_2 F hk mFL_X1_24 dX1_copyFrom_48 ?_
      refine g_iconst (v := 0) F dX1_copyFrom_51 (by decide) ?_
      refine g_bipush (v := 8) F dX1_copyFrom_52 (by decide) ?_
      refine g_copyi (n := 8) (K := 6) (K' := 6) F hk2 hk rfl rfl mML_X1_40 mNA_arraycopyName mST_arraycopyName mIN_java_lang_System rfl (by decide) ⟨Nat.le_of_ble_eq_true rfl, Nat.le_of_ble_eq_true rfl⟩ (by simp only [cvv, upR_s]) dX1_copyFrom_54 ?_
      refine g_aload_n F 0 dX1_copyFrom_57 rfl rfl ?_
      refine g_aload_n F 1 dX1_copyFrom_58 rfl rfl ?_
      refine gf_0_3 F hk2 mFL_X1_29 dX1_copyFrom_59 ?_
      refine g_eqi (y := I 0 k2 3) (by simp [up3, upR, hne, uo, ho]) ?_
      refine gp_0_3 F hk mFL_X1_29 dX1_copyFrom_62 ?_
      refine g_aload_n F 0 dX1_copyFrom_65 rfl rfl ?_
      refine g_aload_n F 1 dX1_copyFrom_66 rfl rfl ?_
      refine gf_0_4 F hk2 mFL_X1_46 dX1_copyFrom_67 ?_
      refine g_eqi (y := I 0 k2 4) (by simp [up3, upR, hne, uo, ho]) ?_
      refine gp_0_4 F hk mFL_X1_46 dX1_copyFrom_70 ?_
      refine g_aload_n F 0 dX1_copyFrom_73 rfl rfl ?_
      refine g_aload_n F 1 dX1_copyFrom_74 rfl rfl ?_
      refine gf_0_5 F hk2 mFL_X1_49 dX1_copyFrom_75 ?_
      refine g_eqi (y := I 0 k2 5) (by simp [up3, upR, hne, uo, ho]) ?_
      refine gp_0_5 F hk mFL_X1_49 dX1_copyFrom_78 ?_
      refine g_aload_n F 0 dX1_copyFrom_81 rfl rfl ?_
      refine g_aload_n F 1 dX1_copyFrom_82 rfl rfl ?_
      refine gf_0_6 F hk2 mFL_X1_52 dX1_copyFrom_83 ?_
      refine g_eqi (y := I 0 k2 6) (by simp [up3, upR, hne, uo, ho]) ?_
      refine gp_0_6 F hk mFL_X1_52 dX1_copyFrom_86 ?_
      refine g_aload_n F 0 dX1_copyFrom_89 rfl rfl ?_
      refine g_aload_n F 1 dX1_copyFrom_90 rfl rfl ?_
      refine gf_0_7 F hk2 mFL_X1_55 dX1_copyFrom_91 ?_
      refine g_eqi (y := I 0 k2 7) (by simp [up3, upR, hne, uo, ho]) ?_
      refine gp_0_7 F hk mFL_X1_55 dX1_copyFrom_94 ?_
      refine g_aload_n F 0 dX1_copyFrom_97 rfl rfl ?_
      refine g_aload_n F 1 dX1_copyFrom_98 rfl rfl ?_
      refine gf_0_8 F hk2 mFL_X1_58 dX1_copyFrom_99 ?_
      refine g_eqi (y := I 0 k2 8) (by simp [up3, upR, hne, uo, ho]) ?_
      refine gp_0_8 F hk mFL_X1_58 dX1_copyFrom_102 ?_
      refine g_aload_n F 0 dX1_copyFrom_105 rfl rfl ?_
      refine g_aload_n F 1 dX1_copyFrom_106 rfl rfl ?_
      refine gf_0_9 F hk2 mFL_X1_61 dX1_copyFrom_107 ?_
      refine g_eqi (y := I 0 k2 9) (by simp [up3, upR, hne, uo, ho]) ?_
      refine gp_0_9 F hk mFL_X1_61 dX1_copyFrom_110 ?_
      refine g_vret F hr hlk dX1_copyFrom_113 ?_
      have hjn : j = n := by omega
      subst hjn
      refine ⟨R.cop hw (fun j h3 h10 => ?_) ?_ (fun b hb => ?_) (fun K q h3 h5 hq => ?_) (fun r f hr hf => ?_), ⟨fun K i c hq => ?_, fun _ _ _ => rfl⟩, rfl⟩
      · rcases (show j = 3 ∨ j = 4 ∨ j = 5 ∨ j = 6 ∨ j = 7 ∨ j = 8 ∨ j = 9 by omega) with rfl | rfl | rfl | rfl | rfl | rfl | rfl <;> simp [up3]
      · simp [up3, upR, us]
        exact ho 2 k2 3 (by omega)
      · simp [up3, upR, va_cpy, hb, uo, ho]
      · simp [up3, upR, show ¬ K = 0 by omega, show ¬ K = 6 by omega]
        rw [uv K q h3 h5 hq]
        exact ho K k2 q (by omega)
      · simp [up3, upR]
        rw [uo 7 _ _ (by omega)]
        exact hv r f hr hf
      · dsimp only
        iterate 7 rw [up3_n (fun e => hq (Or.inl ⟨by omega, e.2.1⟩))]
        rw [upR_n (fun e => hq (Or.inl ⟨by omega, e.2⟩)), uo K i c (fun e => hq (Or.inl ⟨by omega, e.2.2⟩))]
        exact ho K i c (fun e => hq (Or.inr e))
    · have n_7 := nx_gef (a := j) (b := n) ej ec (by omega) (by omega) c_7
      have hi7 : 8 * k + pm k j < 88 := inL7 hk (hw.1 j (by omega))
      have hi72 : 8 * k2 + pm k2 j < 88 := inL7 hk2 (R.p8 (by omega))
      have h77 : 8 * k2 + pm k2 j ≠ 8 * k + pm k j := fun e => hne (by have := hw.1 j (by omega); have := R.p8 (r := j) (by omega); omega)
      refine g_aload_n F 0 dX1_copyFrom_10 rfl rfl ?_
      refine gf_0_0 F hk mFL_X1_11 dX1_copyFrom_11 ?_
      refine g_iload_n F 2 dX1_copyFrom_14 rfl rfl ?_
      refine ga_1 (j := j) F hk ej (by omega) dX1_copyFrom_15 ?_
      refine g_aload_n F 1 dX1_copyFrom_16 rfl rfl ?_
      refine gf_0_0 F hk2 mFL_X1_11 dX1_copyFrom_17 ?_
      refine g_iload_n F 2 dX1_copyFrom_20 rfl rfl ?_
      refine ga_1 (j := j) F hk2 ej (by omega) dX1_copyFrom_21 ?_
      refine g_callVv (na := 1) F 7 _ (c_X2_copyFrom hj hi7 hi72 h77) hi7 rfl rfl lk_X1_33 rfl rfl (by decide +kernel) ⟨rfl, rfl, Nat.le_of_ble_eq_true rfl, Nat.le_of_ble_eq_true rfl, Nat.le_of_ble_eq_true rfl, Nat.le_of_ble_eq_true rfl, Nat.le_of_ble_eq_true rfl⟩ dX1_copyFrom_22 (fun u_22 h_22 => ?_)
      obtain ⟨ue, uv, uo⟩ := h_22
      obtain ⟨I3, pm3⟩ := u_22
      dsimp only at ue uv uo
      subst ue
      dsimp only
      refine g_iincC (q := 1) (L' := [(2, _), (0, _), (1, _)]) F 2 dX1_copyFrom_25 (by decide) rfl (by decide) rfl ?_
      refine g_goto F 2 dX1_copyFrom_28 (by decide) ?_
      refine g_sub [1, 2, 0] rfl ?_
      refine ih (by omega) _ _ (nx_add ej rfl) (fun r f hr hf => ?_) (fun K i c q => ?_)
      · by_cases e : r = j
        · rw [e, uv f hf, ho 7 _ _ (by have := R.p8 (r := j) (by omega); omega)]
        · rw [uo _ _ _ (fun q => e (hw.2 r j (by omega) (by omega) (by omega)))]
          exact hv r f (by omega) hf
      · rw [uo _ _ _ (fun e => q ⟨e.1, by have := hw.1 j (by omega); omega⟩)]
        exact ho K i c q
  refine g_iconst (v := 0) F dX1_copyFrom_0 (by decide) ?_
  refine g_istore_n (L' := [(2, _), (0, _), (1, _)]) F dX1_copyFrom_1 rfl (by decide) rfl ?_
  refine g_sub [1, 2, 0] rfl ?_
  exact LOOP 0 (Nat.zero_le _) _ _ rfl (fun r f hr => absurd hr (by omega)) (fun _ _ _ _ => rfl)
set_option maxHeartbeats 4000000 in
set_option maxRecDepth 100000 in
theorem c_X1_addLoco {l : Launch} {G : Gm} (hj : Aj G) {I : Ii} {pm : Pm} {k : Nat} (hk : k < 11) {n h : Nat} {σ : Sg} (R : Rp n h I pm k σ) {a b c0 d : Int32} : CI l G yX1_addLoco (wz yX1_addLoco cX1_addLoco 7 (some .int)) (rmL 1) [.ref (G.2.2 0 k), .int a, .int b, .int c0, .int d] I pm (fun r u => (¬ ((1 ≤ a ∧ a ≤ 99) ∧ (1 ≤ b ∧ b ≤ 20) ∧ (0 ≤ c0 ∧ c0 ≤ 2) ∧ (0 ≤ d ∧ d ≤ 799)) ∧ r = -2 ∧ u = (I, pm)) ∨ (((1 ≤ a ∧ a ≤ 99) ∧ (1 ≤ b ∧ b ≤ 20) ∧ (0 ≤ c0 ∧ c0 ≤ 2) ∧ (0 ≤ d ∧ d ≤ 799)) ∧ rkS σ a n < n ∧ r = -5 ∧ u = (I, pm)) ∨ (((1 ≤ a ∧ a ≤ 99) ∧ (1 ≤ b ∧ b ≤ 20) ∧ (0 ≤ c0 ∧ c0 ≤ 2) ∧ (0 ≤ d ∧ d ≤ 799)) ∧ ¬ rkS σ a n < n ∧ n = 8 ∧ r = -4 ∧ u = (I, pm)) ∨ (((1 ≤ a ∧ a ≤ 99) ∧ (1 ≤ b ∧ b ≤ 20) ∧ (0 ≤ c0 ∧ c0 ≤ 2) ∧ (0 ≤ d ∧ d ≤ 799)) ∧ ¬ rkS σ a n < n ∧ n < 8 ∧ r = nI (n + 1) ∧ Rp (n + 1) h u.1 u.2 k (addS n a b c0 d σ) ∧ Fr k I pm u.1 u.2)) := by
  refine CI.walk hj (by decide +kernel) (by show _ ≤ 7; exact Nat.le_of_ble_eq_true rfl) ?_
  intro p e s m args below meth c F hr hlk
  have hn8 := R.n8
  have hrl := rk_le σ a n
  have LOOP : ∀ j, ((1 ≤ a ∧ a ≤ 99) ∧ (1 ≤ b ∧ b ≤ 20) ∧ (0 ≤ c0 ∧ c0 ≤ 2) ∧ (0 ≤ d ∧ d ≤ 799)) → ¬ rkS σ a n < n → n < 8 → ∀ (pm2 : Pm) (xj : Int32), xj = nI j → j ≤ n → lposS σ a n = lposS σ a j → (∀ r, r < 8 → pm2 k r = if j < r ∧ r ≤ n then pm k (r - 1) else pm k r) → (∀ k2 r, k2 ≠ k → pm2 k2 r = pm k2 r) → GG p l e (rmL 1) s m args below meth c G (AA G) 7 0 0 (MQ below (va_Qi (fun (r : Int32) (u : Ii × Pm) => (¬ ((1 ≤ a ∧ a ≤ 99) ∧ (1 ≤ b ∧ b ≤ 20) ∧ (0 ≤ c0 ∧ c0 ≤ 2) ∧ (0 ≤ d ∧ d ≤ 799)) ∧ r = -2 ∧ u = (I, pm)) ∨ (((1 ≤ a ∧ a ≤ 99) ∧ (1 ≤ b ∧ b ≤ 20) ∧ (0 ≤ c0 ∧ c0 ≤ 2) ∧ (0 ≤ d ∧ d ≤ 799)) ∧ rkS σ a n < n ∧ r = -5 ∧ u = (I, pm)) ∨ (((1 ≤ a ∧ a ≤ 99) ∧ (1 ≤ b ∧ b ≤ 20) ∧ (0 ≤ c0 ∧ c0 ≤ 2) ∧ (0 ≤ d ∧ d ≤ 799)) ∧ ¬ rkS σ a n < n ∧ n = 8 ∧ r = -4 ∧ u = (I, pm)) ∨ (((1 ≤ a ∧ a ≤ 99) ∧ (1 ≤ b ∧ b ≤ 20) ∧ (0 ≤ c0 ∧ c0 ≤ 2) ∧ (0 ≤ d ∧ d ≤ 799)) ∧ ¬ rkS σ a n < n ∧ n < 8 ∧ r = nI (n + 1) ∧ Rp (n + 1) h u.1 u.2 k (addS n a b c0 d σ) ∧ Fr k I pm u.1 u.2)) (fun (u : Ii × Pm) t => Wd G u.1 u.2 t.heap) (AA G)) args s 0 0 (AA G)) I pm2 [(0, .ref (G.2.2 0 k)), (1, .int a), (2, .int b), (3, .int c0), (4, .int d), (5, .ref (G.2.2 7 (8 * k + pm k n))), (6, .int xj)] 88 [] := by
    refine up_ind ?_
    intro j ih hb hrk hlt pm2 xj ej hjl hip hv ho
    refine g_iload F 6 dX1_addLoco_88 rfl ?_
    refine g_if_le F 131 dX1_addLoco_90 (by decide) (fun c_90 => ?_) (fun c_90 => ?_)
    · have n_90 := nx_let (a := j) (b := 0) ej rfl (by omega) (by omega) c_90
      have HP : lposS σ a n = j := by rw [hip, show j = 0 by omega]; rfl
      have hin : 8 * k + pm k n < 88 := inL7 hk (R.p8 (by omega))
      have hbe : ∀ (x1 x2 x3 x4 : Int32), beginI I (8 * k + pm k n) x1 x2 x3 x4 0 k 3 = nI n := fun _ _ _ _ => (begin_out (by omega)).trans R.cnt
      refine g_aload_n F 0 dX1_addLoco_131 rfl rfl ?_
      refine gf_0_0 F hk mFL_X1_11 dX1_addLoco_132 ?_
      refine g_iload F 6 dX1_addLoco_135 rfl ?_
      refine g_aload F 5 dX1_addLoco_137 rfl ?_
      refine gs_1 (j := j) F hk (R.p8 (by omega)) ej (by omega) dX1_addLoco_139 ?_
      refine g_aload F 5 dX1_addLoco_140 rfl ?_
      refine g_iload_n F 1 dX1_addLoco_142 rfl rfl ?_
      refine g_iload_n F 2 dX1_addLoco_143 rfl rfl ?_
      refine g_iload_n F 3 dX1_addLoco_144 rfl rfl ?_
      refine g_iload F 4 dX1_addLoco_145 rfl ?_
      refine g_callVv (na := 4) F 7 _ (c_X2_begin hj hin) hin rfl rfl lk_X1_79 rfl rfl (by decide +kernel) ⟨rfl, rfl, Nat.le_of_ble_eq_true rfl, Nat.le_of_ble_eq_true rfl, Nat.le_of_ble_eq_true rfl, Nat.le_of_ble_eq_true rfl, Nat.le_of_ble_eq_true rfl⟩ dX1_addLoco_147 (fun u_147 h_147 => ?_)
      subst h_147
      try dsimp only
      refine g_aload_n F 0 dX1_addLoco_150 rfl rfl ?_
      refine g_dup F dX1_addLoco_151 rfl ?_
      refine gf_0_3 F hk mFL_X1_29 dX1_addLoco_152 ?_
      refine g_iconst (v := 1) F dX1_addLoco_155 (by decide) ?_
      refine g_iadd F dX1_addLoco_156 ?_
      refine gp_0_3 F hk mFL_X1_29 dX1_addLoco_157 ?_
      refine g_aload_n F 0 dX1_addLoco_160 rfl rfl ?_
      refine gf_0_3 F hk mFL_X1_29 dX1_addLoco_161 ?_
      refine g_iret F hr hlk rfl dX1_addLoco_164 ?_
      refine Or.inr (Or.inr (Or.inr ⟨hb, hrk, hlt, ?_, R.add (I' := up3 (beginI I (8 * k + pm k n) a b c0 d) 0 k 3 (beginI I (8 * k + pm k n) a b c0 d 0 k 3 + 1)) hlt (fun r hr => ?_) (fun K i q hq => up3_n (fun e => hq ⟨e.1, e.2.1, e.2.2⟩)) (by rw [up3_s, hbe]; exact nI_1 n), ⟨fun K i q hq => ?_, fun k2 r hk2 => ?_⟩⟩))
      · show up3 (beginI I (8 * k + pm k n) a b c0 d) 0 k 3 (beginI I (8 * k + pm k n) a b c0 d 0 k 3 + 1) 0 k 3 = _
        rw [up3_s, hbe]; exact nI_1 n
      · unfold pmA
        rw [if_pos rfl, HP]
        show upP pm2 k j (pm k n) k r = _
        unfold upP
        by_cases c1 : r = j
        · rw [if_pos ⟨rfl, c1⟩, if_neg (by omega), if_pos c1]
        · rw [if_neg (fun e => c1 e.2), if_neg c1, hv r hr]
          by_cases c2 : r < j
          · rw [if_neg (by omega), if_pos c2]
          · rw [if_neg c2]
            by_cases c3 : r ≤ n
            · rw [if_pos (by omega), if_pos c3]
            · rw [if_neg (by omega), if_neg c3]
      · show up3 (beginI I (8 * k + pm k n) a b c0 d) 0 k 3 _ K i q = I K i q
        rw [up3_n (fun e => hq (Or.inl ⟨by omega, e.2.1⟩)), begin_out (fun e => hq (Or.inr ⟨e.1, by have := R.p8 (r := n) (by omega); omega⟩))]
      · show upP pm2 k j (pm k n) k2 r = _
        unfold upP
        rw [if_neg (fun e => hk2 e.1)]
        exact ho k2 r hk2
    · have n_90 := nx_lef (a := j) (b := 0) ej rfl (by omega) (by omega) c_90
      have e5 : pm2 k (j - 1) = pm k (j - 1) := by rw [hv _ (by omega), if_neg (by omega)]
      have hi7 : 8 * k + pm2 k (j - 1) < 88 := by rw [e5]; exact inL7 hk (R.p8 (by omega))
      have ea : I 7 (8 * k + pm2 k (j - 1)) 0 = σ (16 + 11 * (j - 1)) := by rw [e5]; exact R.lc (f := 0) (by omega) (by decide)
      refine g_aload_n F 0 dX1_addLoco_93 rfl rfl ?_
      refine gf_0_0 F hk mFL_X1_11 dX1_addLoco_94 ?_
      refine g_iload F 6 dX1_addLoco_97 rfl ?_
      refine g_iconst (v := 1) F dX1_addLoco_99 (by decide) ?_
      refine g_isub F dX1_addLoco_100 ?_
      refine ga_1 (j := (j - 1)) F hk (nx_sub ej rfl (by omega)) (by omega) dX1_addLoco_101 ?_
      refine gf_7_0 F hi7 mFL_X1_76 dX1_addLoco_102 ?_
      refine g_iload_n F 1 dX1_addLoco_105 rfl rfl ?_
      refine g_icmp_le F 131 dX1_addLoco_106 (by decide) (fun c_106 => ?_) (fun c_106 => ?_)
      · have HP : lposS σ a n = j := by
          obtain ⟨i, rfl⟩ : ∃ i, j = i + 1 := ⟨j - 1, by omega⟩
          rw [hip]
          show (if a < σ (16 + 11 * i) then lposS σ a i else i + 1) = i + 1
          rw [Nat.add_sub_cancel] at ea
          have c66 := c_106
          rw [Nat.add_sub_cancel, ea] at c66
          exact if_neg (Int32.not_lt.mpr c66)
        have hin : 8 * k + pm k n < 88 := inL7 hk (R.p8 (by omega))
        have hbe : ∀ (x1 x2 x3 x4 : Int32), beginI I (8 * k + pm k n) x1 x2 x3 x4 0 k 3 = nI n := fun _ _ _ _ => (begin_out (by omega)).trans R.cnt
        refine g_aload_n F 0 dX1_addLoco_131 rfl rfl ?_
        refine gf_0_0 F hk mFL_X1_11 dX1_addLoco_132 ?_
        refine g_iload F 6 dX1_addLoco_135 rfl ?_
        refine g_aload F 5 dX1_addLoco_137 rfl ?_
        refine gs_1 (j := j) F hk (R.p8 (by omega)) ej (by omega) dX1_addLoco_139 ?_
        refine g_aload F 5 dX1_addLoco_140 rfl ?_
        refine g_iload_n F 1 dX1_addLoco_142 rfl rfl ?_
        refine g_iload_n F 2 dX1_addLoco_143 rfl rfl ?_
        refine g_iload_n F 3 dX1_addLoco_144 rfl rfl ?_
        refine g_iload F 4 dX1_addLoco_145 rfl ?_
        refine g_callVv (na := 4) F 7 _ (c_X2_begin hj hin) hin rfl rfl lk_X1_79 rfl rfl (by decide +kernel) ⟨rfl, rfl, Nat.le_of_ble_eq_true rfl, Nat.le_of_ble_eq_true rfl, Nat.le_of_ble_eq_true rfl, Nat.le_of_ble_eq_true rfl, Nat.le_of_ble_eq_true rfl⟩ dX1_addLoco_147 (fun u_147 h_147 => ?_)
        subst h_147
        try dsimp only
        refine g_aload_n F 0 dX1_addLoco_150 rfl rfl ?_
        refine g_dup F dX1_addLoco_151 rfl ?_
        refine gf_0_3 F hk mFL_X1_29 dX1_addLoco_152 ?_
        refine g_iconst (v := 1) F dX1_addLoco_155 (by decide) ?_
        refine g_iadd F dX1_addLoco_156 ?_
        refine gp_0_3 F hk mFL_X1_29 dX1_addLoco_157 ?_
        refine g_aload_n F 0 dX1_addLoco_160 rfl rfl ?_
        refine gf_0_3 F hk mFL_X1_29 dX1_addLoco_161 ?_
        refine g_iret F hr hlk rfl dX1_addLoco_164 ?_
        refine Or.inr (Or.inr (Or.inr ⟨hb, hrk, hlt, ?_, R.add (I' := up3 (beginI I (8 * k + pm k n) a b c0 d) 0 k 3 (beginI I (8 * k + pm k n) a b c0 d 0 k 3 + 1)) hlt (fun r hr => ?_) (fun K i q hq => up3_n (fun e => hq ⟨e.1, e.2.1, e.2.2⟩)) (by rw [up3_s, hbe]; exact nI_1 n), ⟨fun K i q hq => ?_, fun k2 r hk2 => ?_⟩⟩))
        · show up3 (beginI I (8 * k + pm k n) a b c0 d) 0 k 3 (beginI I (8 * k + pm k n) a b c0 d 0 k 3 + 1) 0 k 3 = _
          rw [up3_s, hbe]; exact nI_1 n
        · unfold pmA
          rw [if_pos rfl, HP]
          show upP pm2 k j (pm k n) k r = _
          unfold upP
          by_cases c1 : r = j
          · rw [if_pos ⟨rfl, c1⟩, if_neg (by omega), if_pos c1]
          · rw [if_neg (fun e => c1 e.2), if_neg c1, hv r hr]
            by_cases c2 : r < j
            · rw [if_neg (by omega), if_pos c2]
            · rw [if_neg c2]
              by_cases c3 : r ≤ n
              · rw [if_pos (by omega), if_pos c3]
              · rw [if_neg (by omega), if_neg c3]
        · show up3 (beginI I (8 * k + pm k n) a b c0 d) 0 k 3 _ K i q = I K i q
          rw [up3_n (fun e => hq (Or.inl ⟨by omega, e.2.1⟩)), begin_out (fun e => hq (Or.inr ⟨e.1, by have := R.p8 (r := n) (by omega); omega⟩))]
        · show upP pm2 k j (pm k n) k2 r = _
          unfold upP
          rw [if_neg (fun e => hk2 e.1)]
          exact ho k2 r hk2
      · refine g_aload_n F 0 dX1_addLoco_109 rfl rfl ?_
        refine gf_0_0 F hk mFL_X1_11 dX1_addLoco_110 ?_
        refine g_iload F 6 dX1_addLoco_113 rfl ?_
        refine g_aload_n F 0 dX1_addLoco_115 rfl rfl ?_
        refine gf_0_0 F hk mFL_X1_11 dX1_addLoco_116 ?_
        refine g_iload F 6 dX1_addLoco_119 rfl ?_
        refine g_iconst (v := 1) F dX1_addLoco_121 (by decide) ?_
        refine g_isub F dX1_addLoco_122 ?_
        refine ga_1 (j := (j - 1)) F hk (nx_sub ej rfl (by omega)) (by omega) dX1_addLoco_123 ?_
        refine gs_1 (j := j) F hk (show pm2 k (j - 1) < 8 by rw [e5]; exact R.p8 (by omega)) ej (by omega) dX1_addLoco_124 ?_
        refine g_iincC (q := -1) (L' := [(6, _), (0, _), (1, _), (2, _), (3, _), (4, _), (5, _)]) F 6 dX1_addLoco_125 (by decide) rfl (by decide) rfl ?_
        refine g_goto F 88 dX1_addLoco_128 (by decide) ?_
        refine g_sub [1, 2, 3, 4, 5, 6, 0] rfl ?_
        refine ih (j - 1) (by omega) hb hrk hlt _ _ (nx_dec ej n_90) (by omega) ?_ (fun r hr => ?_) (fun k2 r hk2 => ?_)
        · rw [hip]
          obtain ⟨i, rfl⟩ : ∃ i, j = i + 1 := ⟨j - 1, by omega⟩
          rw [Nat.add_sub_cancel] at ea ⊢
          have c66 := c_106
          rw [Nat.add_sub_cancel, ea] at c66
          show (if a < σ (16 + 11 * i) then lposS σ a i else i + 1) = _
          exact if_pos (Int32.not_le.mp c66)
        · unfold upP
          by_cases c1 : r = j
          · rw [if_pos ⟨rfl, c1⟩, if_pos (by omega), e5, c1]
          · rw [if_neg (fun e => c1 e.2), hv r hr]
            by_cases c2 : j < r ∧ r ≤ n
            · rw [if_pos c2, if_pos (by omega)]
            · rw [if_neg c2, if_neg (by omega)]
        · unfold upP
          rw [if_neg (fun e => hk2 e.1)]
          exact ho k2 r hk2
  refine g_iload_n F 1 dX1_addLoco_0 rfl rfl ?_
  refine g_iconst (v := 1) F dX1_addLoco_1 (by decide) ?_
  refine g_bipush (v := 99) F dX1_addLoco_2 (by decide) ?_
  refine g_callIn (na := 3) F (c_X5_within hj) (gw mCO_yX5_within) F.2.2.1.1 mST_yX5_within mIN_RX5 rfl rfl (by decide +kernel) ⟨rfl, rfl, Nat.le_of_ble_eq_true rfl, Nat.le_of_ble_eq_true rfl, Nat.le_of_ble_eq_true rfl, Nat.le_of_ble_eq_true rfl, Nat.le_of_ble_eq_true rfl⟩ dX1_addLoco_4 (fun r_4 u_4 h_4 => ?_)
  obtain ⟨rfl, rfl⟩ := h_4
  try dsimp only
  refine g_if_eq F 41 dX1_addLoco_7 (by decide) (fun c_7 => ?_) (fun c_7 => ?_)
  · have N1 := bz_0.mp c_7
    refine g_bipush (v := -2) F dX1_addLoco_41 (by decide) ?_
    refine g_iret F hr hlk rfl dX1_addLoco_43 ?_
    refine Or.inl ⟨fun w => ?_, rfl, rfl⟩; first | exact N1 w.1 | exact N2 w.2.1 | exact N3 w.2.2.1 | exact N4 w.2.2.2
  · have P1 := bz_n.mp c_7
    refine g_iload_n F 2 dX1_addLoco_10 rfl rfl ?_
    refine g_iconst (v := 1) F dX1_addLoco_11 (by decide) ?_
    refine g_bipush (v := 20) F dX1_addLoco_12 (by decide) ?_
    refine g_callIn (na := 3) F (c_X5_within hj) (gw mCO_yX5_within) F.2.2.1.1 mST_yX5_within mIN_RX5 rfl rfl (by decide +kernel) ⟨rfl, rfl, Nat.le_of_ble_eq_true rfl, Nat.le_of_ble_eq_true rfl, Nat.le_of_ble_eq_true rfl, Nat.le_of_ble_eq_true rfl, Nat.le_of_ble_eq_true rfl⟩ dX1_addLoco_14 (fun r_14 u_14 h_14 => ?_)
    obtain ⟨rfl, rfl⟩ := h_14
    try dsimp only
    refine g_if_eq F 41 dX1_addLoco_17 (by decide) (fun c_17 => ?_) (fun c_17 => ?_)
    · have N2 := bz_0.mp c_17
      refine g_bipush (v := -2) F dX1_addLoco_41 (by decide) ?_
      refine g_iret F hr hlk rfl dX1_addLoco_43 ?_
      refine Or.inl ⟨fun w => ?_, rfl, rfl⟩; first | exact N1 w.1 | exact N2 w.2.1 | exact N3 w.2.2.1 | exact N4 w.2.2.2
    · have P2 := bz_n.mp c_17
      refine g_iload_n F 3 dX1_addLoco_20 rfl rfl ?_
      refine g_iconst (v := 0) F dX1_addLoco_21 (by decide) ?_
      refine g_iconst (v := 2) F dX1_addLoco_22 (by decide) ?_
      refine g_callIn (na := 3) F (c_X5_within hj) (gw mCO_yX5_within) F.2.2.1.1 mST_yX5_within mIN_RX5 rfl rfl (by decide +kernel) ⟨rfl, rfl, Nat.le_of_ble_eq_true rfl, Nat.le_of_ble_eq_true rfl, Nat.le_of_ble_eq_true rfl, Nat.le_of_ble_eq_true rfl, Nat.le_of_ble_eq_true rfl⟩ dX1_addLoco_23 (fun r_23 u_23 h_23 => ?_)
      obtain ⟨rfl, rfl⟩ := h_23
      try dsimp only
      refine g_if_eq F 41 dX1_addLoco_26 (by decide) (fun c_26 => ?_) (fun c_26 => ?_)
      · have N3 := bz_0.mp c_26
        refine g_bipush (v := -2) F dX1_addLoco_41 (by decide) ?_
        refine g_iret F hr hlk rfl dX1_addLoco_43 ?_
        refine Or.inl ⟨fun w => ?_, rfl, rfl⟩; first | exact N1 w.1 | exact N2 w.2.1 | exact N3 w.2.2.1 | exact N4 w.2.2.2
      · have P3 := bz_n.mp c_26
        refine g_iload F 4 dX1_addLoco_29 rfl ?_
        refine g_iconst (v := 0) F dX1_addLoco_31 (by decide) ?_
        refine g_sipush (v := 799) F dX1_addLoco_32 (by decide) ?_
        refine g_callIn (na := 3) F (c_X5_within hj) (gw mCO_yX5_within) F.2.2.1.1 mST_yX5_within mIN_RX5 rfl rfl (by decide +kernel) ⟨rfl, rfl, Nat.le_of_ble_eq_true rfl, Nat.le_of_ble_eq_true rfl, Nat.le_of_ble_eq_true rfl, Nat.le_of_ble_eq_true rfl, Nat.le_of_ble_eq_true rfl⟩ dX1_addLoco_35 (fun r_35 u_35 h_35 => ?_)
        obtain ⟨rfl, rfl⟩ := h_35
        try dsimp only
        refine g_if_ne F 44 dX1_addLoco_38 (by decide) (fun c_38 => ?_) (fun c_38 => ?_)
        · have P4 := bz_n.mp c_38
          refine g_aload_n F 0 dX1_addLoco_44 rfl rfl ?_
          refine g_iload_n F 1 dX1_addLoco_45 rfl rfl ?_
          refine g_callIv (na := 1) F 0 _ (c_X1_rankOf hj hk R) hk rfl rfl lk_X1_68 rfl rfl (by decide +kernel) ⟨rfl, rfl, Nat.le_of_ble_eq_true rfl, Nat.le_of_ble_eq_true rfl, Nat.le_of_ble_eq_true rfl, Nat.le_of_ble_eq_true rfl, Nat.le_of_ble_eq_true rfl⟩ dX1_addLoco_46 (fun r_46 u_46 h_46 => ?_)
          obtain ⟨rfl, rfl⟩ := h_46
          try dsimp only
          refine g_aload_n F 0 dX1_addLoco_49 rfl rfl ?_
          refine gf_0_3 F hk mFL_X1_29 dX1_addLoco_50 ?_
          refine g_icmp_ge F 59 dX1_addLoco_53 (by decide) (fun c_53 => ?_) (fun c_53 => ?_)
          · have n_53 := nx_get (a := (rkS σ a n)) (b := n) rfl R.cnt (by omega) (by omega) c_53
            refine g_aload_n F 0 dX1_addLoco_59 rfl rfl ?_
            refine gf_0_3 F hk mFL_X1_29 dX1_addLoco_60 ?_
            refine g_bipush (v := 8) F dX1_addLoco_63 (by decide) ?_
            refine g_icmp_lt F 71 dX1_addLoco_65 (by decide) (fun c_65 => ?_) (fun c_65 => ?_)
            · have n_65 := nx_ltt (a := n) (b := 8) R.cnt rfl (by omega) (by omega) c_65
              refine g_aload_n F 0 dX1_addLoco_71 rfl rfl ?_
              refine gf_0_0 F hk mFL_X1_11 dX1_addLoco_72 ?_
              refine g_aload_n F 0 dX1_addLoco_75 rfl rfl ?_
              refine gf_0_3 F hk mFL_X1_29 dX1_addLoco_76 ?_
              refine ga_1 (j := n) F hk R.cnt (by omega) dX1_addLoco_79 ?_
              refine g_astore (L' := [(5, _), (0, _), (1, _), (2, _), (3, _), (4, _)]) F dX1_addLoco_80 (by decide) rfl ?_
              refine g_aload_n F 1 dX1_addLoco_82 rfl rfl ?_
              refine gf_0_3 F hk mFL_X1_29 dX1_addLoco_83 ?_
              refine g_topi (fun x6_86 ex6_86 => ?_)
              refine g_istore (L' := [(6, _), (5, _), (0, _), (1, _), (2, _), (3, _), (4, _)]) F dX1_addLoco_86 (by decide) rfl ?_
              refine g_sub [2, 3, 4, 5, 6, 1, 0] rfl ?_
              exact LOOP n ⟨P1, P2, P3, P4⟩ (by omega) (by omega) _ _ (ex6_86.trans R.cnt) (Nat.le_refl _) rfl (fun r hr => by rw [if_neg (by omega)]) (fun _ _ _ => rfl)
            · have n_65 := nx_ltf (a := n) (b := 8) R.cnt rfl (by omega) (by omega) c_65
              refine g_bipush (v := -4) F dX1_addLoco_68 (by decide) ?_
              refine g_iret F hr hlk rfl dX1_addLoco_70 ?_
              exact Or.inr (Or.inr (Or.inl ⟨⟨P1, P2, P3, P4⟩, by omega, by omega, rfl, rfl⟩))
          · have n_53 := nx_gef (a := (rkS σ a n)) (b := n) rfl R.cnt (by omega) (by omega) c_53
            refine g_bipush (v := -5) F dX1_addLoco_56 (by decide) ?_
            refine g_iret F hr hlk rfl dX1_addLoco_58 ?_
            exact Or.inr (Or.inl ⟨⟨P1, P2, P3, P4⟩, n_53, rfl, rfl⟩)
        · have N4 := bz_0.mp c_38
          refine g_bipush (v := -2) F dX1_addLoco_41 (by decide) ?_
          refine g_iret F hr hlk rfl dX1_addLoco_43 ?_
          refine Or.inl ⟨fun w => ?_, rfl, rfl⟩; first | exact N1 w.1 | exact N2 w.2.1 | exact N3 w.2.2.1 | exact N4 w.2.2.2
set_option maxHeartbeats 4000000 in
set_option maxRecDepth 100000 in
theorem c_X1_removeLoco {l : Launch} {G : Gm} (hj : Aj G) {I : Ii} {pm : Pm} {k : Nat} (hk : k < 11) {n h : Nat} {σ : Sg} (R : Rp n h I pm k σ) {a : Int32} : CI l G yX1_removeLoco (wz yX1_removeLoco cX1_removeLoco 5 (some .int)) (rmL 1) [.ref (G.2.2 0 k), .int a] I pm (fun r u => (¬ rkS σ a n < n ∧ r = -1 ∧ u = (I, pm)) ∨ (rkS σ a n < n ∧ r = nI (n - 1) ∧ Rp (n - 1) h u.1 u.2 k (lifS n (rkS σ a n) σ) ∧ Fr k I pm u.1 u.2)) := by
  refine CI.walk hj (by decide +kernel) (by show _ ≤ 5; exact Nat.le_of_ble_eq_true rfl) ?_
  intro p e s m args below meth c F hr hlk
  have hn8 := R.n8
  obtain ⟨pr, hpr⟩ : ∃ q, q = rkS σ a n := ⟨_, rfl⟩
  have hprl : pr ≤ n := by rw [hpr]; exact rk_le σ a n
  have LOOP : ∀ j, j ≤ n → pr < n → pr < j → ∀ (pm2 : Pm) (xr xj : Int32), xr = nI pr → xj = nI j → (∀ r, r < 8 → pm2 k r = if pr ≤ r ∧ r + 1 < j then pm k (r + 1) else pm k r) → (∀ k2 r, k2 ≠ k → pm2 k2 r = pm k2 r) → GG p l e (rmL 1) s m args below meth c G (AA G) 5 0 0 (MQ below (va_Qi (fun (r : Int32) (u : Ii × Pm) => (¬ rkS σ a n < n ∧ r = -1 ∧ u = (I, pm)) ∨ (rkS σ a n < n ∧ r = nI (n - 1) ∧ Rp (n - 1) h u.1 u.2 k (lifS n (rkS σ a n) σ) ∧ Fr k I pm u.1 u.2)) (fun (u : Ii × Pm) t => Wd G u.1 u.2 t.heap) (AA G)) args s 0 0 (AA G)) I pm2 [(0, .ref (G.2.2 0 k)), (1, .int a), (2, .int xr), (3, .ref (G.2.2 7 (8 * k + pm k pr))), (4, .int xj)] 28 [] := by
    refine dn_ind ?_
    intro j hjl ih hpn hpj pm2 xr xj er ej hv ho
    refine g_iload F 4 dX1_removeLoco_28 rfl ?_
    refine g_aload_n F 0 dX1_removeLoco_30 rfl rfl ?_
    refine gf_0_3 F hk mFL_X1_29 dX1_removeLoco_31 ?_
    refine g_icmp_ge F 59 dX1_removeLoco_34 (by decide) (fun c_34 => ?_) (fun c_34 => ?_)
    · have n_34 := nx_get (a := j) (b := n) ej R.cnt (by omega) (by omega) c_34
      refine g_aload_n F 0 dX1_removeLoco_59 rfl rfl ?_
      refine g_dup F dX1_removeLoco_60 rfl ?_
      refine gf_0_3 F hk mFL_X1_29 dX1_removeLoco_61 ?_
      refine g_iconst (v := 1) F dX1_removeLoco_64 (by decide) ?_
      refine g_isub F dX1_removeLoco_65 ?_
      refine gp_0_3 F hk mFL_X1_29 dX1_removeLoco_66 ?_
      have e74 : up3 I 0 k 3 (I 0 k 3 - 1) 0 k 3 = nI (n - 1) := by rw [up3_s]; exact nx_sub R.cnt (b := 1) rfl (by omega)
      refine g_aload_n F 0 dX1_removeLoco_69 rfl rfl ?_
      refine gf_0_0 F hk mFL_X1_11 dX1_removeLoco_70 ?_
      refine g_aload_n F 0 dX1_removeLoco_73 rfl rfl ?_
      refine gf_0_3 F hk mFL_X1_29 dX1_removeLoco_74 ?_
      refine g_aload_n F 3 dX1_removeLoco_77 rfl rfl ?_
      refine gs_1 (j := (n - 1)) F hk (R.p8 (by omega)) e74 (by omega) dX1_removeLoco_78 ?_
      refine g_aload_n F 0 dX1_removeLoco_79 rfl rfl ?_
      refine gf_0_3 F hk mFL_X1_29 dX1_removeLoco_80 ?_
      refine g_iret F hr hlk rfl dX1_removeLoco_83 ?_
      have hjn : j = n := by omega
      subst hjn
      refine Or.inr ⟨by omega, e74, ?_, ⟨fun K i q hq => ?_, fun k2 r hk2 => ?_⟩⟩
      · rw [← hpr]
        refine R.lift (by omega) (fun r hr => ?_) (fun K i q hq => up3_n (fun e => hq ⟨e.1, e.2.1, e.2.2⟩)) e74
        unfold pmL
        rw [if_pos rfl]
        show upP pm2 k (j - 1) (pm k pr) k r = _
        unfold upP
        by_cases c1 : r = j - 1
        · rw [if_pos ⟨rfl, c1⟩, if_neg (by omega), if_neg (by omega), if_pos (by omega)]
        · rw [if_neg (fun e => c1 e.2), hv r hr]
          by_cases c2 : r < pr
          · rw [if_neg (by omega), if_pos c2]
          · rw [if_neg c2]
            by_cases c3 : r + 1 < j
            · rw [if_pos (by omega), if_pos c3]
            · rw [if_neg (by omega), if_neg c3, if_neg (by omega)]
      · show up3 I 0 k 3 _ K i q = I K i q
        rw [up3_n (fun e => hq (Or.inl ⟨by omega, e.2.1⟩))]
      · show upP pm2 k (j - 1) (pm k pr) k2 r = _
        unfold upP
        rw [if_neg (fun e => hk2 e.1)]
        exact ho k2 r hk2
    · have n_34 := nx_gef (a := j) (b := n) ej R.cnt (by omega) (by omega) c_34
      refine g_aload_n F 0 dX1_removeLoco_37 rfl rfl ?_
      refine gf_0_0 F hk mFL_X1_11 dX1_removeLoco_38 ?_
      refine g_iload F 4 dX1_removeLoco_41 rfl ?_
      refine g_iconst (v := 1) F dX1_removeLoco_43 (by decide) ?_
      refine g_isub F dX1_removeLoco_44 ?_
      refine g_aload_n F 0 dX1_removeLoco_45 rfl rfl ?_
      refine gf_0_0 F hk mFL_X1_11 dX1_removeLoco_46 ?_
      refine g_iload F 4 dX1_removeLoco_49 rfl ?_
      refine ga_1 (j := j) F hk ej (by omega) dX1_removeLoco_51 ?_
      refine gs_1 (j := (j - 1)) F hk (show pm2 k j < 8 by rw [hv j (by omega), if_neg (by omega)]; exact R.p8 (by omega)) (nx_sub ej rfl (by omega)) (by omega) dX1_removeLoco_52 ?_
      refine g_iincC (q := 1) (L' := [(4, _), (0, _), (1, _), (2, _), (3, _)]) F 4 dX1_removeLoco_53 (by decide) rfl (by decide) rfl ?_
      refine g_goto F 28 dX1_removeLoco_56 (by decide) ?_
      refine g_sub [1, 2, 3, 4, 0] rfl ?_
      refine ih (by omega) hpn (by omega) _ _ _ er (nx_add ej rfl) (fun r hr => ?_) (fun k2 r hk2 => ?_)
      · unfold upP
        by_cases c1 : r = j - 1
        · rw [if_pos ⟨rfl, c1⟩, if_pos (by omega), hv j (by omega), if_neg (by omega), c1, show j - 1 + 1 = j by omega]
        · rw [if_neg (fun e => c1 e.2), hv r hr]
          by_cases c2 : pr ≤ r ∧ r + 1 < j
          · rw [if_pos c2, if_pos (by omega)]
          · rw [if_neg c2, if_neg (by omega)]
      · unfold upP
        rw [if_neg (fun e => hk2 e.1)]
        exact ho k2 r hk2
  refine g_aload_n F 0 dX1_removeLoco_0 rfl rfl ?_
  refine g_iload_n F 1 dX1_removeLoco_1 rfl rfl ?_
  refine g_callIv (na := 1) F 0 _ (c_X1_rankOf hj hk R) hk rfl rfl lk_X1_68 rfl rfl (by decide +kernel) ⟨rfl, rfl, Nat.le_of_ble_eq_true rfl, Nat.le_of_ble_eq_true rfl, Nat.le_of_ble_eq_true rfl, Nat.le_of_ble_eq_true rfl, Nat.le_of_ble_eq_true rfl⟩ dX1_removeLoco_2 (fun r_2 u_2 h_2 => ?_)
  obtain ⟨rfl, rfl⟩ := h_2
  try dsimp only
  refine g_topi (fun x2_5 ex2_5 => ?_)
  refine g_istore_n (L' := [(2, _), (0, _), (1, _)]) F dX1_removeLoco_5 rfl (by decide) rfl ?_
  refine g_iload_n F 0 dX1_removeLoco_6 rfl rfl ?_
  refine g_aload_n F 1 dX1_removeLoco_7 rfl rfl ?_
  refine gf_0_3 F hk mFL_X1_29 dX1_removeLoco_8 ?_
  refine g_icmp_lt F 16 dX1_removeLoco_11 (by decide) (fun c_11 => ?_) (fun c_11 => ?_)
  · have n_11 := nx_ltt (a := pr) (b := n) (ex2_5.trans (by rw [hpr])) R.cnt (by omega) (by omega) c_11
    refine g_aload_n F 1 dX1_removeLoco_16 rfl rfl ?_
    refine gf_0_0 F hk mFL_X1_11 dX1_removeLoco_17 ?_
    refine g_iload_n F 0 dX1_removeLoco_20 rfl rfl ?_
    refine ga_1 (j := pr) F hk (ex2_5.trans (by rw [hpr])) (by omega) dX1_removeLoco_21 ?_
    refine g_astore_n (L' := [(3, _), (2, _), (0, _), (1, _)]) F dX1_removeLoco_22 rfl (by decide) rfl ?_
    refine g_iload_n F 1 dX1_removeLoco_23 rfl rfl ?_
    refine g_iconst (v := 1) F dX1_removeLoco_24 (by decide) ?_
    refine g_iadd F dX1_removeLoco_25 ?_
    refine g_topi (fun x4_26 ex4_26 => ?_)
    refine g_istore (L' := [(4, _), (3, _), (2, _), (0, _), (1, _)]) F dX1_removeLoco_26 (by decide) rfl ?_
    refine g_sub [3, 4, 2, 1, 0] rfl ?_
    exact LOOP (pr + 1) (by omega) (by omega) (by omega) _ _ _ (ex2_5.trans (by rw [hpr])) (ex4_26.trans (nx_add (ex2_5.trans (by rw [hpr])) rfl)) (fun r hr => by rw [if_neg (by omega)]) (fun _ _ _ => rfl)
  · have n_11 := nx_ltf (a := pr) (b := n) (ex2_5.trans (by rw [hpr])) R.cnt (by omega) (by omega) c_11
    refine g_iconst (v := -1) F dX1_removeLoco_14 (by decide) ?_
    refine g_iret F hr hlk rfl dX1_removeLoco_15 ?_
    exact Or.inl ⟨by omega, rfl, rfl⟩
