/-! PART 19: what each change answers and does, of the row s alone -/
def nof (σ : Sg) : Nat := (σ 6).toInt.toNat
def hof (σ : Sg) : Nat := (σ 7).toInt.toNat
theorem Iv.nofe {n h : Nat} {σ : Sg} (V : Iv n h σ) : nof σ = n := by
  unfold nof
  rw [V.1, nI_toInt (by have := V.2.1; omega)]
  rfl
theorem Iv.hofe {n h : Nat} {σ : Sg} (V : Iv n h σ) : hof σ = h := by
  unfold hof
  rw [V.2.2.1, nI_toInt (by have := V.2.2.2.1; omega)]
  rfl
def okL (a b c d : Int32) : Prop := (1 ≤ a ∧ a ≤ 99) ∧ (1 ≤ b ∧ b ≤ 20) ∧ (0 ≤ c ∧ c ≤ 2) ∧ (0 ≤ d ∧ d ≤ 799)
def okO (a d t : Int32) : Prop := (0 ≤ a ∧ a ≤ 99) ∧ (0 ≤ d ∧ d ≤ 255) ∧ (0 ≤ t ∧ t ≤ 3)
def okF (a d c : Int32) : Prop := (0 ≤ a ∧ a ≤ 255) ∧ (0 ≤ d ∧ d ≤ 255) ∧ (0 ≤ c ∧ c ≤ 255)
/-- an answer, and the state behind it: below 0 nothing changes -/
def locoR (a b c d : Int32) (σ : Sg) (q : Int32 × Sg) : Prop := (¬ okL a b c d ∧ q = (-2, σ)) ∨ (okL a b c d ∧ rkS σ a (nof σ) < nof σ ∧ q = (-5, σ)) ∨ (okL a b c d ∧ ¬ rkS σ a (nof σ) < nof σ ∧ nof σ = 8 ∧ q = (-4, σ)) ∨ (okL a b c d ∧ ¬ rkS σ a (nof σ) < nof σ ∧ nof σ < 8 ∧ q = (nI (nof σ + 1), addS (nof σ) a b c d σ))
def liftR (a : Int32) (σ : Sg) (q : Int32 × Sg) : Prop := (¬ rkS σ a (nof σ) < nof σ ∧ q = (-1, σ)) ∨ (rkS σ a (nof σ) < nof σ ∧ q = (nI (nof σ - 1), lifS (nof σ) (rkS σ a (nof σ)) σ))
def noiseR (x : Int32) (σ : Sg) (q : Int32 × Sg) : Prop := (¬ (0 ≤ x ∧ x ≤ 9) ∧ q = (-2, σ)) ∨ ((0 ≤ x ∧ x ≤ 9) ∧ q = (σ 1, upd σ 1 x))
def ordR (a d t : Int32) (σ : Sg) (q : Int32 × Sg) : Prop := (¬ okO a d t ∧ q = (-2, σ)) ∨ (okO a d t ∧ hof σ = 20 ∧ q = (-4, σ)) ∨ (okO a d t ∧ hof σ < 20 ∧ q = (nI (hof σ + 1), ordS (hof σ) a d t σ))
def frmR (a d c : Int32) (σ : Sg) (q : Int32 × Sg) : Prop := (¬ okF a d c ∧ q = (-2, σ)) ∨ (okF a d c ∧ q = ((comS (nof σ) a d c σ).2, (comS (nof σ) a d c σ).1))
def shoR (b t : Int32) (σ : Sg) (q : Int32 × Sg) : Prop := (¬ (0 ≤ b ∧ b ≤ 7) ∧ q = (-1, σ)) ∨ ((0 ≤ b ∧ b ≤ 7) ∧ ¬ (0 ≤ t ∧ t ≤ 99) ∧ q = (-2, σ)) ∨ ((0 ≤ b ∧ b ≤ 7) ∧ (0 ≤ t ∧ t ≤ 99) ∧ q = (σ (8 + b.toInt.toNat), upd σ (8 + b.toInt.toNat) t))
def pasR (x : Int32) (σ : Sg) (q : Int32 × Sg) : Prop := (¬ (1 ≤ x ∧ x ≤ 99) ∧ q = (-2, σ)) ∨ ((1 ≤ x ∧ x ≤ 99) ∧ 99999 < σ 0 + x ∧ q = (-5, σ)) ∨ ((1 ≤ x ∧ x ≤ 99) ∧ ¬ 99999 < σ 0 + x ∧ q = ((itS (nof σ) (hof σ) σ x.toInt.toNat).2, (itS (nof σ) (hof σ) σ x.toInt.toNat).1))
theorem Iv.add {n h : Nat} {σ : Sg} {a b c d : Int32} (V : Iv n h σ) (hn : n < 8) (hb : okL a b c d) : Iv (n + 1) h (addS n a b c d σ) := by
  obtain ⟨v1, v2, v3, v4, v5, v6, v7, v8⟩ := V
  have hp := lposS_le σ a n
  have lo : ∀ i, (i < 16 ∨ 104 ≤ i) → i ≠ 6 → addS n a b c d σ i = σ i := fun i hi h6 => by unfold addS; rw [if_neg h6, if_neg (by omega)]
  have at' : ∀ r f, r < n + 1 → f < 11 → addS n a b c d σ (16 + 11 * r + f) = if r < lposS σ a n then σ (16 + 11 * r + f) else if r = lposS σ a n then newF a b c d f else σ (16 + 11 * (r - 1) + f) := by
    intro r f hr hf
    unfold addS
    rw [if_neg (by omega), if_pos (by omega), show (16 + 11 * r + f - 16) / 11 = r by omega, show (16 + 11 * r + f - 16) % 11 = f by omega]
    by_cases c1 : r < lposS σ a n
    · rw [if_pos c1, if_pos c1]
    · rw [if_neg c1, if_neg c1]
      by_cases c2 : r = lposS σ a n
      · rw [if_pos c2, if_pos c2]
      · rw [if_neg c2, if_neg c2]
        congr 1
        omega
  refine ⟨by unfold addS; rw [if_pos rfl], by omega, by rw [lo 7 (by decide) (by decide)]; exact v3, v4, fun r hr => ?_, fun b' hb' => by rw [lo _ (by omega) (by omega)]; exact v6 b' hb', by rw [lo _ (by decide) (by decide)]; exact v7, fun j hj => by rw [lo _ (by omega) (by omega), lo _ (by omega) (by omega)]; exact v8 j hj⟩
  unfold LcOk
  rw [at' r 1 hr (by decide), at' r 2 hr (by decide), at' r 3 hr (by decide), at' r 4 hr (by decide), at' r 5 hr (by decide), at' r 6 hr (by decide), at' r 7 hr (by decide)]
  by_cases c1 : r < lposS σ a n
  · simp only [if_pos c1]
    exact v5 r (by omega)
  · simp only [if_neg c1]
    by_cases c2 : r = lposS σ a n
    · simp only [if_pos c2]
      obtain ⟨h1, h2, h3, h4⟩ := hb
      refine ⟨⟨i_le.mp h2.1, i_le.mp h2.2⟩, ⟨i_le.mp h3.1, i_le.mp h3.2⟩, ⟨i_le.mp h4.1, ?_⟩, ⟨(show (0 : Int) ≤ (0 : Int32).toInt by decide), (show (0 : Int32).toInt ≤ 9 by decide)⟩, ⟨(show (-280 : Int) ≤ (0 : Int32).toInt by decide), (show (0 : Int32).toInt ≤ 280 by decide)⟩, ⟨(show (0 : Int) ≤ (0 : Int32).toInt by decide), (show (0 : Int32).toInt ≤ 28 by decide)⟩, (show (0 : Int) ≤ (1 : Int32).toInt by decide), (show (1 : Int32).toInt ≤ 1 by decide)⟩
      have q6 := i_le.mp h4.2
      have e799 : (799 : Int32).toInt = 799 := rfl
      show d.toInt < 800
      omega
    · simp only [if_neg c2]
      exact v5 (r - 1) (by omega)
theorem Iv.lift {n h p : Nat} {σ : Sg} (V : Iv n h σ) (hp : p < n) : Iv (n - 1) h (lifS n p σ) := by
  obtain ⟨v1, v2, v3, v4, v5, v6, v7, v8⟩ := V
  have lo : ∀ i, (i < 16 ∨ 104 ≤ i) → i ≠ 6 → lifS n p σ i = σ i := fun i hi h6 => by unfold lifS; rw [if_neg h6, if_neg (by omega), if_neg (by omega)]
  refine ⟨by unfold lifS; rw [if_pos rfl], by omega, by rw [lo 7 (by decide) (by decide)]; exact v3, v4, fun r hr => ?_, fun b' hb' => by rw [lo _ (by omega) (by omega)]; exact v6 b' hb', by rw [lo _ (by decide) (by decide)]; exact v7, fun j hj => by rw [lo _ (by omega) (by omega), lo _ (by omega) (by omega)]; exact v8 j hj⟩
  by_cases c1 : r < p
  · exact (v5 r (by omega)).cong (fun f hf => by unfold lifS; rw [if_neg (by omega), if_neg (by omega), if_neg (by omega)])
  · have key : ∀ f, f < 11 → lifS n p σ (16 + 11 * r + f) = σ (16 + 11 * (r + 1) + f) := fun f hf => by
      unfold lifS
      rw [if_neg (by omega), if_pos (by omega)]
      congr 1
      omega
    have L := v5 (r + 1) (by omega)
    unfold LcOk at L ⊢
    rw [key 1 (by decide), key 2 (by decide), key 3 (by decide), key 4 (by decide), key 5 (by decide), key 6 (by decide), key 7 (by decide)]
    exact L
theorem Iv.ord {n h : Nat} {σ : Sg} {a d t : Int32} (V : Iv n h σ) (hh : h < 20) (hb : okO a d t) : Iv n (h + 1) (ordS h a d t σ) := by
  obtain ⟨v1, v2, v3, v4, v5, v6, v7, v8⟩ := V
  have hp := iposS_le σ t h
  have lo : ∀ i, i < 104 → i ≠ 7 → ordS h a d t σ i = σ i := fun i hi h7 => by unfold ordS; rw [if_neg h7, if_neg (by omega)]
  refine ⟨by rw [lo 6 (by decide) (by decide)]; exact v1, v2, by unfold ordS; rw [if_pos rfl], by omega, fun r hr => (v5 r hr).cong (fun f hf => lo _ (by omega) (by omega)), fun b hb => by rw [lo _ (by omega) (by omega)]; exact v6 b hb, by rw [lo _ (by decide) (by decide)]; exact v7, fun j hj => ?_⟩
  have o0 := ord_at (a := a) (d := d) (t := t) (σ := σ) hj (show 0 < 3 by decide)
  have o1 := ord_at (a := a) (d := d) (t := t) (σ := σ) hj (show 1 < 3 by decide)
  rw [show 104 + 3 * j + 1 = 105 + 3 * j by omega] at o1
  rw [Nat.add_zero] at o0
  rw [o0, o1]
  obtain ⟨h1, h2, h3⟩ := hb
  by_cases c1 : j < iposS σ t h
  · simp only [if_pos c1]
    exact v8 j (by omega)
  · simp only [if_neg c1]
    by_cases c2 : j = iposS σ t h
    · simp only [if_pos c2]
      exact ⟨⟨i_le.mp h1.1, i_le.mp h1.2⟩, i_le.mp h2.1, i_le.mp h2.2⟩
    · simp only [if_neg c2]
      have := v8 (j - 1) (by omega)
      rw [show 104 + 3 * j - 3 = 104 + 3 * (j - 1) by omega, show 105 + 3 * j - 3 = 105 + 3 * (j - 1) by omega]
      exact this
theorem Iv.noise {n h : Nat} {σ : Sg} {x : Int32} (V : Iv n h σ) (hx : 0 ≤ x ∧ x ≤ 9) : Iv n h (upd σ 1 x) := by
  obtain ⟨v1, v2, v3, v4, v5, v6, v7, v8⟩ := V
  refine ⟨by rw [upd_n (by decide)]; exact v1, v2, by rw [upd_n (by decide)]; exact v3, v4, fun r hr => (v5 r hr).cong (fun f hf => upd_n (by omega)), fun b hb => by rw [upd_n (by omega)]; exact v6 b hb, by rw [upd_s]; exact ⟨i_le.mp hx.1, i_le.mp hx.2⟩, fun j hj => by rw [upd_n (by omega), upd_n (by omega)]; exact v8 j hj⟩
theorem Iv.short {n h b : Nat} {σ : Sg} {x : Int32} (V : Iv n h σ) (hb : b < 8) (hx : 0 ≤ x ∧ x ≤ 99) : Iv n h (upd σ (8 + b) x) := by
  obtain ⟨v1, v2, v3, v4, v5, v6, v7, v8⟩ := V
  refine ⟨by rw [upd_n (by omega)]; exact v1, v2, by rw [upd_n (by omega)]; exact v3, v4, fun r hr => (v5 r hr).cong (fun f hf => upd_n (by omega)), fun b' hb' => ?_, by rw [upd_n (by omega)]; exact v7, fun j hj => by rw [upd_n (by omega), upd_n (by omega)]; exact v8 j hj⟩
  by_cases e : b' = b
  · rw [e, upd_s]
    exact ⟨i_le.mp hx.1, i_le.mp hx.2⟩
  · rw [upd_n (by omega)]
    exact v6 b' hb'
theorem cml_cnt {a d : Int32} {σ : Sg} : ∀ j, ∃ m, m ≤ j ∧ (cmL a d j (σ, 0)).2 = nI m := by
  intro j
  induction j with
  | zero => exact ⟨0, Nat.le_refl _, rfl⟩
  | succ j ih =>
    obtain ⟨m, hm, e⟩ := ih
    show ∃ m, m ≤ j + 1 ∧ (cmStep a d j (cmL a d j (σ, 0))).2 = nI m
    unfold cmStep
    split
    · exact ⟨m + 1, by omega, by show _ + 1 = _; rw [e]; exact nI_1 m⟩
    · exact ⟨m, by omega, e⟩
theorem com_cnt (n : Nat) (a d c : Int32) (σ : Sg) : ∃ m, m ≤ n ∧ (comS n a d c σ).2 = nI m := by
  unfold comS
  split
  · exact cml_cnt n
  · exact ⟨0, Nat.zero_le _, rfl⟩
theorem send_cnt (n h : Nat) (σ : Sg) : ∃ m, m ≤ 1 ∧ (sendS n h σ).2 = nI m := by
  unfold sendS
  split
  · exact ⟨0, by decide, rfl⟩
  · exact ⟨1, by decide, rfl⟩
theorem it_cnt (n h : Nat) (σ : Sg) : ∀ j, ∃ m, m ≤ j ∧ (itS n h σ j).2 = nI m := by
  intro j
  induction j with
  | zero => exact ⟨0, Nat.le_refl _, rfl⟩
  | succ j ih =>
    obtain ⟨m, hm, e⟩ := ih
    obtain ⟨m2, hm2, e2⟩ := send_cnt n (h - j) (itS n h σ j).1
    exact ⟨m + m2, by omega, by show _ + _ = _; rw [e, e2]; exact nI_add m m2⟩
theorem nneg {m : Nat} (h : m < 2 ^ 31) : ¬ nI m < 0 := nI_pos h
theorem nneg_i {x : Int32} (h : 0 ≤ x.toInt) : ¬ x < 0 := Int32.not_lt.mpr (i_le.mpr h)
/-- an answer below 0: nothing; else the bounds stay -/
theorem locoR.ok {a b c d : Int32} {σ : Sg} {q : Int32 × Sg} {n h : Nat} (V : Iv n h σ) (H : locoR a b c d σ q) : (q.1 < 0 ∧ q.2 = σ) ∨ (¬ q.1 < 0 ∧ Iv (nof q.2) (hof q.2) q.2) := by
  have hn := V.nofe
  rcases H with ⟨-, rfl⟩ | ⟨-, -, rfl⟩ | ⟨-, -, -, rfl⟩ | ⟨hb, -, h8, rfl⟩
  · exact Or.inl ⟨(show (-2 : Int32) < 0 by decide), rfl⟩
  · exact Or.inl ⟨(show (-5 : Int32) < 0 by decide), rfl⟩
  · exact Or.inl ⟨(show (-4 : Int32) < 0 by decide), rfl⟩
  · have V2 := V.add (by omega) hb
    rw [← hn] at V2
    exact Or.inr ⟨nneg (by omega), by show Iv (nof _) (hof _) _; rw [V2.nofe, V2.hofe]; exact V2⟩
theorem liftR.ok {a : Int32} {σ : Sg} {q : Int32 × Sg} {n h : Nat} (V : Iv n h σ) (H : liftR a σ q) : (q.1 < 0 ∧ q.2 = σ) ∨ (¬ q.1 < 0 ∧ Iv (nof q.2) (hof q.2) q.2) := by
  have hn := V.nofe
  have h8 := V.2.1
  rcases H with ⟨-, rfl⟩ | ⟨hb, rfl⟩
  · exact Or.inl ⟨(show (-1 : Int32) < 0 by decide), rfl⟩
  · have V2 := V.lift (p := rkS σ a (nof σ)) (by omega)
    rw [← hn] at V2
    exact Or.inr ⟨nneg (by omega), by show Iv (nof _) (hof _) _; rw [V2.nofe, V2.hofe]; exact V2⟩
theorem noiseR.ok {x : Int32} {σ : Sg} {q : Int32 × Sg} {n h : Nat} (V : Iv n h σ) (H : noiseR x σ q) : (q.1 < 0 ∧ q.2 = σ) ∨ (¬ q.1 < 0 ∧ Iv (nof q.2) (hof q.2) q.2) := by
  rcases H with ⟨-, rfl⟩ | ⟨hb, rfl⟩
  · exact Or.inl ⟨(show (-2 : Int32) < 0 by decide), rfl⟩
  · have V2 := V.noise hb
    exact Or.inr ⟨nneg_i V.2.2.2.2.2.2.1.1, by show Iv (nof _) (hof _) _; rw [V2.nofe, V2.hofe]; exact V2⟩
theorem ordR.ok {a d t : Int32} {σ : Sg} {q : Int32 × Sg} {n h : Nat} (V : Iv n h σ) (H : ordR a d t σ q) : (q.1 < 0 ∧ q.2 = σ) ∨ (¬ q.1 < 0 ∧ Iv (nof q.2) (hof q.2) q.2) := by
  have hh := V.hofe
  rcases H with ⟨-, rfl⟩ | ⟨-, -, rfl⟩ | ⟨hb, h8, rfl⟩
  · exact Or.inl ⟨(show (-2 : Int32) < 0 by decide), rfl⟩
  · exact Or.inl ⟨(show (-4 : Int32) < 0 by decide), rfl⟩
  · have V2 := V.ord (by omega) hb
    rw [← hh] at V2
    exact Or.inr ⟨nneg (by omega), by show Iv (nof _) (hof _) _; rw [V2.nofe, V2.hofe]; exact V2⟩
theorem frmR.ok {a d c : Int32} {σ : Sg} {q : Int32 × Sg} {n h : Nat} (V : Iv n h σ) (H : frmR a d c σ q) : (q.1 < 0 ∧ q.2 = σ) ∨ (¬ q.1 < 0 ∧ Iv (nof q.2) (hof q.2) q.2) := by
  have hn := V.nofe
  have h8 := V.2.1
  rcases H with ⟨-, rfl⟩ | ⟨hb, rfl⟩
  · exact Or.inl ⟨(show (-2 : Int32) < 0 by decide), rfl⟩
  · have V2 := V.com (a := a) (c := c) (d := d) ⟨i_le.mp hb.2.1.1, i_le.mp hb.2.1.2⟩
    obtain ⟨m, hm, e⟩ := com_cnt (nof σ) a d c σ
    rw [← hn] at V2
    exact Or.inr ⟨by show ¬ (comS _ _ _ _ _).2 < 0; rw [e]; exact nneg (by omega), by show Iv (nof _) (hof _) _; rw [V2.nofe, V2.hofe]; exact V2⟩
theorem shoR.ok {b t : Int32} {σ : Sg} {q : Int32 × Sg} {n h : Nat} (V : Iv n h σ) (H : shoR b t σ q) : (q.1 < 0 ∧ q.2 = σ) ∨ (¬ q.1 < 0 ∧ Iv (nof q.2) (hof q.2) q.2) := by
  rcases H with ⟨-, rfl⟩ | ⟨-, -, rfl⟩ | ⟨hb, ht, rfl⟩
  · exact Or.inl ⟨(show (-1 : Int32) < 0 by decide), rfl⟩
  · exact Or.inl ⟨(show (-2 : Int32) < 0 by decide), rfl⟩
  · have hr := rng (M := 7) (m := 7) rfl hb.1 hb.2
    have V2 := V.short (b := b.toInt.toNat) (by omega) ht
    exact Or.inr ⟨nneg_i (V.2.2.2.2.2.1 b.toInt.toNat (by omega)).1, by show Iv (nof _) (hof _) _; rw [V2.nofe, V2.hofe]; exact V2⟩
theorem pasR.ok {x : Int32} {σ : Sg} {q : Int32 × Sg} {n h : Nat} (V : Iv n h σ) (H : pasR x σ q) : (q.1 < 0 ∧ q.2 = σ) ∨ (¬ q.1 < 0 ∧ Iv (nof q.2) (hof q.2) q.2) := by
  have hn := V.nofe
  have hh := V.hofe
  rcases H with ⟨-, rfl⟩ | ⟨-, -, rfl⟩ | ⟨hb, ht, rfl⟩
  · exact Or.inl ⟨(show (-2 : Int32) < 0 by decide), rfl⟩
  · exact Or.inl ⟨(show (-5 : Int32) < 0 by decide), rfl⟩
  · have hr := rng (x := x) (M := 99) (m := 99) rfl (Int32.le_trans (by decide) hb.1) hb.2
    have V2 := V.it x.toInt.toNat
    obtain ⟨m, hm, e⟩ := it_cnt (nof σ) (hof σ) σ x.toInt.toNat
    rw [← hn, ← hh] at V2
    exact Or.inr ⟨by show ¬ (itS _ _ _ _).2 < 0; rw [e]; exact nneg (by omega), by show Iv (nof _) (hof _) _; rw [V2.nofe, V2.hofe]; exact V2⟩
