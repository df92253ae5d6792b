/-! PART 16: numbers of a tick: the class's form and the reference's are one -/
theorem nx_xor (a b : Nat) : nI a ^^^ nI b = nI (a ^^^ b) := by
  apply Int32.toBitVec_inj.1
  show BitVec.ofNat 32 a ^^^ BitVec.ofNat 32 b = BitVec.ofNat 32 (a ^^^ b)
  apply BitVec.eq_of_getLsbD_eq
  intro i hi
  simp [hi]
theorem xor_sgn (x y : Int32) (hy : 0 ≤ y.toInt) : 0 ≤ x ^^^ y ↔ 0 ≤ x.toInt := by
  have h1 : (x ^^^ y).toBitVec.msb = (x.toBitVec.msb ^^ y.toBitVec.msb) := by
    show (x.toBitVec ^^^ y.toBitVec).msb = _
    exact BitVec.msb_xor
  have e : ∀ z : Int32, z.toBitVec.msb = decide (z.toInt < 0) := fun z => BitVec.msb_eq_toInt
  rw [e, e, e] at h1
  have hy2 : decide (y.toInt < 0) = false := decide_eq_false (by omega)
  rw [hy2, Bool.xor_false] at h1
  have h2 : (x ^^^ y).toInt < 0 ↔ x.toInt < 0 := by
    have := decide_eq_decide.mp h1
    exact this
  rw [i_le]
  show (0 : Int) ≤ _ ↔ _
  omega
theorem cvS_eq {c st : Int32} (h0 : 0 ≤ c.toInt) (h2 : c.toInt ≤ 2) : cvS c st = byC c st := by
  have e : c = nI c.toInt.toNat := nat_of h0
  obtain ⟨q, hq⟩ : ∃ q, q = c.toInt.toNat := ⟨_, rfl⟩
  rw [← hq] at e
  have : q = 0 ∨ q = 1 ∨ q = 2 := by omega
  unfold cvS byC
  rcases this with rfl | rfl | rfl
  · rw [e, if_neg (by decide), if_neg (by decide), if_pos (by decide)]
  · rw [e, if_pos (by decide), if_neg (by decide), if_pos (by decide)]
  · rw [e, if_neg (by decide), if_pos (by decide), if_neg (by decide), if_neg (by decide)]
theorem goal_eq {c st w : Int32} (h0 : 0 ≤ c.toInt) (h2 : c.toInt ≤ 2) : goalF c st w = dueC c st w := by
  unfold goalF dueC
  rw [cvS_eq h0 h2]
theorem by_bd {c st : Int32} (h0 : 0 ≤ c.toInt) (h2 : c.toInt ≤ 2) (s0 : 0 ≤ st.toInt) (s1 : st.toInt ≤ 28) : 0 ≤ (byC c st).toInt ∧ (byC c st).toInt ≤ 280 := by
  have e : c = nI c.toInt.toNat := nat_of h0
  have e2 : st = nI st.toInt.toNat := nat_of s0
  obtain ⟨q, hq⟩ : ∃ q, q = c.toInt.toNat := ⟨_, rfl⟩
  obtain ⟨t, ht⟩ : ∃ t, t = st.toInt.toNat := ⟨_, rfl⟩
  rw [← hq] at e
  rw [← ht] at e2
  have key : ∀ q, q < 3 → ∀ t, t < 29 → 0 ≤ (byC (nI q) (nI t)).toInt ∧ (byC (nI q) (nI t)).toInt ≤ 280 := by decide +kernel
  rw [e, e2]
  exact key q (by omega) t (by omega)
theorem due_bd {c st w : Int32} (h0 : 0 ≤ c.toInt) (h2 : c.toInt ≤ 2) (s0 : 0 ≤ st.toInt) (s1 : st.toInt ≤ 28) : -280 ≤ (dueC c st w).toInt ∧ (dueC c st w).toInt ≤ 280 := by
  have h := by_bd h0 h2 s0 s1
  unfold dueC
  split
  · omega
  · rw [Kit.i32_neg (by omega)]
    omega
theorem gain_bd {m : Int32} (h1 : 1 ≤ m.toInt) (h2 : m.toInt ≤ 20) : 3 ≤ (60 / m).toInt ∧ (60 / m).toInt ≤ 60 := by
  have e : m = nI m.toInt.toNat := nat_of (by omega)
  obtain ⟨q, hq⟩ : ∃ q, q = m.toInt.toNat := ⟨_, rfl⟩
  rw [← hq] at e
  have key : ∀ q, q < 21 → 1 ≤ q → 3 ≤ (60 / nI q).toInt ∧ (60 / nI q).toInt ≤ 60 := by decide +kernel
  rw [e]
  exact key q (by omega) (by omega)
theorem spd_eq {m c st w sp : Int32} (m1 : 1 ≤ m.toInt) (m2 : m.toInt ≤ 20) (c0 : 0 ≤ c.toInt) (c2 : c.toInt ≤ 2) (s0 : 0 ≤ st.toInt) (s1 : st.toInt ≤ 28) (p0 : -280 ≤ sp.toInt) (p1 : sp.toInt ≤ 280) : spdF m c st w sp = spdM m c st w sp ∧ -280 ≤ (spdM m c st w sp).toInt ∧ (spdM m c st w sp).toInt ≤ 280 := by
  have hd := due_bd (w := w) c0 c2 s0 s1
  have hg := gain_bd m1 m2
  have eg : gainF m = 60 / m := by
    unfold gainF
    rw [if_neg (fun q => by have := i_le.mp q; have e0 : (0 : Int32).toInt = 0 := rfl; omega)]
  unfold spdF spdM
  rw [eg, goal_eq c0 c2]
  obtain ⟨g, eg2⟩ : ∃ g, g = 60 / m := ⟨_, rfl⟩
  rw [← eg2] at hg ⊢
  obtain ⟨q, eq⟩ : ∃ q, q = dueC c st w - sp := ⟨_, rfl⟩
  have hq : q.toInt = (dueC c st w).toInt - sp.toInt := by rw [eq, Kit.i32_sub (by omega) (by omega)]
  rw [← eq]
  have hn : (-g).toInt = -g.toInt := Kit.i32_neg (by omega)
  have ha : (sp + g).toInt = sp.toInt + g.toInt := Kit.i32_add (by omega) (by omega)
  have hs : (sp - g).toInt = sp.toInt - g.toInt := Kit.i32_sub (by omega) (by omega)
  have ht : (sp + q).toInt = sp.toInt + q.toInt := Kit.i32_add (by omega) (by omega)
  have hs2 : (sp + -g).toInt = sp.toInt - g.toInt := by rw [Kit.i32_add (by omega) (by omega), hn]; omega
  by_cases c1 : g < q
  · have d1 := i_lt.mp c1
    have i1 : mnF g q = g := by unfold mnF; exact if_neg (fun z => by have := i_lt.mp z; omega)
    have i2 : mxF (-g) g = g := by unfold mxF; exact if_pos (i_lt.mpr (by omega))
    rw [i1, i2, if_pos c1]
    exact ⟨rfl, by omega, by omega⟩
  · have d1 : q.toInt ≤ g.toInt := by have := i_le.mp (Int32.not_lt.mp c1); exact this
    have i1 : mnF g q = q := by
      unfold mnF
      by_cases c3 : q < g
      · rw [if_pos c3]
      · rw [if_neg c3]
        have := i_le.mp (Int32.not_lt.mp c3)
        exact i_eq.mpr (by omega)
    rw [i1, if_neg c1]
    by_cases c2' : q < -g
    · have d2 := i_lt.mp c2'
      have i2 : mxF (-g) q = -g := by unfold mxF; exact if_neg (fun z => by have := i_lt.mp z; omega)
      rw [i2, if_pos c2']
      exact ⟨i_eq.mpr (by omega), by omega, by omega⟩
    · have d2 : (-g).toInt ≤ q.toInt := i_le.mp (Int32.not_lt.mp c2')
      have i2 : mxF (-g) q = q := by
        unfold mxF
        by_cases c4 : -g < q
        · rw [if_pos c4]
        · rw [if_neg c4]
          have := i_le.mp (Int32.not_lt.mp c4)
          exact i_eq.mpr (by omega)
      rw [i2, if_neg c2']
      exact ⟨rfl, by omega, by omega⟩
theorem div8000 {x : Int32} (h1 : -8000 < x.toInt) (h2 : x.toInt < 16000) : (x / 8000).toInt = if x.toInt < 8000 then 0 else 1 := by
  rw [Kit.i32_div (fun q => by have : (8000 : Int32).toInt = 8000 := rfl; omega)]
  show x.toInt.tdiv 8000 = _
  by_cases c0 : 0 ≤ x.toInt
  · rw [Int.tdiv_eq_ediv_of_nonneg c0]
    split <;> omega
  · rw [if_pos (by omega)]
    have e := Int.neg_tdiv (a := -x.toInt) (b := 8000)
    rw [Int.neg_neg] at e
    rw [e, Int.tdiv_eq_ediv_of_nonneg (by omega)]
    omega
theorem mod8000 {x : Int32} (h1 : -8000 < x.toInt) (h2 : x.toInt < 16000) : (x % 8000).toInt = if x.toInt < 8000 then x.toInt else x.toInt - 8000 := by
  rw [Kit.i32_rem]
  show x.toInt.tmod 8000 = _
  by_cases c0 : 0 ≤ x.toInt
  · rw [Int.tmod_eq_emod_of_nonneg c0]
    split <;> omega
  · rw [if_pos (by omega)]
    have e := Int.neg_tmod (a := -x.toInt) (b := 8000)
    rw [Int.neg_neg] at e
    rw [e, Int.tmod_eq_emod_of_nonneg (by omega)]
    omega
theorem fd_eq {x : Int32} (h1 : -8000 < x.toInt) (h2 : x.toInt < 16000) : fdF x 8000 = rndC x := by
  have hd := div8000 h1 h2
  have e0 : (0 : Int32).toInt = 0 := rfl
  have e8 : (8000 : Int32).toInt = 8000 := rfl
  unfold fdF rndC
  by_cases c0 : 0 ≤ x.toInt
  · rw [if_pos ((xor_sgn x 8000 (by decide)).mpr c0), if_neg (fun q => by have := i_lt.mp q; omega)]
    by_cases c1 : 8000 ≤ x
    · have := i_le.mp c1
      rw [if_pos c1]
      exact i_eq.mpr (by rw [hd, if_neg (by omega)]; rfl)
    · have := i_lt.mp (Int32.not_le.mp c1)
      rw [if_neg c1]
      exact i_eq.mpr (by rw [hd, if_pos (by omega)]; rfl)
  · have hz : x / 8000 = 0 := i_eq.mpr (by rw [hd, if_pos (by omega)]; rfl)
    rw [if_neg (fun q => c0 ((xor_sgn x 8000 (by decide)).mp q)), if_pos (i_lt.mpr (by omega)), hz]
    rw [if_neg (fun q => by rw [← q] at c0; exact c0 (by decide))]
    rfl
theorem fm_eq {x : Int32} (h1 : -8000 < x.toInt) (h2 : x.toInt < 16000) : fmF x 8000 = (x + 8000) % 8000 ∧ 0 ≤ (fmF x 8000).toInt ∧ (fmF x 8000).toInt < 8000 := by
  have hd := mod8000 h1 h2
  have e0 : (0 : Int32).toInt = 0 := rfl
  have e8 : (8000 : Int32).toInt = 8000 := rfl
  have ha : (x + 8000).toInt = x.toInt + 8000 := Kit.i32_add (by omega) (by omega)
  have hr : ((x + 8000) % 8000).toInt = (x.toInt + 8000) % 8000 := by rw [Kit.i32_rem_nonneg (by omega), ha]; rfl
  have key : (fmF x 8000).toInt = (x.toInt + 8000) % 8000 := by
    unfold fmF
    by_cases c0 : 0 ≤ x.toInt
    · rw [if_pos ((xor_sgn x 8000 (by decide)).mpr c0), hd]
      split <;> omega
    · have hz : ¬ x % 8000 = 0 := fun q => by rw [q] at hd; rw [if_pos (by omega)] at hd; omega
      rw [if_neg (fun q => c0 ((xor_sgn x 8000 (by decide)).mp q)), if_neg hz]
      rw [if_pos (by omega)] at hd
      rw [Kit.i32_add (by omega) (by omega), hd]
      omega
  exact ⟨i_eq.mpr (by rw [key, hr]), by omega, by omega⟩
/-- what a loco comes to be in a tick -/
theorem drv_at {n r f : Nat} {σ : Sg} (hr : r < n) (hf : f < 11) : drvS n σ (16 + 11 * r + f) = if f = 3 then (tenS σ r + 8000) % 8000 / 10 else if f = 4 then (tenS σ r + 8000) % 8000 % 10 else if f = 5 then spdS σ r else if f = 10 then σ (16 + 11 * r + f) + rndC (tenS σ r) else σ (16 + 11 * r + f) := by
  have q1 : (16 + 11 * r + f - 16) / 11 = r := by omega
  have q2 : (16 + 11 * r + f - 16) % 11 = f := by omega
  unfold drvS
  rw [if_pos (by omega), q1, q2]
theorem drv_out {n i : Nat} {σ : Sg} (h : i < 16 ∨ 16 + 11 * n ≤ i) : drvS n σ i = σ i := by
  unfold drvS
  rw [if_neg (by omega)]
theorem drv_succ {j : Nat} {σ : Sg} : drvS (j + 1) σ = upd (upd (upd (upd (drvS j σ) (16 + 11 * j + 5) (spdS σ j)) (16 + 11 * j + 10) (σ (16 + 11 * j + 10) + rndC (tenS σ j))) (16 + 11 * j + 3) ((tenS σ j + 8000) % 8000 / 10)) (16 + 11 * j + 4) ((tenS σ j + 8000) % 8000 % 10) := by
  funext i
  by_cases c0 : i < 16 + 11 * j
  · rw [upd_n (by omega), upd_n (by omega), upd_n (by omega), upd_n (by omega)]
    by_cases c1 : i < 16
    · rw [drv_out (Or.inl c1), drv_out (Or.inl c1)]
    · obtain ⟨r, f, hf, rfl⟩ : ∃ r f, f < 11 ∧ i = 16 + 11 * r + f := ⟨(i - 16) / 11, (i - 16) % 11, by omega, by omega⟩
      rw [drv_at (by omega) hf, drv_at (by omega) hf]
  · by_cases c1 : 16 + 11 * (j + 1) ≤ i
    · rw [upd_n (by omega), upd_n (by omega), upd_n (by omega), upd_n (by omega), drv_out (Or.inr c1), drv_out (Or.inr (by omega))]
    · obtain ⟨f, hf, rfl⟩ : ∃ f, f < 11 ∧ i = 16 + 11 * j + f := ⟨i - (16 + 11 * j), by omega, by omega⟩
      rw [drv_at (by omega) hf]
      by_cases f4 : f = 4
      · rw [f4, upd_s]
        simp
      · rw [upd_n (by omega), if_neg f4]
        by_cases f3 : f = 3
        · rw [f3, upd_s]
          simp
        · rw [upd_n (by omega), if_neg f3]
          by_cases f10 : f = 10
          · rw [f10, upd_s]
            simp
          · rw [upd_n (by omega), if_neg f10]
            by_cases f5 : f = 5
            · rw [f5, upd_s]
              simp
            · rw [upd_n (by omega), if_neg f5, drv_out (Or.inr (by omega))]
theorem spdS_bd {σ : Sg} {r : Nat} (h : LcOk σ r) : -280 ≤ (spdS σ r).toInt ∧ (spdS σ r).toInt ≤ 280 := by
  obtain ⟨l1, l2, l3, l4, l5, l6, l7⟩ := h
  unfold spdS
  split
  · exact ⟨by decide, by decide⟩
  · exact (spd_eq (w := σ (16 + 11 * r + 7)) l1.1 l1.2 l2.1 l2.2 l6.1 l6.2 l5.1 l5.2).2
theorem ten_bd {σ : Sg} {r : Nat} (h : LcOk σ r) : (tenS σ r).toInt = 10 * (σ (16 + 11 * r + 3)).toInt + (σ (16 + 11 * r + 4)).toInt + (spdS σ r).toInt ∧ -8000 < (tenS σ r).toInt ∧ (tenS σ r).toInt < 16000 := by
  have hs := spdS_bd h
  obtain ⟨l1, l2, l3, l4, l5, l6, l7⟩ := h
  have e10 : (10 : Int32).toInt = 10 := rfl
  have m1 : ((10 : Int32) * σ (16 + 11 * r + 3)).toInt = 10 * (σ (16 + 11 * r + 3)).toInt := by rw [Kit.i32_mul (by rw [e10]; omega) (by rw [e10]; omega), e10]
  have m2 : ((10 : Int32) * σ (16 + 11 * r + 3) + σ (16 + 11 * r + 4)).toInt = 10 * (σ (16 + 11 * r + 3)).toInt + (σ (16 + 11 * r + 4)).toInt := by rw [Kit.i32_add (by omega) (by omega), m1]
  have m3 : (tenS σ r).toInt = 10 * (σ (16 + 11 * r + 3)).toInt + (σ (16 + 11 * r + 4)).toInt + (spdS σ r).toInt := by
    unfold tenS
    rw [Kit.i32_add (by omega) (by omega), m2]
  exact ⟨m3, by omega, by omega⟩
theorem LcOk.drv {n r : Nat} {σ : Sg} (hr : r < n) (h : LcOk σ r) : LcOk (drvS n σ) r := by
  have hs := spdS_bd h
  have ht := ten_bd h
  have hm := fm_eq ht.2.1 ht.2.2
  obtain ⟨l1, l2, l3, l4, l5, l6, l7⟩ := h
  rw [hm.1] at hm
  have hm2 := hm.2
  obtain ⟨z, hz⟩ : ∃ z, z = (tenS σ r + 8000) % 8000 := ⟨_, rfl⟩
  rw [← hz] at hm2
  have e := nat_of hm2.1
  have d1 : z / 10 = nI (z.toInt.toNat / 10) := nx_div e (b := 10) rfl (by omega) (by decide) (by decide)
  have d2 : z % 10 = nI (z.toInt.toNat % 10) := nx_rem e (b := 10) rfl (by omega) (by decide) (by decide)
  unfold LcOk
  rw [drv_at hr (show 1 < 11 by decide), drv_at hr (show 2 < 11 by decide), drv_at hr (show 3 < 11 by decide), drv_at hr (show 4 < 11 by decide), drv_at hr (show 5 < 11 by decide), drv_at hr (show 6 < 11 by decide), drv_at hr (show 7 < 11 by decide), ← hz]
  simp +decide only [if_true, if_false]
  rw [d1, d2, nI_toInt (by omega), nI_toInt (by omega)]
  exact ⟨l1, l2, ⟨by omega, by omega⟩, ⟨by omega, by omega⟩, hs, l6, l7⟩
theorem Iv.drv {n h : Nat} {σ : Sg} (V : Iv n h σ) : Iv n h (drvS n σ) := by
  obtain ⟨v1, v2, v3, v4, v5, v6, v7, v8⟩ := V
  refine ⟨by rw [drv_out (by omega)]; exact v1, v2, by rw [drv_out (by omega)]; exact v3, v4, fun r hr => (v5 r hr).drv hr, fun b hb => by rw [drv_out (by omega)]; exact v6 b hb, by rw [drv_out (by omega)]; exact v7, fun j hj => ?_⟩
  rw [drv_out (by omega), drv_out (by omega)]
  exact v8 j hj
theorem sho_out {i : Nat} {σ : Sg} (h : i < 8 ∨ 16 ≤ i) : shoS σ i = σ i := by
  unfold shoS
  rw [if_neg (by omega)]
theorem sho_bd {σ : Sg} {b : Nat} (hb : b < 8) (h : 0 ≤ (σ (8 + b)).toInt ∧ (σ (8 + b)).toInt ≤ 99) : shoS σ (8 + b) = mxF 0 (σ (8 + b) - 1) ∧ 0 ≤ (shoS σ (8 + b)).toInt ∧ (shoS σ (8 + b)).toInt ≤ 99 := by
  have e0 : (0 : Int32).toInt = 0 := rfl
  have e1 : (1 : Int32).toInt = 1 := rfl
  have hs : (σ (8 + b) - 1).toInt = (σ (8 + b)).toInt - 1 := Kit.i32_sub (by omega) (by omega)
  have h0 : (σ (8 + b) - 0).toInt = (σ (8 + b)).toInt := by rw [Kit.i32_sub (by omega) (by omega)]; omega
  unfold shoS mxF
  rw [if_pos (by omega)]
  by_cases c0 : 0 < σ (8 + b)
  · have := i_lt.mp c0
    rw [if_pos c0]
    refine ⟨?_, by omega, by omega⟩
    by_cases c1 : 0 < σ (8 + b) - 1
    · rw [if_pos c1]
    · rw [if_neg c1]
      have d := i_le.mp (Int32.not_lt.mp c1)
      exact i_eq.mpr (by omega)
  · have d := i_le.mp (Int32.not_lt.mp c0)
    rw [if_neg c0]
    refine ⟨?_, by omega, by omega⟩
    rw [if_neg (fun q => by have := i_lt.mp q; omega)]
    exact i_eq.mpr (by omega)
theorem Iv.sho {n h : Nat} {σ : Sg} (V : Iv n h σ) : Iv n h (shoS σ) := by
  obtain ⟨v1, v2, v3, v4, v5, v6, v7, v8⟩ := V
  refine ⟨by rw [sho_out (by omega)]; exact v1, v2, by rw [sho_out (by omega)]; exact v3, v4, fun r hr => (v5 r hr).cong (fun f hf => sho_out (by omega)), fun b hb => (sho_bd hb (v6 b hb)).2, by rw [sho_out (by omega)]; exact v7, fun j hj => ?_⟩
  rw [sho_out (by omega), sho_out (by omega)]
  exact v8 j hj
theorem Iv.drop {n h : Nat} {σ : Sg} (V : Iv n h σ) (h1 : 1 ≤ h) : Iv n (h - 1) (dropS h σ) := by
  obtain ⟨v1, v2, v3, v4, v5, v6, v7, v8⟩ := V
  have lo : ∀ i, i < 104 → i ≠ 7 → dropS h σ i = σ i := fun i hi h7 => by unfold dropS; rw [if_neg h7, if_neg (by omega), if_neg (by omega)]
  have hi : ∀ j w, j + 1 < h → w < 3 → dropS h σ (104 + 3 * j + w) = σ (104 + 3 * (j + 1) + w) := by
    intro j w hj hw
    unfold dropS
    rw [if_neg (by omega), if_pos (by omega)]
    congr 1
    omega
  refine ⟨by rw [lo 6 (by decide) (by decide)]; exact v1, v2, by unfold dropS; rw [if_pos rfl], by omega, fun r hr => (v5 r hr).cong (fun f hf => lo _ (by omega) (by omega)), fun b hb => by rw [lo _ (by omega) (by omega)]; exact v6 b hb, by rw [lo _ (by decide) (by decide)]; exact v7, fun j hj => ?_⟩
  have a0 := hi j 0 (by omega) (by decide)
  have a1 := hi j 1 (by omega) (by decide)
  rw [show 104 + 3 * j + 1 = 105 + 3 * j by omega, show 104 + 3 * (j + 1) + 1 = 105 + 3 * (j + 1) by omega] at a1
  rw [Nat.add_zero, Nat.add_zero] at a0
  rw [a0, a1]
  exact v8 (j + 1) (by omega)
theorem chk_bd {σ : Sg} (h0 : 0 ≤ (σ 104).toInt ∧ (σ 104).toInt ≤ 99) (h1 : 0 ≤ (σ 105).toInt ∧ (σ 105).toInt ≤ 255) : 0 ≤ (chkS σ).toInt ∧ (chkS σ).toInt ≤ 255 := by
  have e0 := nat_of h0.1
  have e1 := nat_of h1.1
  have hx : (σ 104).toInt.toNat ^^^ (σ 105).toInt.toNat < 2 ^ 8 := Nat.xor_lt_two_pow (by omega) (by omega)
  have ex : σ 104 ^^^ σ 105 = nI ((σ 104).toInt.toNat ^^^ (σ 105).toInt.toNat) := by rw [← nx_xor, ← e0, ← e1]
  unfold chkS
  split
  · have e2 : ((σ 104 ^^^ σ 105) + 1) % 256 = nI ((((σ 104).toInt.toNat ^^^ (σ 105).toInt.toNat) + 1) % 256) := nx_rem (nx_add ex (b := 1) rfl) (b := 256) rfl (by omega) (by decide) (by decide)
    rw [e2, nI_toInt (by omega)]
    omega
  · rw [ex, nI_toInt (by omega)]
    omega
theorem Iv.spoil {n h : Nat} {σ : Sg} (V : Iv n h σ) (h1 : 1 ≤ h) : Iv n (h - 1) (spoilS σ h) := by
  have V1 := V.drop h1
  unfold spoilS
  split
  · exact V1.num (fun i hi => by rw [upd_n (by omega), upd_n (by omega)]) (by rw [upd_n (by omega), upd_n (by omega)])
  · exact V1
theorem Iv.send {n h : Nat} {σ : Sg} (V : Iv n h σ) : Iv n (h - 1) (sendS n h σ).1 := by
  unfold sendS
  split
  · rename_i e
    subst e
    exact V
  · rename_i e
    have V1 := V.spoil (by omega)
    have b := V.2.2.2.2.2.2.2 0 (by omega)
    exact V1.com b.2
theorem Iv.tick {n h : Nat} {σ : Sg} (V : Iv n h σ) : Iv n (h - 1) (tickS n h σ) := by
  have V1 := V.send.drv.sho
  unfold tickS bothS
  exact V1.num (fun i hi => by rw [upd_n (by omega), upd_n (by omega)]) (by rw [upd_n (by omega), upd_n (by omega)])
theorem Iv.it {n h : Nat} {σ : Sg} (V : Iv n h σ) : ∀ m, Iv n (h - m) (itS n h σ m).1 := by
  intro m
  induction m with
  | zero => exact V
  | succ m ih =>
    have := ih.tick
    rw [Nat.sub_sub] at this
    exact this
theorem age1 (t s : Int32) : t + 1 - s = t - s + 1 := by
  rw [Int32.sub_eq_add_neg, Int32.sub_eq_add_neg, Int32.add_assoc, Int32.add_comm 1, ← Int32.add_assoc]
def shoJ (j : Nat) (σ : Sg) : Sg := fun i => if 8 ≤ i ∧ i < 8 + j then σ i - (if 0 < σ i then 1 else 0) else σ i
theorem shoJ_0 {σ : Sg} : shoJ 0 σ = σ := by
  funext i
  unfold shoJ
  rw [if_neg (by omega)]
theorem shoJ_8 {σ : Sg} : shoJ 8 σ = shoS σ := rfl
theorem shoJ_at {j : Nat} {σ : Sg} : shoJ j σ (8 + j) = σ (8 + j) := by
  unfold shoJ
  rw [if_neg (by omega)]
theorem shoJ_succ {j : Nat} {σ : Sg} (hj : j < 8) : shoJ (j + 1) σ = upd (shoJ j σ) (8 + j) (shoS σ (8 + j)) := by
  funext i
  by_cases e : i = 8 + j
  · rw [e, upd_s]
    rw [show shoJ (j + 1) σ (8 + j) = σ (8 + j) - (if 0 < σ (8 + j) then 1 else 0) from if_pos (by omega), show shoS σ (8 + j) = σ (8 + j) - (if 0 < σ (8 + j) then 1 else 0) from if_pos (by omega)]
  · rw [upd_n e]
    unfold shoJ
    by_cases c : 8 ≤ i ∧ i < 8 + j
    · rw [if_pos (by omega), if_pos c]
    · rw [if_neg (by omega), if_neg c]
