/-! PART 72: what the law looks at, of the row s alone -/
def Jv (k : Nat) (σ : Sg) : Prop := Jw (nof σ) (hof σ) k σ
theorem Jw.v {n h k : Nat} {σ : Sg} (J : Jw n h k σ) : Jv k σ := by
  unfold Jv
  rw [J.1.nofe, J.1.hofe]
  exact J
theorem Jv.up {k k' : Nat} {σ : Sg} (J : Jv k σ) (h : k ≤ k') : Jv k' σ := Jw.up J h
theorem ord_lo {h i : Nat} {a d t : Int32} {σ : Sg} (hi : i < 104) (h7 : i ≠ 7) : ordS h a d t σ i = σ i := by
  unfold ordS
  rw [if_neg h7, if_neg (by omega)]
theorem locoR.J {k : Nat} {a b c d : Int32} {σ : Sg} {q : Int32 × Sg} (J : Jv k σ) (H : locoR a b c d σ q) : Jv k q.2 := by
  rcases H with ⟨-, rfl⟩ | ⟨-, -, rfl⟩ | ⟨-, -, -, rfl⟩ | ⟨hb, hr, h8, rfl⟩
  · exact J
  · exact J
  · exact J
  · obtain ⟨V, S, U, C⟩ := J
    have ha : 1 ≤ a.toInt := i_le.mp hb.1.1
    exact Jw.v (n := nof σ + 1) (h := hof σ) ⟨V.add h8 hb, S.add ha (rk_ne _ hr), U.cong (fun j _ => add_out h8 (by omega) (by omega)), C.cong (fun i hi _ _ => add_out h8 (by omega) (by omega))⟩
theorem liftR.J {k : Nat} {a : Int32} {σ : Sg} {q : Int32 × Sg} (J : Jv k σ) (H : liftR a σ q) : Jv k q.2 := by
  rcases H with ⟨-, rfl⟩ | ⟨hr, rfl⟩
  · exact J
  · obtain ⟨V, S, U, C⟩ := J
    have h8 := V.2.1
    exact Jw.v (n := nof σ - 1) (h := hof σ) ⟨V.lift hr, S.lift hr, U.cong (fun j _ => lif_out h8 (by omega) (by omega) hr), C.cong (fun i hi _ _ => lif_out h8 (by omega) (by omega) hr)⟩
theorem noiseR.J {k : Nat} {x : Int32} {σ : Sg} {q : Int32 × Sg} (J : Jv k σ) (H : noiseR x σ q) : Jv k q.2 := by
  rcases H with ⟨-, rfl⟩ | ⟨hx, rfl⟩
  · exact J
  · obtain ⟨V, S, U, C⟩ := J
    exact Jw.v (n := nof σ) (h := hof σ) ⟨V.noise hx, S.cong (fun r _ => upd_n (by omega)), U.cong (fun j _ => upd_n (by omega)), C.cong (fun i _ h1 _ => upd_n h1)⟩
theorem ordR.J {k : Nat} {a d t : Int32} {σ : Sg} {q : Int32 × Sg} (J : Jv k σ) (H : ordR a d t σ q) : Jv k q.2 := by
  rcases H with ⟨-, rfl⟩ | ⟨-, -, rfl⟩ | ⟨hb, hh, rfl⟩
  · exact J
  · exact J
  · obtain ⟨V, S, U, C⟩ := J
    have h8 := V.2.1
    have ht : t.toInt ≤ 3 := i_le.mp hb.2.2.2
    exact Jw.v (n := nof σ) (h := hof σ + 1) ⟨V.ord hh hb, S.cong (fun r _ => ord_lo (by omega) (by omega)), U.ord ht, C.cong (fun i hi _ _ => ord_lo (by omega) (by omega))⟩
theorem frmR.J {k : Nat} {a d c : Int32} {σ : Sg} {q : Int32 × Sg} (J : Jv k σ) (hk : k < 900000) (H : frmR a d c σ q) : Jv (k + 100) q.2 := by
  rcases H with ⟨-, rfl⟩ | ⟨hb, rfl⟩
  · exact J.up (by omega)
  · obtain ⟨V, S, U, C⟩ := J
    have h8 := V.2.1
    exact (Jw.v (n := nof σ) (h := hof σ) ⟨V.com ⟨i_le.mp hb.2.1.1, i_le.mp hb.2.1.2⟩, S.com, U.com h8, C.com (by omega)⟩ : Jv (k + 1) _).up (by omega)
theorem shoR.J {k : Nat} {b t : Int32} {σ : Sg} {q : Int32 × Sg} (J : Jv k σ) (H : shoR b t σ q) : Jv k q.2 := by
  rcases H with ⟨-, rfl⟩ | ⟨-, -, rfl⟩ | ⟨hb, ht, rfl⟩
  · exact J
  · exact J
  · obtain ⟨V, S, U, C⟩ := J
    have hr := rng (M := 7) (m := 7) rfl hb.1 hb.2
    have h7 := hr.1
    exact Jw.v (n := nof σ) (h := hof σ) ⟨V.short (by omega) ht, S.cong (fun r _ => upd_n (by omega)), U.cong (fun j _ => upd_n (by omega)), C.cong (fun i _ h1 _ => upd_n (by omega))⟩
theorem pasR.J {k : Nat} {x : Int32} {σ : Sg} {q : Int32 × Sg} (J : Jv k σ) (hk : k < 900000) (H : pasR x σ q) : Jv (k + 100) q.2 := by
  rcases H with ⟨-, rfl⟩ | ⟨-, -, rfl⟩ | ⟨hb, -, rfl⟩
  · exact J.up (by omega)
  · exact J.up (by omega)
  · have hr := rng (x := x) (M := 99) (m := 99) rfl (Int32.le_trans (by decide) hb.1) hb.2
    have h9 := hr.1
    exact ((Jw.it J x.toInt.toNat (by omega)).v : Jv (k + x.toInt.toNat) _).up (by omega)
/-- the law's own numbers -/
def lowF (v n : Int32) : Int32 := (v &&& 2147483647) % n
def adF (v : Int32) : Int32 := lowF (v >>> (4 &&& 31)) (if ¬ v >>> (20 &&& 31) &&& 7 = 0 then 9 else 101)
def dtF (w : Int32) : Int32 := if 0 < w &&& 3 then lowF (w >>> (2 &&& 31)) 29 + (128 : Int32) * (w >>> (8 &&& 31) &&& 1) else lowF (w >>> (2 &&& 31)) 258
def ckF (v w : Int32) : Int32 := if w >>> (20 &&& 31) &&& 3 = 0 then lowF (w >>> (3 &&& 31)) 256 else (adF v ^^^ dtF w) &&& 255
def ptF (w : Int32) : Int32 := lowF w (if ¬ w >>> (8 &&& 31) &&& 3 = 0 then 12 else 101)
def resR (w : Int32) (σ s0 : Sg) (q : Int32 × Sg) : Prop := (w &&& 1 = 0 ∧ q = (s0 6, s0)) ∨ (w &&& 1 = 1 ∧ q = (-5, σ))
def actR (v w : Int32) (σ s0 : Sg) (q : Int32 × Sg) : Prop :=
  if v &&& 15 = 0 ∨ v &&& 15 = 1 ∨ v &&& 15 = 2 then locoR (adF v) (lowF w 21) (lowF (w >>> (5 &&& 31)) 4) (lowF (w >>> (7 &&& 31)) 801) σ q
  else if v &&& 15 = 3 then (if w &&& 3 = 0 then liftR (adF v) σ q else noiseR (lowF (w >>> (2 &&& 31)) 11) σ q)
  else if v &&& 15 = 4 ∨ v &&& 15 = 5 ∨ v &&& 15 = 6 then ordR (adF v) (dtF w) (lowF (w >>> (20 &&& 31)) 4) σ q
  else if v &&& 15 = 7 ∨ v &&& 15 = 8 then frmR (adF v) (dtF w) (ckF v w) σ q
  else if v &&& 15 = 9 then shoR (lowF w 9) (lowF (w >>> (4 &&& 31)) 20) σ q
  else if v &&& 15 = 10 then resR w σ s0 q
  else pasR (ptF w) σ q
theorem locoR.fn {a b c d : Int32} {σ : Sg} {q q' : Int32 × Sg} (H : locoR a b c d σ q) (H' : locoR a b c d σ q') : q = q' := by
  rcases H with ⟨k0, rfl⟩ | ⟨k0, k1, rfl⟩ | ⟨k0, k1, k2, rfl⟩ | ⟨k0, k1, k2, rfl⟩
  all_goals
    rcases H' with ⟨y0, rfl⟩ | ⟨y0, y1, rfl⟩ | ⟨y0, y1, y2, rfl⟩ | ⟨y0, y1, y2, rfl⟩
    all_goals first
    | rfl
    | contradiction
    | omega
theorem liftR.fn {a : Int32} {σ : Sg} {q q' : Int32 × Sg} (H : liftR a σ q) (H' : liftR a σ q') : q = q' := by
  rcases H with ⟨k0, rfl⟩ | ⟨k0, rfl⟩
  all_goals
    rcases H' with ⟨y0, rfl⟩ | ⟨y0, rfl⟩
    all_goals first
    | rfl
    | contradiction
    | omega
theorem noiseR.fn {x : Int32} {σ : Sg} {q q' : Int32 × Sg} (H : noiseR x σ q) (H' : noiseR x σ q') : q = q' := by
  rcases H with ⟨k0, rfl⟩ | ⟨k0, rfl⟩
  all_goals
    rcases H' with ⟨y0, rfl⟩ | ⟨y0, rfl⟩
    all_goals first
    | rfl
    | contradiction
    | omega
theorem ordR.fn {a d t : Int32} {σ : Sg} {q q' : Int32 × Sg} (H : ordR a d t σ q) (H' : ordR a d t σ q') : q = q' := by
  rcases H with ⟨k0, rfl⟩ | ⟨k0, k1, rfl⟩ | ⟨k0, k1, rfl⟩
  all_goals
    rcases H' with ⟨y0, rfl⟩ | ⟨y0, y1, rfl⟩ | ⟨y0, y1, rfl⟩
    all_goals first
    | rfl
    | contradiction
    | omega
theorem frmR.fn {a d c : Int32} {σ : Sg} {q q' : Int32 × Sg} (H : frmR a d c σ q) (H' : frmR a d c σ q') : q = q' := by
  rcases H with ⟨k0, rfl⟩ | ⟨k0, rfl⟩
  all_goals
    rcases H' with ⟨y0, rfl⟩ | ⟨y0, rfl⟩
    all_goals first
    | rfl
    | contradiction
    | omega
theorem shoR.fn {b t : Int32} {σ : Sg} {q q' : Int32 × Sg} (H : shoR b t σ q) (H' : shoR b t σ q') : q = q' := by
  rcases H with ⟨k0, rfl⟩ | ⟨k0, k1, rfl⟩ | ⟨k0, k1, rfl⟩
  all_goals
    rcases H' with ⟨y0, rfl⟩ | ⟨y0, y1, rfl⟩ | ⟨y0, y1, rfl⟩
    all_goals first
    | rfl
    | contradiction
    | omega
theorem pasR.fn {x : Int32} {σ : Sg} {q q' : Int32 × Sg} (H : pasR x σ q) (H' : pasR x σ q') : q = q' := by
  rcases H with ⟨k0, rfl⟩ | ⟨k0, k1, rfl⟩ | ⟨k0, k1, rfl⟩
  all_goals
    rcases H' with ⟨y0, rfl⟩ | ⟨y0, y1, rfl⟩ | ⟨y0, y1, rfl⟩
    all_goals first
    | rfl
    | contradiction
    | omega
theorem resR.fn {w : Int32} {σ s0 : Sg} {q q' : Int32 × Sg} (H : resR w σ s0 q) (H' : resR w σ s0 q') : q = q' := by
  rcases H with ⟨k0, rfl⟩ | ⟨k0, rfl⟩
  all_goals
    rcases H' with ⟨y0, rfl⟩ | ⟨y0, rfl⟩
    all_goals first
    | rfl
    | (exact absurd (k0.symm.trans y0) (by decide))
theorem actR.fn {v w : Int32} {σ s0 : Sg} {q q' : Int32 × Sg} (H : actR v w σ s0 q) (H' : actR v w σ s0 q') : q = q' := by
  unfold actR at H H'
  by_cases c1 : v &&& 15 = 0 ∨ v &&& 15 = 1 ∨ v &&& 15 = 2
  · rw [if_pos c1] at H H'
    exact locoR.fn H H'
  · rw [if_neg c1] at H H'
    by_cases c2 : v &&& 15 = 3
    · rw [if_pos c2] at H H'
      by_cases c3 : w &&& 3 = 0
      · rw [if_pos c3] at H H'
        exact liftR.fn H H'
      · rw [if_neg c3] at H H'
        exact noiseR.fn H H'
    · rw [if_neg c2] at H H'
      by_cases c4 : v &&& 15 = 4 ∨ v &&& 15 = 5 ∨ v &&& 15 = 6
      · rw [if_pos c4] at H H'
        exact ordR.fn H H'
      · rw [if_neg c4] at H H'
        by_cases c5 : v &&& 15 = 7 ∨ v &&& 15 = 8
        · rw [if_pos c5] at H H'
          exact frmR.fn H H'
        · rw [if_neg c5] at H H'
          by_cases c6 : v &&& 15 = 9
          · rw [if_pos c6] at H H'
            exact shoR.fn H H'
          · rw [if_neg c6] at H H'
            by_cases c7 : v &&& 15 = 10
            · rw [if_pos c7] at H H'
              exact resR.fn H H'
            · rw [if_neg c7] at H H'
              exact pasR.fn H H'
theorem actR.J {k : Nat} {v w : Int32} {σ s0 : Sg} {q : Int32 × Sg} (J : Jv k σ) (J0 : Jv k s0) (hk : k < 900000) (H : actR v w σ s0 q) : Jv (k + 100) q.2 := by
  have hu : k ≤ k + 100 := by omega
  unfold actR at H
  by_cases c1 : v &&& 15 = 0 ∨ v &&& 15 = 1 ∨ v &&& 15 = 2
  · rw [if_pos c1] at H
    exact (locoR.J J H).up hu
  · rw [if_neg c1] at H
    by_cases c2 : v &&& 15 = 3
    · rw [if_pos c2] at H
      by_cases c3 : w &&& 3 = 0
      · rw [if_pos c3] at H
        exact (liftR.J J H).up hu
      · rw [if_neg c3] at H
        exact (noiseR.J J H).up hu
    · rw [if_neg c2] at H
      by_cases c4 : v &&& 15 = 4 ∨ v &&& 15 = 5 ∨ v &&& 15 = 6
      · rw [if_pos c4] at H
        exact (ordR.J J H).up hu
      · rw [if_neg c4] at H
        by_cases c5 : v &&& 15 = 7 ∨ v &&& 15 = 8
        · rw [if_pos c5] at H
          exact frmR.J J hk H
        · rw [if_neg c5] at H
          by_cases c6 : v &&& 15 = 9
          · rw [if_pos c6] at H
            exact (shoR.J J H).up hu
          · rw [if_neg c6] at H
            by_cases c7 : v &&& 15 = 10
            · rw [if_pos c7] at H
              rcases H with ⟨-, rfl⟩ | ⟨-, rfl⟩
              · exact J0.up hu
              · exact J.up hu
            · rw [if_neg c7] at H
              exact pasR.J J hk H
theorem actR.res {v w : Int32} {σ s0 : Sg} {q : Int32 × Sg} (H : actR v w σ s0 q) (hc : v &&& 15 = 10) (hq : ¬ q.1 < 0) : q.2 = s0 := by
  unfold actR at H
  rw [hc, if_neg (by decide), if_neg (by decide), if_neg (by decide), if_neg (by decide), if_neg (by decide), if_pos rfl] at H
  rcases H with ⟨-, rfl⟩ | ⟨-, rfl⟩
  · rfl
  · exact absurd (show (-5 : Int32) < 0 by decide) hq
theorem and1 (w : Int32) : w &&& 1 = 0 ∨ w &&& 1 = 1 := by
  have h : (w &&& 1).toBitVec = w.toBitVec &&& 1#32 := rfl
  rw [BitVec.and_one_eq_setWidth_ofBool_getLsbD] at h
  cases hb : w.toBitVec.getLsbD 0
  · exact Or.inl (Int32.toBitVec_inj.1 (by rw [h, hb]; rfl))
  · exact Or.inr (Int32.toBitVec_inj.1 (by rw [h, hb]; rfl))
theorem mask_nn (v : Int32) : 0 ≤ (v &&& 2147483647).toInt := by
  have h1 : (v &&& 2147483647).toBitVec.msb = false := by
    show (v.toBitVec &&& (2147483647 : Int32).toBitVec).msb = false
    rw [BitVec.msb_and]
    show (v.toBitVec.msb && false) = false
    exact Bool.and_false _
  have h2 : (v &&& 2147483647).toBitVec.msb = decide ((v &&& 2147483647).toInt < 0) := BitVec.msb_eq_toInt
  rw [h1] at h2
  have := of_decide_eq_false h2.symm
  omega
theorem low_nI (v : Int32) {n : Nat} (h0 : 0 < n) (h1 : n < 1000) : ∃ j, j < n ∧ lowF v (nI n) = nI j := by
  have e := nat_of (mask_nn v)
  have hl : (v &&& 2147483647).toInt < 2 ^ 31 := Int32.toInt_lt _
  exact ⟨(v &&& 2147483647).toInt.toNat % n, Nat.mod_lt _ h0, nx_rem e rfl (by omega) h0 (by omega)⟩
theorem cnt_1 {σ : Sg} {hn pl : Nat} : cntS σ hn pl 1 = σ 6 := by unfold cntS; rw [if_neg (by decide), if_pos rfl]
theorem cnt_2 {σ : Sg} {hn pl : Nat} : cntS σ hn pl 2 = σ 7 := by unfold cntS; rw [if_neg (by decide), if_neg (by decide), if_pos rfl]
theorem cnt_4 {σ : Sg} {hn pl : Nat} : cntS σ hn pl 4 = σ 3 := by unfold cntS; rw [if_neg (by decide), if_neg (by decide), if_neg (by decide), if_neg (by decide), if_pos rfl]
theorem cnt_5 {σ : Sg} {hn pl : Nat} : cntS σ hn pl 5 = σ 4 := by unfold cntS; rw [if_neg (by decide), if_neg (by decide), if_neg (by decide), if_neg (by decide), if_neg (by decide), if_pos rfl]
theorem cnt_6 {σ : Sg} {hn pl : Nat} : cntS σ hn pl 6 = σ 5 := by unfold cntS; rw [if_neg (by decide), if_neg (by decide), if_neg (by decide), if_neg (by decide), if_neg (by decide), if_neg (by decide), if_pos rfl]
theorem cnt_9 {σ : Sg} {hn pl : Nat} : cntS σ hn pl 9 = ssS σ (nof σ) + 10000 := by unfold cntS; rw [if_neg (by decide), if_neg (by decide), if_neg (by decide), if_neg (by decide), if_neg (by decide), if_neg (by decide), if_neg (by decide), if_neg (by decide), if_neg (by decide), if_pos rfl]
theorem cnt_11 {σ : Sg} {hn pl : Nat} : cntS σ hn pl 11 = nI hn := by unfold cntS; rw [if_neg (by decide), if_neg (by decide), if_neg (by decide), if_neg (by decide), if_neg (by decide), if_neg (by decide), if_neg (by decide), if_neg (by decide), if_neg (by decide), if_neg (by decide), if_neg (by decide), if_pos rfl]
theorem cnt_lo {σ : Sg} {hn pl j : Nat} (hj : j < 10) : cntS σ hn pl (nI j) = cntS σ 0 0 (nI j) := by
  have h10 : ¬ nI j = 10 := fun e => by have := (nI_eq (a := j) (b := 10) (by omega) (by decide)).mp e; omega
  have h11 : ¬ nI j = 11 := fun e => by have := (nI_eq (a := j) (b := 11) (by omega) (by decide)).mp e; omega
  unfold cntS
  simp only [if_neg h10, if_neg h11]
theorem adr_at {σ : Sg} {k : Nat} (hk : k < nof σ) (h8 : nof σ ≤ 8) : adrS σ (nI k) = σ (16 + 11 * k) := by
  unfold adrS
  have e : (nI k).toInt.toNat = k := by rw [nI_toInt (by omega)]; rfl
  rw [if_pos ((lq_n h8).mpr ⟨k, hk, rfl⟩), e]
theorem of_at {σ : Sg} {k : Nat} (hk : k < nof σ) (S : Srt (nof σ) σ) (w : Int32) : ofS σ (σ (16 + 11 * k)) w = tldS σ k w := by
  unfold ofS
  rw [S.rk hk, if_pos hk]
theorem wait_at {σ : Sg} {k : Nat} (hk : k < hof σ) (h20 : hof σ ≤ 20) : waitS (hof σ) σ (nI k) 2 = σ (106 + 3 * k) := by
  unfold waitS
  have e : (nI k).toInt.toNat = k := by rw [nI_toInt (by omega)]; rfl
  have hc : 0 ≤ nI k ∧ nI k ≤ nI (hof σ) - 1 := by
    refine ⟨nI_pos' (by omega), ?_⟩
    rw [show nI (hof σ) - 1 = nI (hof σ - 1) from nx_sub rfl (b := 1) rfl (by omega)]
    exact (nI_leI (by omega) (by omega)).mpr (by omega)
  rw [if_pos hc, e, if_neg (by decide), if_neg (by decide), if_pos rfl]
theorem blk_at {σ : Sg} {b : Nat} (hb : b < 8) (w : Int32) : blockS σ (nI b) w = if w = 0 then σ (8 + b) else if w = 1 then lcS σ (nI b) (nof σ) else -2 := by
  unfold blockS
  have e : (nI b).toInt.toNat = b := by rw [nI_toInt (by omega)]; rfl
  have hc : 0 ≤ nI b ∧ nI b ≤ 7 := ⟨nI_pos' (by omega), (nI_leI (a := b) (b := 7) (by omega) (by decide)).mpr (by omega)⟩
  rw [if_pos hc, e]
theorem stl_at {σ : Sg} {k : Nat} (hk : k < nof σ) (S : Srt (nof σ) σ) : settS σ (σ (16 + 11 * k)) = stlS σ k := by
  unfold settS
  rw [S.rk hk, if_pos hk]
theorem rch_at {σ : Sg} {k : Nat} (hk : k < nof σ) (S : Srt (nof σ) σ) (L : LcOk σ k) : reachS σ (σ (16 + 11 * k)) (σ (16 + 11 * k + 3) / 100) = 0 := by
  have hb := blk_lt L
  have e := blk_eq L
  have hc : 0 ≤ nI (blkS σ k) ∧ nI (blkS σ k) ≤ 7 := ⟨nI_pos' (by omega), (nI_leI (a := blkS σ k) (b := 7) (by omega) (by decide)).mpr (by omega)⟩
  unfold reachS
  rw [S.rk hk, if_pos ⟨hk, by rw [e]; exact hc⟩]
  exact unt_at (j := 0) (fun i hi => absurd hi (Nat.not_lt_zero _)) (decide_eq_true rfl) (by decide)
/-- each loco is in one of the eight blocks -/
def sumB (σ : Sg) (n : Nat) : Nat → Int32
  | 0 => 0
  | b + 1 => sumB σ n b + lcS σ (nI b) n
theorem sumB_S {σ : Sg} {n x : Nat} (e : σ (16 + 11 * n + 3) / 100 = nI x) (hx : x < 8) : ∀ m, m ≤ 8 → sumB σ (n + 1) m = sumB σ n m + (if x < m then 1 else 0) := by
  intro m
  induction m with
  | zero => exact fun _ => by rw [if_neg (Nat.not_lt_zero _)]; rfl
  | succ m ih =>
    intro hm
    have e1 : lcS σ (nI m) (n + 1) = if x = m then lcS σ (nI m) n + 1 else lcS σ (nI m) n := by
      show (if σ (16 + 11 * n + 3) / 100 = nI m then lcS σ (nI m) n + 1 else lcS σ (nI m) n) = _
      by_cases q : x = m
      · rw [if_pos q, if_pos (by rw [e, q])]
      · rw [if_neg q, if_neg (fun z => q ((nI_eq (by omega) (by omega)).mp (e.symm.trans z)))]
    show sumB σ (n + 1) m + lcS σ (nI m) (n + 1) = sumB σ n m + lcS σ (nI m) n + _
    rw [ih (by omega), e1]
    by_cases q : x = m
    · rw [if_pos q, if_neg (by omega), if_pos (by omega), Int32.add_zero, Int32.add_assoc]
    · rw [if_neg q]
      by_cases z : x < m
      · rw [if_pos z, if_pos (by omega), Int32.add_assoc, Int32.add_comm 1, ← Int32.add_assoc]
      · rw [if_neg z, if_neg (by omega), Int32.add_zero, Int32.add_zero]
theorem sumB_n {σ : Sg} : ∀ n, (∀ r, r < n → LcOk σ r) → sumB σ n 8 = nI n := by
  intro n
  induction n with
  | zero => exact fun _ => by show (0 : Int32) + 0 + 0 + 0 + 0 + 0 + 0 + 0 + 0 = nI 0; decide
  | succ n ih =>
    intro h
    have L := h n (by omega)
    rw [sumB_S (blk_eq L) (blk_lt L) 8 (Nat.le_refl _), ih (fun r hr => h r (by omega)), if_pos (blk_lt L)]
    exact nI_1 n
theorem back1 (x : Int32) : x + 1000 - 1000 = x := Int32.add_sub_cancel x 1000
theorem back2 (x : Int32) : x + 10000 - 10000 = x := Int32.add_sub_cancel x 10000
