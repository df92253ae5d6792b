/-! PART 44: class and reference, side by side: slots -/
theorem duo_save {l : Launch} {G : Gm} (hj : Aj G) {I : Ii} {pm : Pm} (S : SIM I pm) {x : Int32} : DUO l G yX5_save (wz yX5_save cX5_save 2 (some .int)) (rmL 3) yX6_save (wz yX6_save cX6_save 3 (some .int)) (rmL 1) [.int x] I pm := by
  obtain ⟨hn, hist, sv, sl, pl, pad, C, M, S1, P⟩ := S
  refine ⟨_, c_X5_save hj C, fun r1 u1 H1 => ?_⟩
  rcases H1 with ⟨h0, h1, rfl⟩ | ⟨h0, h1, C1, fc⟩
  · refine ⟨_, (c_X6_save hj).self rfl, fun r2 u2 H2 => ?_⟩
    rcases H2 with ⟨-, h2, rfl⟩ | ⟨g0, -⟩
    · exact ⟨h1.trans h2.symm, sim_th C M S1 P⟩
    · exact absurd g0 h0
  · refine ⟨_, (c_X6_save hj).self (show u1.1 17 0 = I 17 0 from funext fun k => fc 17 0 k (by decide)), fun r2 u2 H2 => ?_⟩
    rcases H2 with ⟨g0, -⟩ | ⟨-, h2, ia, rfl, h20, h21, f⟩
    · exact absurd h0 g0
    · have RG := rng (M := 1) (m := 1) rfl h0.1 h0.2
      have RG1 := RG.1
      generalize x.toInt.toNat = q at *
      have M2 : MXH ia hn hist := ⟨(f 16 0 4 (by decide) (by omega) (by omega)).trans ((fc 16 0 4 (by decide)).trans M.1), M.2.1, fun i hi k hk => (f 19 0 _ (by omega) (by omega) (by omega)).trans ((fc 19 0 _ (by decide)).trans (M.2.2 i hi k hk))⟩
      have S2 : MS ia (svU sv q) (slU sl q (I 17 0)) := fun i hi => by
        unfold svU slU
        by_cases e : i = q
        · simp only [if_pos e]
          rw [e]
          exact ⟨h21, fun _ k hk => h20 k hk⟩
        · simp only [if_neg e]
          exact ⟨(f 21 0 i (by omega) (by omega) (by omega)).trans ((fc 21 0 i (by decide)).trans (S1 i hi).1), fun g k hk => (f 20 0 _ (by omega) (by omega) (by omega)).trans ((fc 20 0 _ (by decide)).trans ((S1 i hi).2 g k hk))⟩
      have P2 : MP ia pl pad := P.f (fun K i c h => (f K i c (by omega) (by omega) (by omega)).trans (fc K i c (by omega)))
      exact ⟨h1.trans h2.symm, sim_mk C1 (fun K i c h => f K i c (by omega) (by omega) (by omega)) M2 S2 P2 (fun _ _ => rfl)⟩
theorem duo_restore {l : Launch} {G : Gm} (hj : Aj G) {I : Ii} {pm : Pm} (S : SIM I pm) {x : Int32} : DUO l G yX5_restore (wz yX5_restore cX5_restore 2 (some .int)) (rmL 4) yX6_restore (wz yX6_restore cX6_restore 3 (some .int)) (rmL 1) [.int x] I pm := by
  obtain ⟨hn, hist, sv, sl, pl, pad, C, M, S1, P⟩ := S
  refine ⟨_, c_X5_restore hj C, fun r1 u1 H1 => ?_⟩
  rcases H1 with ⟨h0, h1, rfl⟩ | ⟨h0, e0, h1, rfl⟩ | ⟨h0, e1, h1, C1, fc⟩
  · refine ⟨_, (c_X6_restore hj M).self rfl, fun r2 u2 H2 => ?_⟩
    rcases H2 with ⟨-, h2, rfl⟩ | ⟨g0, -⟩ | ⟨g0, -⟩
    · exact ⟨h1.trans h2.symm, sim_th C M S1 P⟩
    · exact absurd g0 h0
    · exact absurd g0 h0
  · have RG := rng (M := 1) (m := 1) rfl h0.1 h0.2
    have q2 : x.toInt.toNat < 2 := by have := RG.1; omega
    refine ⟨_, (c_X6_restore hj M).self rfl, fun r2 u2 H2 => ?_⟩
    rcases H2 with ⟨g0, -⟩ | ⟨-, -, h2, rfl⟩ | ⟨-, g0, -⟩
    · exact absurd h0 g0
    · exact ⟨h1.trans h2.symm, sim_th C M S1 P⟩
    · exact absurd ((S1 _ q2).1.trans e0) g0
  · have RG := rng (M := 1) (m := 1) rfl h0.1 h0.2
    have q2 : x.toInt.toNat < 2 := by have := RG.1; omega
    refine ⟨_, (c_X6_restore hj (M.fc fc)).self (show u1.1 17 0 = I 17 0 from funext fun k => fc 17 0 k (by decide)), fun r2 u2 H2 => ?_⟩
    rcases H2 with ⟨g0, -⟩ | ⟨-, g0, -⟩ | ⟨-, -, τ, ia, h2, rfl, et, M2, f⟩
    · exact absurd h0 g0
    · rw [fc 21 0 _ (by decide), (S1 _ q2).1, e1] at g0
      exact absurd g0 (by decide)
    · have et2 : ∀ k, k < 164 → τ k = sl x.toInt.toNat k := fun k hk => (et k hk).trans ((fc 20 0 _ (by decide)).trans ((S1 _ q2).2 e1 k hk))
      refine ⟨(h1.trans (et2 6 (by decide)).symm).trans h2.symm, ?_⟩
      exact sim_mk C1 (fun K i c h => f K i c (by omega) (by omega) (by omega)) M2 (S1.f (fun K i c h => (f K i c (by omega) (by omega) (by omega)).trans (fc K i c (by omega)))) (P.f (fun K i c h => (f K i c (by omega) (by omega) (by omega)).trans (fc K i c (by omega)))) et2
