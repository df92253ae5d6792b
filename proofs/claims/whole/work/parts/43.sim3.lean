/-! PART 43: class and reference, side by side: undo, slots, texts -/
theorem sim_mk {I ia : Ii} {pm : Pm} {σ τ : Sg} {hn : Nat} {hist : Nat → Sg} {sv : Nat → Int32} {sl : Nat → Sg} {pl : Nat} {pad : Sg} (C : CR I pm σ hn hist sv sl pl pad) (f : ∀ K i c, K < 16 → ia K i c = I K i c) (M : MXH ia hn hist) (S : MS ia sv sl) (P : MP ia pl pad) (e : ∀ k, k < 164 → τ k = σ k) : SIM (upR ia 17 0 τ) pm :=
  SIMx.s ⟨C.k16 (fun K i c h => (rd16 (by omega)).trans (f K i c h)), M.up, S.f (fun K i c h => rd16 (by omega)), P.f (fun K i c h => rd16 (by omega)), fun k hk => (show upR ia 17 0 τ 17 0 k = σ k from rd17.trans (e k hk))⟩
theorem putR.fn {pl : Nat} {pad : Sg} {x : Int64} {r r' : Int32} {q q' : Nat × Sg} (H : putR pl pad x r q) (H' : putR pl pad x r' q') : r = r' ∧ q = q' := by
  rcases H with ⟨a, b, c⟩ | ⟨n, hn, h1, H⟩
  · rcases H' with ⟨a', b', c'⟩ | ⟨n', hn', h1', -⟩
    · exact ⟨b.trans b'.symm, c.trans c'.symm⟩
    · exact absurd ⟨n', hn', h1'⟩ a
  · rcases H' with ⟨a', b', c'⟩ | ⟨n', hn', h1', H'⟩
    · exact absurd ⟨n, hn, h1⟩ a'
    · have e := chN_fn hn hn'
      subst e
      rcases H with ⟨a, b, c⟩ | ⟨a, b, c⟩
      · rcases H' with ⟨a', b', c'⟩ | ⟨a', b', c'⟩
        · exact ⟨b.trans b'.symm, c.trans c'.symm⟩
        · omega
      · rcases H' with ⟨a', b', c'⟩ | ⟨a', b', c'⟩
        · omega
        · exact ⟨b.trans b'.symm, c.trans c'.symm⟩
theorem exR.fn {pl : Nat} {pad : Sg} {p : Nat} {s : Sg} {q q' : Int32 × Sg} (H : exR pl pad p s q) (H' : exR pl pad p s q') : q = q' := by
  rcases H with ⟨k, H⟩ | ⟨k, H⟩ | ⟨k, H⟩ | ⟨k, H⟩
  · rcases H' with ⟨k', H'⟩ | ⟨k', H'⟩ | ⟨k', H'⟩ | ⟨k', H'⟩
    · exact ordR.fn H H'
    · exact absurd (k.symm.trans k') (by decide)
    · exact absurd (k.symm.trans k') (by decide)
    · exact absurd (k.symm.trans k') (by decide)
  · rcases H' with ⟨k', H'⟩ | ⟨k', H'⟩ | ⟨k', H'⟩ | ⟨k', H'⟩
    · exact absurd (k.symm.trans k') (by decide)
    · exact frmR.fn H H'
    · exact absurd (k.symm.trans k') (by decide)
    · exact absurd (k.symm.trans k') (by decide)
  · rcases H' with ⟨k', H'⟩ | ⟨k', H'⟩ | ⟨k', H'⟩ | ⟨k', H'⟩
    · exact absurd (k.symm.trans k') (by decide)
    · exact absurd (k.symm.trans k') (by decide)
    · exact shoR.fn H H'
    · exact absurd (k.symm.trans k') (by decide)
  · rcases H' with ⟨k', H'⟩ | ⟨k', H'⟩ | ⟨k', H'⟩ | ⟨k', H'⟩
    · exact absurd (k.symm.trans k') (by decide)
    · exact absurd (k.symm.trans k') (by decide)
    · exact absurd (k.symm.trans k') (by decide)
    · exact pasR.fn H H'
theorem caR_fn {pl : Nat} {pad : Sg} : ∀ t p s q q', caR pl pad t p s q → caR pl pad t p s q' → q = q' := by
  intro t
  induction t with
  | zero => exact fun p s q q' H H' => Eq.trans H (Eq.symm H')
  | succ t ih =>
    rintro p s q q' ⟨x, hx, H⟩ ⟨x', hx', H'⟩
    have e := exR.fn hx hx'
    subst e
    rcases H with ⟨a, b⟩ | ⟨a, y, hy, b⟩
    · rcases H' with ⟨a', b'⟩ | ⟨a', y', hy', b'⟩
      · exact b.trans b'.symm
      · exact absurd a a'
    · rcases H' with ⟨a', b'⟩ | ⟨a', y', hy', b'⟩
      · exact absurd a' a
      · rw [b, b', ih _ _ _ _ hy hy']
theorem duo_undo {l : Launch} {G : Gm} (hj : Aj G) {I : Ii} {pm : Pm} (S : SIM I pm) : DUO l G yX5_undo (wz yX5_undo cX5_undo 1 (some .int)) (rmL 4) yX6_undo (wz yX6_undo cX6_undo 2 (some .int)) (rmL 0) [] I pm := by
  obtain ⟨hn, hist, sv, sl, pl, pad, C, M, S1, P⟩ := S
  refine ⟨_, c_X5_undo hj C, fun r1 u1 H1 => ?_⟩
  rcases H1 with ⟨h0, h1, rfl⟩ | ⟨h0, h1, C1, fc⟩
  · refine ⟨_, (c_X6_undo hj M).self rfl, fun r2 u2 H2 => ?_⟩
    rcases H2 with ⟨-, h2, rfl⟩ | ⟨g0, -⟩
    · exact ⟨h1.trans h2.symm, sim_th C M S1 P⟩
    · omega
  · refine ⟨_, (c_X6_undo hj (M.fc fc)).self (show u1.1 17 0 = I 17 0 from funext fun k => fc 17 0 k (by decide)), fun r2 u2 H2 => ?_⟩
    rcases H2 with ⟨g0, -⟩ | ⟨-, h2, τ, ia, rfl, et, M2, f⟩
    · omega
    · exact ⟨h1.trans h2.symm, sim_mk C1 (fun K i c h => f K i c (by omega) (by omega) (by omega)) M2 (S1.f (fun K i c h => (f K i c (by omega) (by omega) (by omega)).trans (fc K i c (by omega)))) (P.f (fun K i c h => (f K i c (by omega) (by omega) (by omega)).trans (fc K i c (by omega)))) et⟩
theorem duo_wipe {l : Launch} {G : Gm} (hj : Aj G) {I : Ii} {pm : Pm} (S : SIM I pm) : DUO l G yX5_wipe (wz yX5_wipe cX5_wipe 1 (some .int)) (rmL 1) yX6_wipe (wz yX6_wipe cX6_wipe 2 (some .int)) (rmL 0) [] I pm := by
  obtain ⟨hn, hist, sv, sl, pl, pad, C, M, S1, P⟩ := S
  refine ⟨_, c_X5_wipe hj C, fun r1 u1 H1 => ?_⟩
  obtain ⟨h1, C1, fc⟩ := H1
  refine ⟨_, (c_X6_wipe hj (pl := pl) ((fc 16 0 8 (by decide)).trans P.1)).self (show u1.1 17 0 = I 17 0 from funext fun k => fc 17 0 k (by decide)), fun r2 u2 H2 => ?_⟩
  obtain ⟨h2, rfl⟩ := H2
  have M2 : MXH (up3 (up3 u1.1 16 0 0 0) 16 0 8 0) hn hist := ⟨(up3_n (by decide)).trans ((up3_n (by decide)).trans ((fc 16 0 4 (by decide)).trans M.1)), M.2.1, fun i hi k hk => (up3_k (by decide)).trans ((up3_k (by decide)).trans ((fc 19 0 _ (by decide)).trans (M.2.2 i hi k hk)))⟩
  have P2 : MP (up3 (up3 u1.1 16 0 0 0) 16 0 8 0) 0 pad := ⟨up3_s, by decide, fun i hi => absurd hi (Nat.not_lt_zero i)⟩
  have f2 : ∀ K i c, K ≠ 16 → up3 (up3 u1.1 16 0 0 0) 16 0 8 0 K i c = u1.1 K i c := fun K i c h => (up3_k h).trans (up3_k h)
  exact ⟨h1.trans h2.symm, sim_mk C1 (fun K i c h => f2 K i c (by omega)) M2 (S1.f (fun K i c h => (f2 K i c (by omega)).trans (fc K i c (by omega)))) P2 (fun _ _ => rfl)⟩
theorem duo_fault {l : Launch} {G : Gm} (hj : Aj G) {I : Ii} {pm : Pm} (S : SIM I pm) : DUO l G yX5_fault (wz yX5_fault cX5_fault 1 (some .int)) (rmL 5) yX6_fault (wz yX6_fault cX6_fault 1 (some .int)) (rmL 5) [] I pm := by
  obtain ⟨hn, hist, sv, sl, pl, pad, C, M, S1, P⟩ := S
  refine ⟨_, c_X5_fault hj C, fun r1 u1 H1 => ?_⟩
  obtain ⟨h1, C1, fc⟩ := H1
  have P1 : MP u1.1 pl pad := P.f (fun K i c h => fc K i c (by omega))
  refine ⟨_, (c_X6_fault hj P1).self (show u1.1 17 0 = I 17 0 from funext fun k => fc 17 0 k (by decide)), fun r2 u2 H2 => ?_⟩
  obtain ⟨h2, ia, rfl, f⟩ := H2
  have f' : ∀ K i c, K ≠ 23 → ¬ (K = 16 ∧ (c = 0 ∨ c = 9 ∨ c = 10 ∨ c = 12)) → ia K i c = u1.1 K i c := fun K i c h h' => (f K i c (fun e => h' ⟨e.1, by omega⟩) (fun e => h e.1)).trans (up3_n (fun e => h' ⟨e.1, Or.inl e.2.2⟩))
  exact ⟨ffR_fn P.2.1 h1 h2, sim_nx C1 (M.fc fc) (S1.f (fun K i c h => fc K i c (by omega))) P1 (fun K i c h => f' K i c (by omega) (by omega)) (fun i c => ⟨f' 16 0 4 (by decide) (by decide), f' 19 i c (by decide) (by omega)⟩) (fun K i c h => f' K i c (by omega) (by omega)) (fun K i c h => f' K i c (by omega) (by omega)) (fun _ _ => rfl)⟩
theorem duo_put {l : Launch} {G : Gm} (hj : Aj G) {I : Ii} {pm : Pm} (S : SIM I pm) {x : Int64} : DUO l G yX5_put (wz yX5_put cX5_put 3 (some .int)) (rmL 3) yX6_put (wz yX6_put cX6_put 8 (some .int)) (rmL 1) [.long x] I pm := by
  obtain ⟨hn, hist, sv, sl, pl, pad, C, M, S1, P⟩ := S
  refine ⟨_, c_X5_put hj C, fun r1 u1 H1 => ?_⟩
  obtain ⟨q, hq, C1, fc⟩ := H1
  have P1 : MP u1.1 pl pad := P.f (fun K i c h => fc K i c (by omega))
  refine ⟨_, (c_X6_put hj P1).self (show u1.1 17 0 = I 17 0 from funext fun k => fc 17 0 k (by decide)), fun r2 u2 H2 => ?_⟩
  obtain ⟨q', ia, hq', rfl, P2, f⟩ := H2
  obtain ⟨er, eq⟩ := putR.fn hq hq'
  subst eq
  have M2 : MXH ia hn hist := ⟨(f 16 0 4 (by decide) (by decide)).trans ((fc 16 0 4 (by decide)).trans M.1), M.2.1, fun i hi k hk => (f 19 0 _ (by omega) (by decide)).trans ((fc 19 0 _ (by decide)).trans (M.2.2 i hi k hk))⟩
  exact ⟨er, sim_mk C1 (fun K i c h => f K i c (by omega) (by omega)) M2 (S1.f (fun K i c h => (f K i c (by omega) (by omega)).trans (fc K i c (by omega)))) P2 (fun _ _ => rfl)⟩
theorem duo_carryOut {l : Launch} {G : Gm} (hj : Aj G) {I : Ii} {pm : Pm} (S : SIM I pm) : DUO l G yX5_carryOut (wz yX5_carryOut cX5_carryOut 3 (some .int)) (rmL 7) yX6_carryOut (wz yX6_carryOut cX6_carryOut 2 (some .int)) (rmL 8) [] I pm := by
  obtain ⟨hn, hist, sv, sl, pl, pad, C, M, S1, P⟩ := S
  obtain ⟨n, h, R, V⟩ := id C.1
  refine ⟨_, c_X5_carryOut hj C, fun r1 u1 H1 => ?_⟩
  obtain ⟨r0, hf, H1, fc⟩ := H1
  have P1 : MP u1.1 pl pad := P.f (fun K i c h => fc K i c (by omega))
  refine ⟨_, (c_X6_carryOut hj V (M.fc fc) P1).self (show u1.1 17 0 = I 17 0 from funext fun k => fc 17 0 k (by decide)), fun r2 u2 H2 => ?_⟩
  obtain ⟨r0', hf', ia, τ, rfl, H2, f⟩ := H2
  have e0 := ffR_fn P.2.1 hf hf'
  subst e0
  have S2 : MS ia sv sl := S1.f (fun K i c h => (f K i c (by omega)).trans (fc K i c (by omega)))
  rcases H1 with ⟨a, b, C1⟩ | ⟨j, q, hw, hc, b, C1⟩
  · rcases H2 with ⟨-, b', et, M2, e8⟩ | ⟨j', q', hw', -⟩
    · subst et
      exact ⟨b.trans b'.symm, sim_mk C1 (fun K i c h => f K i c (by omega)) M2 S2 ⟨e8, P.2.1, fun i hi => (f 22 0 i (by omega)).trans (P1.2.2 i hi)⟩ (fun _ _ => rfl)⟩
    · exact absurd (ffR_fn P.2.1 hf (wf_ff hw')) a
  · rcases H2 with ⟨a', -⟩ | ⟨j', q', hw', hc', b', et, M2, e8⟩
    · exact absurd (ffR_fn P.2.1 hf (wf_ff hw)) a'
    · have ej := wf_fn hw hw'
      subst ej
      have eq := caR_fn _ _ _ _ _ hc hc'
      subst eq
      subst et
      exact ⟨b.trans b'.symm, sim_mk C1 (fun K i c h => f K i c (by omega)) M2 S2 ⟨e8, by decide, fun i hi => absurd hi (Nat.not_lt_zero i)⟩ (fun _ _ => rfl)⟩
