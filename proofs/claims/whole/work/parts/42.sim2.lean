/-! PART 42: class and reference, side by side: questions, slots, texts -/
section SIMT
variable {I I' ia : Ii} {pm : Pm} {σ τ : Sg} {hn : Nat} {hist : Nat → Sg} {sv : Nat → Int32} {sl : Nat → Sg} {pl : Nat} {pad : Sg}
/-- the reference changed nothing but its own rows 16/0, 18, 23 .. -/
theorem sim_nx (C : CR I pm σ hn hist sv sl pl pad) (M : MXH I hn hist) (S : MS I sv sl) (P : MP I pl pad) (f : ∀ K i c, K < 16 → ia K i c = I K i c) (fM : ∀ i c, ia 16 0 4 = I 16 0 4 ∧ ia 19 i c = I 19 i c) (fS : ∀ K i c, (K = 20 ∨ K = 21) → ia K i c = I K i c) (fP : ∀ K i c, (K = 22 ∨ (K = 16 ∧ c = 8)) → ia K i c = I K i c) (e : ∀ k, k < 164 → τ k = σ k) : SIM (upR ia 17 0 τ) pm :=
  SIMx.s ⟨C.k16 (fun K i c h => (rd16 (by omega)).trans (f K i c h)), (show MXH ia hn hist from ⟨(fM 0 0).1.trans M.1, M.2.1, fun i hi k hk => (fM 0 _).2.trans (M.2.2 i hi k hk)⟩).up, S.f (fun K i c h => (rd16 (by omega)).trans (fS K i c h)), P.f (fun K i c h => (rd16 (by omega)).trans (fP K i c h)), fun k hk => (show upR ia 17 0 τ 17 0 k = σ k from rd17.trans (e k hk))⟩
theorem sim_th (C : CR I pm σ hn hist sv sl pl pad) (M : MXH I hn hist) (S : MS I sv sl) (P : MP I pl pad) : SIM (upR (up3 I 16 0 0 0) 17 0 σ) pm :=
  sim_nx C M S P (fun K i c h => up3_k (by omega)) (fun i c => ⟨up3_n (by decide), up3_k (by decide)⟩) (fun K i c h => up3_k (by omega)) (fun K i c h => up3_n (by omega)) (fun _ _ => rfl)
theorem sim_fm (C : CR I pm σ hn hist sv sl pl pad) (M : MXH I hn hist) (S : MS I sv sl) (P : MP I pl pad) {I0 : Ii} {u : Ii × Pm} (fc : ∀ K i c, 16 ≤ K → I K i c = I0 K i c) (H : ∃ τ ia, u = (upR ia 17 0 τ, pm) ∧ (∀ k, k < 164 → τ k = σ k) ∧ FM I ia ∧ MXH ia hn hist) : SIM u.1 u.2 := by
  obtain ⟨τ, ia, rfl, e, f, M2⟩ := H
  exact SIMx.s ⟨C.k16 (fun K i c h => f.k16 h), M2.up, S.f (fun K i c h => (rd16 (by omega)).trans (f K i c (by omega) (by omega) (by omega))), P.f (fun K i c h => (rd16 (by omega)).trans (f K i c (by omega) (by omega) (by omega))), fun k hk => (show upR ia 17 0 τ 17 0 k = σ k from rd17.trans (e k hk))⟩
end SIMT
theorem duo_of {l : Launch} {G : Gm} (hj : Aj G) {I : Ii} {pm : Pm} (S : SIM I pm) {a w : Int32} : DUO l G yX5_of (wz yX5_of cX5_of 4 (some .int)) (rmL 3) yX6_of (wz yX6_of cX6_of 4 (some .int)) (rmL 2) [.int a, .int w] I pm := by
  obtain ⟨hn, hist, sv, sl, pl, pad, C, M, S1, P⟩ := S
  obtain ⟨n, h, R, V⟩ := id C.1
  refine ⟨_, c_X5_of hj C, fun r1 u1 H1 => ?_⟩
  obtain ⟨h1, rfl⟩ := H1
  refine ⟨_, (c_X6_of hj V).self rfl, fun r2 u2 H2 => ?_⟩
  obtain ⟨h2, rfl⟩ := H2
  exact ⟨h1.trans h2.symm, sim_th C M S1 P⟩
theorem duo_address {l : Launch} {G : Gm} (hj : Aj G) {I : Ii} {pm : Pm} (S : SIM I pm) {x : Int32} : DUO l G yX5_address (wz yX5_address cX5_address 3 (some .int)) (rmL 2) yX6_address (wz yX6_address cX6_address 2 (some .int)) (rmL 1) [.int x] I pm := by
  obtain ⟨hn, hist, sv, sl, pl, pad, C, M, S1, P⟩ := S
  obtain ⟨n, h, R, V⟩ := id C.1
  refine ⟨_, c_X5_address hj C, fun r1 u1 H1 => ?_⟩
  obtain ⟨h1, rfl⟩ := H1
  refine ⟨_, (c_X6_address hj V).self rfl, fun r2 u2 H2 => ?_⟩
  obtain ⟨h2, rfl⟩ := H2
  exact ⟨h1.trans h2.symm, sim_th C M S1 P⟩
theorem duo_waiting {l : Launch} {G : Gm} (hj : Aj G) {I : Ii} {pm : Pm} (S : SIM I pm) {x w : Int32} : DUO l G yX5_waiting (wz yX5_waiting cX5_waiting 3 (some .int)) (rmL 2) yX6_waiting (wz yX6_waiting cX6_waiting 3 (some .int)) (rmL 1) [.int x, .int w] I pm := by
  obtain ⟨hn, hist, sv, sl, pl, pad, C, M, S1, P⟩ := S
  obtain ⟨n, h, R, V⟩ := id C.1
  refine ⟨_, c_X5_waiting hj C, fun r1 u1 H1 => ?_⟩
  obtain ⟨h1, rfl⟩ := H1
  refine ⟨_, (c_X6_waiting hj V).self rfl, fun r2 u2 H2 => ?_⟩
  obtain ⟨h2, rfl⟩ := H2
  exact ⟨h1.trans h2.symm, sim_th C M S1 P⟩
theorem duo_block {l : Launch} {G : Gm} (hj : Aj G) {I : Ii} {pm : Pm} (S : SIM I pm) {b w : Int32} : DUO l G yX5_block (wz yX5_block cX5_block 3 (some .int)) (rmL 2) yX6_block (wz yX6_block cX6_block 3 (some .int)) (rmL 3) [.int b, .int w] I pm := by
  obtain ⟨hn, hist, sv, sl, pl, pad, C, M, S1, P⟩ := S
  obtain ⟨n, h, R, V⟩ := id C.1
  refine ⟨_, c_X5_block hj C, fun r1 u1 H1 => ?_⟩
  obtain ⟨h1, rfl⟩ := H1
  refine ⟨_, (c_X6_block hj V).self rfl, fun r2 u2 H2 => ?_⟩
  obtain ⟨h2, rfl⟩ := H2
  exact ⟨h1.trans h2.symm, sim_th C M S1 P⟩
theorem duo_count {l : Launch} {G : Gm} (hj : Aj G) {I : Ii} {pm : Pm} (S : SIM I pm) {w : Int32} : DUO l G yX5_count (wz yX5_count cX5_count 2 (some .int)) (rmL 3) yX6_count (wz yX6_count cX6_count 2 (some .int)) (rmL 4) [.int w] I pm := by
  obtain ⟨hn, hist, sv, sl, pl, pad, C, M, S1, P⟩ := S
  obtain ⟨n, h, R, V⟩ := id C.1
  refine ⟨_, c_X5_count hj C, fun r1 u1 H1 => ?_⟩
  obtain ⟨h1, rfl⟩ := H1
  refine ⟨_, (c_X6_count hj V M.1 P.1).self rfl, fun r2 u2 H2 => ?_⟩
  obtain ⟨h2, rfl⟩ := H2
  exact ⟨h1.trans h2.symm, sim_th C M S1 P⟩
theorem duo_settles {l : Launch} {G : Gm} (hj : Aj G) {I : Ii} {pm : Pm} (S : SIM I pm) {a : Int32} : DUO l G yX5_settles (wz yX5_settles cX5_settles 3 (some .int)) (rmL 3) yX6_settles (wz yX6_settles cX6_settles 5 (some .int)) (rmL 2) [.int a] I pm := by
  obtain ⟨hn, hist, sv, sl, pl, pad, C, M, S1, P⟩ := S
  obtain ⟨n, h, R, V⟩ := id C.1
  refine ⟨_, c_X5_settles hj C, fun r1 u1 H1 => ?_⟩
  obtain ⟨h1, rfl⟩ := H1
  refine ⟨_, (c_X6_settles hj V).self rfl, fun r2 u2 H2 => ?_⟩
  obtain ⟨h2, rfl⟩ := H2
  exact ⟨h1.trans h2.symm, sim_th C M S1 P⟩
theorem duo_stepFor {l : Launch} {G : Gm} (hj : Aj G) {I : Ii} {pm : Pm} (S : SIM I pm) {a t : Int32} : DUO l G yX5_stepFor (wz yX5_stepFor cX5_stepFor 5 (some .int)) (rmL 3) yX6_stepFor (wz yX6_stepFor cX6_stepFor 5 (some .int)) (rmL 2) [.int a, .int t] I pm := by
  obtain ⟨hn, hist, sv, sl, pl, pad, C, M, S1, P⟩ := S
  obtain ⟨n, h, R, V⟩ := id C.1
  refine ⟨_, c_X5_stepFor hj C, fun r1 u1 H1 => ?_⟩
  obtain ⟨h1, rfl⟩ := H1
  refine ⟨_, (c_X6_stepFor hj V).self rfl, fun r2 u2 H2 => ?_⟩
  obtain ⟨h2, rfl⟩ := H2
  exact ⟨h1.trans h2.symm, sim_th C M S1 P⟩
theorem duo_reaches {l : Launch} {G : Gm} (hj : Aj G) {I : Ii} {pm : Pm} (S : SIM I pm) {a b : Int32} : DUO l G yX5_reaches (wz yX5_reaches cX5_reaches 5 (some .int)) (rmL 5) yX6_reaches (wz yX6_reaches cX6_reaches 5 (some .int)) (rmL 6) [.int a, .int b] I pm := by
  obtain ⟨hn, hist, sv, sl, pl, pad, C, M, S1, P⟩ := S
  obtain ⟨n, h, R, V⟩ := id C.1
  refine ⟨_, c_X5_reaches hj C, fun r1 u1 H1 => ?_⟩
  obtain ⟨h1, C1, fc⟩ := H1
  refine ⟨_, (c_X6_reaches hj V).self (show u1.1 17 0 = I 17 0 from funext fun k => fc 17 0 k (by decide)), fun r2 u2 H2 => ?_⟩
  obtain ⟨h2, τ, ia, rfl, ek, f⟩ := H2
  refine ⟨h1.trans h2.symm, ?_⟩
  exact sim_nx C1 (M.fc fc) (S1.f (fun K i c h => fc K i c (by omega))) (P.f (fun K i c h => fc K i c (by omega))) (fun K i c h => f K i c (by omega) (by omega)) (fun i c => ⟨f 16 0 4 (by decide) (by decide), f 19 i c (by omega) (by decide)⟩) (fun K i c h => f K i c (by omega) (by omega)) (fun K i c h => f K i c (by omega) (by omega)) ek
theorem duo_meets {l : Launch} {G : Gm} (hj : Aj G) {I : Ii} {pm : Pm} (S : SIM I pm) {a b : Int32} : DUO l G yX5_meets (wz yX5_meets cX5_meets 6 (some .int)) (rmL 5) yX6_meets (wz yX6_meets cX6_meets 6 (some .int)) (rmL 6) [.int a, .int b] I pm := by
  obtain ⟨hn, hist, sv, sl, pl, pad, C, M, S1, P⟩ := S
  obtain ⟨n, h, R, V⟩ := id C.1
  refine ⟨_, c_X5_meets hj C, fun r1 u1 H1 => ?_⟩
  obtain ⟨h1, C1, fc⟩ := H1
  refine ⟨_, (c_X6_meets hj V).self (show u1.1 17 0 = I 17 0 from funext fun k => fc 17 0 k (by decide)), fun r2 u2 H2 => ?_⟩
  obtain ⟨h2, τ, ia, rfl, ek, f⟩ := H2
  refine ⟨h1.trans h2.symm, ?_⟩
  exact sim_nx C1 (M.fc fc) (S1.f (fun K i c h => fc K i c (by omega))) (P.f (fun K i c h => fc K i c (by omega))) (fun K i c h => f K i c (by omega) (by omega)) (fun i c => ⟨f 16 0 4 (by decide) (by decide), f 19 i c (by omega) (by decide)⟩) (fun K i c h => f K i c (by omega) (by omega)) (fun K i c h => f K i c (by omega) (by omega)) ek
