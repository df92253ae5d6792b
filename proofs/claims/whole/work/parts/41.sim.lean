/-! PART 41: class and reference, side by side -/
theorem Rp.c164 {n h : Nat} {I : Ii} {pm : Pm} {k : Nat} {σ τ : Sg} (R : Rp n h I pm k σ) (e : ∀ j, j < 164 → τ j = σ j) : Rp n h I pm k τ := by
  obtain ⟨⟨a1, a2, a3, a4, a5, a6, a7, a8⟩, b, c, d, e1, e2, e3, e4, e5, e6⟩ := R
  refine ⟨⟨?_, ?_, ?_, ?_, ?_, ?_, ?_, ?_⟩, fun b' hb => ?_, fun r f hr hf => ?_, fun j hj => ?_, e1, e2, ?_, e4, ?_, e6⟩
  · rw [e _ (by decide)]; exact a1
  · rw [e _ (by decide)]; exact a2
  · rw [e _ (by decide)]; exact a3
  · rw [e _ (by decide)]; exact a4
  · rw [e _ (by decide)]; exact a5
  · rw [e _ (by decide)]; exact a6
  · rw [e _ (by decide)]; exact a7
  · rw [e _ (by decide)]; exact a8
  · rw [e _ (by omega)]; exact b b' hb
  · rw [e _ (by omega)]; exact c r f hr hf
  · rw [e _ (by omega), e _ (by omega), e _ (by omega)]; exact d j hj
  · rw [e _ (by decide)]; exact e3
  · rw [e _ (by decide)]; exact e5
theorem LcOk.c164 {σ τ : Sg} {r : Nat} (h : LcOk σ r) (hr : r < 8) (e : ∀ j, j < 164 → τ j = σ j) : LcOk τ r := h.cong (fun f hf => e _ (by omega))
theorem Iv.c164 {n h : Nat} {σ τ : Sg} (V : Iv n h σ) (e : ∀ j, j < 164 → τ j = σ j) : Iv n h τ := by
  obtain ⟨v1, v2, v3, v4, v5, v6, v7, v8⟩ := V
  refine ⟨by rw [e _ (by decide)]; exact v1, v2, by rw [e _ (by decide)]; exact v3, v4, fun r hr => (v5 r hr).c164 (by omega) e, fun b hb => by rw [e _ (by omega)]; exact v6 b hb, by rw [e _ (by decide)]; exact v7, fun j hj => by rw [e _ (by omega), e _ (by omega)]; exact v8 j hj⟩
theorem RpS.c164 {I : Ii} {pm : Pm} {k : Nat} {σ τ : Sg} (R : RpS I pm k σ) (e : ∀ j, j < 164 → τ j = σ j) : RpS I pm k τ := by
  obtain ⟨n, h, R, V⟩ := R
  exact ⟨n, h, R.c164 e, V.c164 e⟩
section SIMS
variable {I I' ia ib : Ii} {pm : Pm} {σ τ : Sg} {hn : Nat} {hist : Nat → Sg} {sv : Nat → Int32} {sl : Nat → Sg} {pl : Nat} {pad : Sg}
theorem CR.c164 (C : CR I pm σ hn hist sv sl pl pad) (e : ∀ j, j < 164 → τ j = σ j) : CR I pm τ hn hist sv sl pl pad := ⟨C.1.c164 e, C.2⟩
theorem CR.k16 (C : CR I pm σ hn hist sv sl pl pad) (f : ∀ K i c, K < 16 → I' K i c = I K i c) : CR I' pm σ hn hist sv sl pl pad := by
  obtain ⟨R0, ⟨a, ha, ea, hh⟩, en, h6, c1, c2, c3, c4, c5⟩ := C
  have oc : ∀ (k : Nat) (s : Sg), RpS I pm k s → RpS I' pm k s := fun k s q => q.cong (fun K i c hL => f K i c (by have := inL_le hL; omega)) (fun _ => rfl)
  exact ⟨oc _ _ R0, ⟨a, ha, (f 9 0 1 (by decide)).trans ea, fun i hi => oc _ _ (hh i hi)⟩, (f 9 0 2 (by decide)).trans en, h6, fun i hi => ⟨(f 12 0 i (by decide)).trans (c1 i hi).1, (c1 i hi).2.1, fun q => oc _ _ ((c1 i hi).2.2 q)⟩, (f 13 0 1 (by decide)).trans c2, c3, fun i hi => (f 14 0 i (by decide)).trans (c4 i hi), c5⟩
def MS (I : Ii) (sv : Nat → Int32) (sl : Nat → Sg) : Prop := ∀ i, i < 2 → I 21 0 i = sv i ∧ (sv i = 1 → ∀ k, k < 164 → I 20 0 (164 * i + k) = sl i k)
def SIMx (I : Ii) (pm : Pm) (σ : Sg) (hn : Nat) (hist : Nat → Sg) (sv : Nat → Int32) (sl : Nat → Sg) (pl : Nat) (pad : Sg) : Prop := CR I pm σ hn hist sv sl pl pad ∧ MXH I hn hist ∧ MS I sv sl ∧ MP I pl pad ∧ ∀ k, k < 164 → I 17 0 k = σ k
def SIM (I : Ii) (pm : Pm) : Prop := ∃ hn hist sv sl pl pad, CR I pm (I 17 0) hn hist sv sl pl pad ∧ MXH I hn hist ∧ MS I sv sl ∧ MP I pl pad
theorem SIMx.s (h : SIMx I pm σ hn hist sv sl pl pad) : SIM I pm := ⟨hn, hist, sv, sl, pl, pad, h.1.c164 h.2.2.2.2, h.2.1, h.2.2.1, h.2.2.2.1⟩
theorem MXH.fc (M : MXH I hn hist) (f : ∀ K i c, 16 ≤ K → I' K i c = I K i c) : MXH I' hn hist := ⟨(f _ _ _ (by decide)).trans M.1, M.2.1, fun i hi k hk => (f _ _ _ (by decide)).trans (M.2.2 i hi k hk)⟩
theorem MXH.up (M : MXH I hn hist) : MXH (upR I 17 0 τ) hn hist := ⟨(rd16 (by decide)).trans M.1, M.2.1, fun i hi k hk => (rd16 (by decide)).trans (M.2.2 i hi k hk)⟩
theorem MS.f (M : MS I sv sl) (f : ∀ K i c, (K = 20 ∨ K = 21) → I' K i c = I K i c) : MS I' sv sl := fun i hi => ⟨(f _ _ _ (Or.inr rfl)).trans (M i hi).1, fun q k hk => (f _ _ _ (Or.inl rfl)).trans ((M i hi).2 q k hk)⟩
theorem MP.f (P : MP I pl pad) (f : ∀ K i c, (K = 22 ∨ (K = 16 ∧ c = 8)) → I' K i c = I K i c) : MP I' pl pad := ⟨(f _ _ _ (Or.inr ⟨rfl, rfl⟩)).trans P.1, P.2.1, fun i hi => (f _ _ _ (Or.inl rfl)).trans (P.2.2 i hi)⟩
/-- a class's change of I to u, then the reference's to upR ia 17 0 τ -/
theorem FM.k16 (f : FM I ia) {K i c : Nat} (h : K < 16) : upR ia 17 0 τ K i c = I K i c := (rd16 (by omega)).trans (f K i c (by omega) (by omega) (by omega))
end SIMS
/-- class's and reference's call, one behind the other -/
def DUO (l : Launch) (G : Gm) (yA : MethodName) (wA : List Cond) (rA : Room) (yB : MethodName) (wB : List Cond) (rB : Room) (av : List Value) (I : Ii) (pm : Pm) : Prop :=
  ∃ P1, CI l G yA wA rA (.ref (G.2.2 8 0) :: av) I pm P1 ∧ ∀ r1 u1, P1 r1 u1 → ∃ P2, CI l G yB wB rB (.ref (G.2.2 16 0) :: av) u1.1 u1.2 P2 ∧ ∀ r2 u2, P2 r2 u2 → r1 = r2 ∧ SIM u2.1 u2.2
theorem CI.self {l : Launch} {G : Gm} {y : MethodName} {ws : List Cond} {rm : Room} {av : List Value} {I : Ii} {pm : Pm} {P : Int32 → Ii × Pm → Prop} {σ : Sg} (h : CI l G y ws rm av (upR I 17 0 σ) pm P) (e : I 17 0 = σ) : CI l G y ws rm av I pm P := by
  rw [← e, upR_self] at h
  exact h
/-- what a change comes to, on both sides -/
theorem chg_mch {I : Ii} {σ : Sg} {hn : Nat} {hist : Nat → Sg} {sv : Nat → Int32} {sl : Nat → Sg} {pl : Nat} {pad : Sg} {q q' : Int32 × Sg} {r1 r2 : Int32} {u1 u2 : Ii × Pm} (eq : q = q') (e17 : I 17 0 = σ) (hM : MXH I hn hist) (hS : MS I sv sl) (hP : MP I pl pad) (hne : q.1 < 0 → q.2 = σ) (H1 : CHG I u1 r1 q σ hn hist sv sl pl pad) (H2 : MCH u1.1 u1.2 u2 r2 q' σ hn hist) : r1 = r2 ∧ SIM u2.1 u2.2 := by
  subst eq
  obtain ⟨h1, h2, fc⟩ := H1
  obtain ⟨g1, ia, rfl, fm, g2⟩ := H2
  refine ⟨h1.trans g1.symm, ?_⟩
  have k16 : ∀ K i c, K < 16 → upR ia 17 0 q.2 K i c = u1.1 K i c := fun K i c h => fm.k16 h
  have S2 : MS (upR ia 17 0 q.2) sv sl := hS.f (fun K i c h => (rd16 (by omega)).trans ((fm K i c (by omega) (by omega) (by omega)).trans (fc K i c (by omega))))
  have P2 : MP (upR ia 17 0 q.2) pl pad := hP.f (fun K i c h => (rd16 (by omega)).trans ((fm K i c (by omega) (by omega) (by omega)).trans (fc K i c (by omega))))
  rcases h2 with ⟨a, C⟩ | ⟨a, C⟩
  · rcases g2 with ⟨-, M⟩ | ⟨b, -⟩
    · exact SIMx.s ⟨(C.k16 k16), M.up, S2, P2, fun k hk => (show upR ia 17 0 q.2 17 0 k = σ k by rw [rd17, hne a])⟩
    · exact absurd a b
  · rcases g2 with ⟨b, -⟩ | ⟨-, M⟩
    · exact absurd b a
    · exact SIMx.s ⟨(C.k16 k16), M.up, S2, P2, fun k hk => (show upR ia 17 0 q.2 17 0 k = q.2 k from rd17)⟩
theorem locoR.fn {a b c d : Int32} {σ : Sg} {q q' : Int32 × Sg} (H : locoR a b c d σ q) (H' : locoR a b c d σ q') : q = q' := by
  rcases H with ⟨k0, rfl⟩ | ⟨k0, k1, rfl⟩ | ⟨k0, k1, k2, rfl⟩ | ⟨k0, k1, k2, rfl⟩
  all_goals
    rcases H' with ⟨y0, rfl⟩ | ⟨y0, y1, rfl⟩ | ⟨y0, y1, y2, rfl⟩ | ⟨y0, y1, y2, rfl⟩
    all_goals first
    | rfl
    | contradiction
    | omega
theorem locoR.ne {a b c d : Int32} {σ : Sg} {q : Int32 × Sg} {n h : Nat} (V : Iv n h σ) (H : locoR a b c d σ q) (hq : q.1 < 0) : q.2 = σ := (locoR.ok V H).elim (fun e => e.2) (fun e => absurd hq e.1)
theorem liftR.fn {a : Int32} {σ : Sg} {q q' : Int32 × Sg} (H : liftR a σ q) (H' : liftR a σ q') : q = q' := by
  rcases H with ⟨k0, rfl⟩ | ⟨k0, rfl⟩
  all_goals
    rcases H' with ⟨y0, rfl⟩ | ⟨y0, rfl⟩
    all_goals first
    | rfl
    | contradiction
    | omega
theorem liftR.ne {a : Int32} {σ : Sg} {q : Int32 × Sg} {n h : Nat} (V : Iv n h σ) (H : liftR a σ q) (hq : q.1 < 0) : q.2 = σ := (liftR.ok V H).elim (fun e => e.2) (fun e => absurd hq e.1)
theorem noiseR.fn {x : Int32} {σ : Sg} {q q' : Int32 × Sg} (H : noiseR x σ q) (H' : noiseR x σ q') : q = q' := by
  rcases H with ⟨k0, rfl⟩ | ⟨k0, rfl⟩
  all_goals
    rcases H' with ⟨y0, rfl⟩ | ⟨y0, rfl⟩
    all_goals first
    | rfl
    | contradiction
    | omega
theorem noiseR.ne {x : Int32} {σ : Sg} {q : Int32 × Sg} {n h : Nat} (V : Iv n h σ) (H : noiseR x σ q) (hq : q.1 < 0) : q.2 = σ := (noiseR.ok V H).elim (fun e => e.2) (fun e => absurd hq e.1)
theorem ordR.fn {a d t : Int32} {σ : Sg} {q q' : Int32 × Sg} (H : ordR a d t σ q) (H' : ordR a d t σ q') : q = q' := by
  rcases H with ⟨k0, rfl⟩ | ⟨k0, k1, rfl⟩ | ⟨k0, k1, rfl⟩
  all_goals
    rcases H' with ⟨y0, rfl⟩ | ⟨y0, y1, rfl⟩ | ⟨y0, y1, rfl⟩
    all_goals first
    | rfl
    | contradiction
    | omega
theorem ordR.ne {a d t : Int32} {σ : Sg} {q : Int32 × Sg} {n h : Nat} (V : Iv n h σ) (H : ordR a d t σ q) (hq : q.1 < 0) : q.2 = σ := (ordR.ok V H).elim (fun e => e.2) (fun e => absurd hq e.1)
theorem frmR.fn {a d c : Int32} {σ : Sg} {q q' : Int32 × Sg} (H : frmR a d c σ q) (H' : frmR a d c σ q') : q = q' := by
  rcases H with ⟨k0, rfl⟩ | ⟨k0, rfl⟩
  all_goals
    rcases H' with ⟨y0, rfl⟩ | ⟨y0, rfl⟩
    all_goals first
    | rfl
    | contradiction
    | omega
theorem frmR.ne {a d c : Int32} {σ : Sg} {q : Int32 × Sg} {n h : Nat} (V : Iv n h σ) (H : frmR a d c σ q) (hq : q.1 < 0) : q.2 = σ := (frmR.ok V H).elim (fun e => e.2) (fun e => absurd hq e.1)
theorem shoR.fn {b t : Int32} {σ : Sg} {q q' : Int32 × Sg} (H : shoR b t σ q) (H' : shoR b t σ q') : q = q' := by
  rcases H with ⟨k0, rfl⟩ | ⟨k0, k1, rfl⟩ | ⟨k0, k1, rfl⟩
  all_goals
    rcases H' with ⟨y0, rfl⟩ | ⟨y0, y1, rfl⟩ | ⟨y0, y1, rfl⟩
    all_goals first
    | rfl
    | contradiction
    | omega
theorem shoR.ne {b t : Int32} {σ : Sg} {q : Int32 × Sg} {n h : Nat} (V : Iv n h σ) (H : shoR b t σ q) (hq : q.1 < 0) : q.2 = σ := (shoR.ok V H).elim (fun e => e.2) (fun e => absurd hq e.1)
theorem pasR.fn {x : Int32} {σ : Sg} {q q' : Int32 × Sg} (H : pasR x σ q) (H' : pasR x σ q') : q = q' := by
  rcases H with ⟨k0, rfl⟩ | ⟨k0, k1, rfl⟩ | ⟨k0, k1, rfl⟩
  all_goals
    rcases H' with ⟨y0, rfl⟩ | ⟨y0, y1, rfl⟩ | ⟨y0, y1, rfl⟩
    all_goals first
    | rfl
    | contradiction
    | omega
theorem pasR.ne {x : Int32} {σ : Sg} {q : Int32 × Sg} {n h : Nat} (V : Iv n h σ) (H : pasR x σ q) (hq : q.1 < 0) : q.2 = σ := (pasR.ok V H).elim (fun e => e.2) (fun e => absurd hq e.1)
theorem duo_loco {l : Launch} {G : Gm} (hj : Aj G) {I : Ii} {pm : Pm} (S : SIM I pm) {a b c0 d : Int32} : DUO l G yX5_loco (wz yX5_loco cX5_loco 5 (some .int)) (rmL 4) yX6_loco (wz yX6_loco cX6_loco 7 (some .int)) (rmL 2) [.int a, .int b, .int c0, .int d] I pm := by
  obtain ⟨hn, hist, sv, sl, pl, pad, C, M, S1, P⟩ := S
  obtain ⟨n, h, R, V⟩ := id C.1
  refine ⟨_, c_X5_loco hj C, fun r1 u1 H1 => ?_⟩
  obtain ⟨q, hq, H1⟩ := H1
  have fc := H1.2.2
  refine ⟨_, (c_X6_loco hj V (M.fc fc)).self (show u1.1 17 0 = I 17 0 from funext fun k => fc 17 0 k (by decide)), fun r2 u2 H2 => ?_⟩
  obtain ⟨q', hq', H2⟩ := H2
  exact chg_mch (locoR.fn hq hq') rfl M S1 P (locoR.ne V hq) H1 H2
theorem duo_lift {l : Launch} {G : Gm} (hj : Aj G) {I : Ii} {pm : Pm} (S : SIM I pm) {a : Int32} : DUO l G yX5_lift (wz yX5_lift cX5_lift 2 (some .int)) (rmL 4) yX6_lift (wz yX6_lift cX6_lift 4 (some .int)) (rmL 2) [.int a] I pm := by
  obtain ⟨hn, hist, sv, sl, pl, pad, C, M, S1, P⟩ := S
  obtain ⟨n, h, R, V⟩ := id C.1
  refine ⟨_, c_X5_lift hj C, fun r1 u1 H1 => ?_⟩
  obtain ⟨q, hq, H1⟩ := H1
  have fc := H1.2.2
  refine ⟨_, (c_X6_lift hj V (M.fc fc)).self (show u1.1 17 0 = I 17 0 from funext fun k => fc 17 0 k (by decide)), fun r2 u2 H2 => ?_⟩
  obtain ⟨q', hq', H2⟩ := H2
  exact chg_mch (liftR.fn hq hq') rfl M S1 P (liftR.ne V hq) H1 H2
theorem duo_noise {l : Launch} {G : Gm} (hj : Aj G) {I : Ii} {pm : Pm} (S : SIM I pm) {x : Int32} : DUO l G yX5_noise (wz yX5_noise cX5_noise 2 (some .int)) (rmL 4) yX6_noise (wz yX6_noise cX6_noise 3 (some .int)) (rmL 1) [.int x] I pm := by
  obtain ⟨hn, hist, sv, sl, pl, pad, C, M, S1, P⟩ := S
  obtain ⟨n, h, R, V⟩ := id C.1
  refine ⟨_, c_X5_noise hj C, fun r1 u1 H1 => ?_⟩
  obtain ⟨q, hq, H1⟩ := H1
  have fc := H1.2.2
  refine ⟨_, (c_X6_noise hj V (M.fc fc)).self (show u1.1 17 0 = I 17 0 from funext fun k => fc 17 0 k (by decide)), fun r2 u2 H2 => ?_⟩
  obtain ⟨q', hq', H2⟩ := H2
  exact chg_mch (noiseR.fn hq hq') rfl M S1 P (noiseR.ne V hq) H1 H2
theorem duo_order {l : Launch} {G : Gm} (hj : Aj G) {I : Ii} {pm : Pm} (S : SIM I pm) {a d t : Int32} : DUO l G yX5_order (wz yX5_order cX5_order 4 (some .int)) (rmL 4) yX6_order (wz yX6_order cX6_order 5 (some .int)) (rmL 2) [.int a, .int d, .int t] I pm := by
  obtain ⟨hn, hist, sv, sl, pl, pad, C, M, S1, P⟩ := S
  obtain ⟨n, h, R, V⟩ := id C.1
  refine ⟨_, c_X5_order hj C, fun r1 u1 H1 => ?_⟩
  obtain ⟨q, hq, H1⟩ := H1
  have fc := H1.2.2
  refine ⟨_, (c_X6_order hj V (M.fc fc)).self (show u1.1 17 0 = I 17 0 from funext fun k => fc 17 0 k (by decide)), fun r2 u2 H2 => ?_⟩
  obtain ⟨q', hq', H2⟩ := H2
  exact chg_mch (ordR.fn hq hq') rfl M S1 P (ordR.ne V hq) H1 H2
theorem duo_frame {l : Launch} {G : Gm} (hj : Aj G) {I : Ii} {pm : Pm} (S : SIM I pm) {a d t : Int32} : DUO l G yX5_frame (wz yX5_frame cX5_frame 4 (some .int)) (rmL 4) yX6_frame (wz yX6_frame cX6_frame 5 (some .int)) (rmL 4) [.int a, .int d, .int t] I pm := by
  obtain ⟨hn, hist, sv, sl, pl, pad, C, M, S1, P⟩ := S
  obtain ⟨n, h, R, V⟩ := id C.1
  refine ⟨_, c_X5_frame hj C, fun r1 u1 H1 => ?_⟩
  obtain ⟨q, hq, H1⟩ := H1
  have fc := H1.2.2
  refine ⟨_, (c_X6_frame hj V (M.fc fc)).self (show u1.1 17 0 = I 17 0 from funext fun k => fc 17 0 k (by decide)), fun r2 u2 H2 => ?_⟩
  obtain ⟨q', hq', H2⟩ := H2
  exact chg_mch (frmR.fn hq hq') rfl M S1 P (frmR.ne V hq) H1 H2
theorem duo_shorts {l : Launch} {G : Gm} (hj : Aj G) {I : Ii} {pm : Pm} (S : SIM I pm) {b t : Int32} : DUO l G yX5_shorts (wz yX5_shorts cX5_shorts 3 (some .int)) (rmL 4) yX6_shorts (wz yX6_shorts cX6_shorts 5 (some .int)) (rmL 2) [.int b, .int t] I pm := by
  obtain ⟨hn, hist, sv, sl, pl, pad, C, M, S1, P⟩ := S
  obtain ⟨n, h, R, V⟩ := id C.1
  refine ⟨_, c_X5_shorts hj C, fun r1 u1 H1 => ?_⟩
  obtain ⟨q, hq, H1⟩ := H1
  have fc := H1.2.2
  refine ⟨_, (c_X6_shorts hj V (M.fc fc)).self (show u1.1 17 0 = I 17 0 from funext fun k => fc 17 0 k (by decide)), fun r2 u2 H2 => ?_⟩
  obtain ⟨q', hq', H2⟩ := H2
  exact chg_mch (shoR.fn hq hq') rfl M S1 P (shoR.ne V hq) H1 H2
theorem duo_pass {l : Launch} {G : Gm} (hj : Aj G) {I : Ii} {pm : Pm} (S : SIM I pm) {x : Int32} : DUO l G yX5_pass (wz yX5_pass cX5_pass 2 (some .int)) (rmL 6) yX6_pass (wz yX6_pass cX6_pass 3 (some .int)) (rmL 7) [.int x] I pm := by
  obtain ⟨hn, hist, sv, sl, pl, pad, C, M, S1, P⟩ := S
  obtain ⟨n, h, R, V⟩ := id C.1
  refine ⟨_, c_X5_pass hj C, fun r1 u1 H1 => ?_⟩
  obtain ⟨q, hq, H1⟩ := H1
  have fc := H1.2.2
  refine ⟨_, (c_X6_pass hj V (M.fc fc)).self (show u1.1 17 0 = I 17 0 from funext fun k => fc 17 0 k (by decide)), fun r2 u2 H2 => ?_⟩
  obtain ⟨q', hq', H2⟩ := H2
  exact chg_mch (pasR.fn hq hq') rfl M S1 P (pasR.ne V hq) H1 H2
