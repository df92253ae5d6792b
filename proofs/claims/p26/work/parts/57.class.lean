/-! PART 57: addresses; the constructor of the class -/
def layB (B i : Nat) : Nat := if i < 2 then B + 1 + 15 * i else if i < 4 then B + 113 + 15 * i else B + 33 + 15 * (i - 4)
def adB (B : Nat) : Nat → Nat → Nat := fun K i => if K ≤ 6 then layB B i + K else if K = 7 then layB B (i / 8) + 7 + i % 8 else if K = 8 then B else if K = 9 then B + 31 else if K = 10 then B + 32 else if K ≤ 15 then B + 127 + K else B + 157 + K
section AD
variable {G : Gm} {B K i k r : Nat}
theorem ad_lo (h : G.2.2 = adB B) (hK : K ≤ 6) : G.2.2 K i = layB B i + K := by rw [h]; unfold adB; rw [if_pos hK]
theorem ad_7 (h : G.2.2 = adB B) (hr : r < 8) : G.2.2 7 (8 * k + r) = layB B k + 7 + r := by
  rw [h]
  unfold adB
  rw [if_neg (by decide), if_pos rfl, show (8 * k + r) / 8 = k by omega, show (8 * k + r) % 8 = r by omega]
theorem ad_hi (h : G.2.2 = adB B) (h1 : 11 ≤ K) (h2 : K ≤ 15) : G.2.2 K i = B + 127 + K := by
  rw [h]
  unfold adB
  rw [if_neg (by omega), if_neg (by omega), if_neg (by omega), if_neg (by omega), if_neg (by omega), if_pos h2]
theorem ad_rf (h : G.2.2 = adB B) (h1 : 16 ≤ K) : G.2.2 K i = B + 157 + K := by
  rw [h]
  unfold adB
  rw [if_neg (by omega), if_neg (by omega), if_neg (by omega), if_neg (by omega), if_neg (by omega), if_neg (by omega)]
theorem ad_8 (h : G.2.2 = adB B) : G.2.2 8 i = B := by rw [h]; rfl
theorem ad_9 (h : G.2.2 = adB B) : G.2.2 9 i = B + 31 := by rw [h]; rfl
theorem ad_10 (h : G.2.2 = adB B) : G.2.2 10 i = B + 32 := by rw [h]; rfl
end AD
def SZ (X : Nat → Nat → Prop) (t : Nat) : Nat → Nat → Prop := fun K i => X K i ∨ (K = 8 ∧ i = 0) ∨ (K ≤ 6 ∧ i < t) ∨ (K = 7 ∧ i < 8 * t)
def XH (u : Nat) : Nat → Nat → Prop := fun K i => ((9 ≤ K ∧ K ≤ u) ∧ i = 0) ∨ (K ≤ 6 ∧ 4 ≤ i ∧ i < 11) ∨ (K = 7 ∧ 32 ≤ i ∧ i < 88)
def EC (G : Gm) (fs : List Value) (j : Nat) : Nat → Nat → va_E := fun K i => if K = 8 ∧ i = 0 then .inr (5, fs) else if K = 11 ∧ i = 0 then .inl (G.2.1 3, 2, .inr (.inr (.inr (.inr (fun r => if r < j then some (G.2.2 0 (2 + r)) else none))))) else E0 G K i
theorem ec_put {G : Gm} {fs fs' : List Value} {j K i : Nat} : EC G fs' j K i = upE (EC G fs j) 8 0 (.inr (5, fs')) K i := by
  unfold EC upE
  dsimp only
  by_cases q : K = 8 ∧ i = 0
  · rw [if_pos q, if_pos q]
  · rw [if_neg q, if_neg q, if_neg q]
theorem ec_e0 {G : Gm} {fs : List Value} {j K i : Nat} (h : K ≠ 8) (h1 : K ≠ 11) : EC G fs j K i = E0 G K i := by
  unfold EC
  rw [if_neg (fun q => h q.1), if_neg (fun q => h1 q.1)]
/-- one more cell that is as E0 says -/
theorem ec_one {G : Gm} {fs : List Value} {j a b K i : Nat} {v : va_E} (hv : EC G fs j a b = v) : EC G fs j K i = upE (EC G fs j) a b v K i := by
  unfold upE
  try dsimp only
  by_cases q : K = a ∧ i = b
  · rw [if_pos q, q.1, q.2, hv]
  · rw [if_neg q]
section NL
variable {p : Program} {l : Launch} {e : Env} {R : Room} {s : State} {m : MethodId} {args : Array Value} {below : List Frame} {meth : Method} {c : Code} {G : Gm} {A : Nat → Prop} {nL ce sl : Nat} {Q : State → Prop} {sz : Nat} {L : List (Nat × Value)} {pc : Nat} {rest : List Value} {cc : ByteArray}
set_option maxHeartbeats 4000000 in
theorem n_layout (F : FN p s m args c cc nL RX5 G A) (hj : Aj G) {B k : Nat} (hG : G.2.2 = adB B) (hk : k < 4) {X : Nat → Nat → Prop} {EE : Nat → Nat → va_E} (hX : ∀ r, r < 8 → ¬ X 7 (8 * k + r)) (hE : ∀ K i, K ≤ 7 → EE K i = E0 G K i) (hsz : layB B k = sz) (hszA : ∀ q, sz ≤ q → A q) (hR : 3 ≤ R.frames ∧ 75 ≤ R.locals ∧ ce + 1 + 14 ≤ R.cells ∧ sl + 10 + 168 ≤ R.slots ∧ ((Value.ref (G.2.2 0 k) :: rest).map fun v => v.category).sum ≤ 8)
    (d1 : decode cc pc = .ok (.new 9, 3)) (d2 : decode cc (pc + 3) = .ok (.dup, 1)) (d3 : decode cc (pc + 3 + 1) = .ok (.invokespecial 11, 3))
    (kk : GN p l e R s m args below meth c G A nL (ce + 1 + 14) (sl + 10 + 168) Q (SZ X (k + 1)) EE (sz + 1 + 14) L (pc + 3 + 1 + 3) (.ref (G.2.2 0 k) :: rest)) : GN p l e R s m args below meth c G A nL ce sl Q (SZ X k) EE sz L pc rest := by
  have g0 : ∀ K, K ≤ 6 → G.2.2 K k = sz + K := fun K z => by rw [ad_lo hG z, hsz]
  have g7 : ∀ r, r < 8 → G.2.2 7 (8 * k + r) = sz + 1 + 6 + r := fun r z => by rw [ad_7 hG z, hsz]
  refine n_new (K := 0) (i := k) F inlX1 tyX1 tyX1_ok mCL_X5_9 mIS_RX1 mIN_RX1 (ci := 1) (fs := [.null, .null, .null, .int 0, .int 0, .int 0, .int 0, .int 0, .int 0, .int 0]) rfl (by decide) (by omega) (by omega) (by show _ < 11; omega) (g0 0 (by decide)) d1 ?_
  refine n_dup F d2 rfl ?_
  refine n_call F (k_X1 hj (k := k) (by omega) (Or.inr ⟨rfl, rfl⟩) (fun r hr8 h => by
    rcases h with h | ⟨h, -⟩
    · rcases h with h | ⟨h, -⟩ | ⟨h, -⟩ | ⟨-, h1⟩
      · exact hX r hr8 h
      · omega
      · omega
      · omega
    · omega) (by simp [upE]) (g0 1 (by decide)) (g0 2 (by decide)) (g0 3 (by decide)) (g0 4 (by decide)) (g0 5 (by decide)) (g0 6 (by decide)) g7) (gw mCO_yX1_init) mML_X5_11 mIM_yX1_init mIN_RX1 rfl (hszA _ (by rw [g0 0 (by decide)]; exact Nat.le_add_right _ _)) (fun q h => hszA q (by omega)) (by decide +kernel) ⟨rfl, rfl, hR.1, hR.2.1, hR.2.2.1, hR.2.2.2.1, hR.2.2.2.2⟩ d3 ?_
  refine n_mono (S' := SZ X (k + 1)) (E' := EE) (fun K i h => ⟨?_, ?_⟩) kk
  · rcases h with h | h | ⟨h1, h2⟩ | ⟨rfl, h2⟩
    · exact Or.inl (Or.inl (Or.inl h))
    · exact Or.inl (Or.inl (Or.inr (Or.inl h)))
    · by_cases q : i = k
      · by_cases z : K = 0
        · exact Or.inl (Or.inr ⟨z, q⟩)
        · exact Or.inr (Or.inl ⟨⟨by omega, h1⟩, q⟩)
      · exact Or.inl (Or.inl (Or.inr (Or.inr (Or.inl ⟨h1, by omega⟩))))
    · by_cases q : 8 * k ≤ i
      · exact Or.inr (Or.inr ⟨rfl, q, by omega⟩)
      · exact Or.inl (Or.inl (Or.inr (Or.inr (Or.inr ⟨rfl, by omega⟩))))
  · unfold EF upE
    try dsimp only
    by_cases c1 : (K ≤ 6 ∧ i = k) ∨ (K = 7 ∧ 8 * k ≤ i ∧ i < 8 * k + 8)
    · rw [if_pos c1, hE K i (by omega)]
    · rw [if_neg c1, if_neg (by omega)]
end NL
/-- all names of the class -/
def S15 : Nat → Nat → Prop := fun K i => K ≤ 15 ∧ i < cbK K
theorem s15_of {K i : Nat} (h : S15 K i) : SZ (XH 15) 4 K i := by
  obtain ⟨h1, h2⟩ := h
  unfold SZ XH
  rcases (show K = 0 ∨ K = 1 ∨ K = 2 ∨ K = 3 ∨ K = 4 ∨ K = 5 ∨ K = 6 ∨ K = 7 ∨ K = 8 ∨ K = 9 ∨ K = 10 ∨ K = 11 ∨ K = 12 ∨ K = 13 ∨ K = 14 ∨ K = 15 by omega) with rfl | rfl | rfl | rfl | rfl | rfl | rfl | rfl | rfl | rfl | rfl | rfl | rfl | rfl | rfl | rfl <;> simp only [cbK] at h2 <;> omega
theorem ec_end {G : Gm} {K i : Nat} {H : Heap} (h : va_at G.1 vwCl (G.2.2 K i, EC G [.ref (G.2.2 0 0), .ref (G.2.2 0 1), .ref (G.2.2 9 0), .ref (G.2.2 11 0), .ref (G.2.2 12 0), .ref (G.2.2 13 0)] 2 K i) H) : va_at G.1 vwCl (G.2.2 K i, E0 G K i) H := by
  by_cases q1 : K = 11 ∧ i = 0
  · obtain ⟨rfl, rfl⟩ := q1
    have e1 : EC G [.ref (G.2.2 0 0), .ref (G.2.2 0 1), .ref (G.2.2 9 0), .ref (G.2.2 11 0), .ref (G.2.2 12 0), .ref (G.2.2 13 0)] 2 11 0 = .inl (G.2.1 3, 2, .inr (.inr (.inr (.inr (fun r => if r < 2 then some (G.2.2 0 (2 + r)) else none))))) := by simp [EC]
    rw [e1] at h
    exact va_row (fun r hr => if_pos hr) h
  · unfold EC at h
    by_cases q8 : K = 8 ∧ i = 0
    · obtain ⟨rfl, rfl⟩ := q8
      rw [if_pos ⟨rfl, rfl⟩] at h
      exact h
    · rw [if_neg q8, if_neg q1] at h
      exact h
theorem ec_row {G : Gm} {fs : List Value} {j K i : Nat} : EC G fs (j + 1) K i = upE (EC G fs j) 11 0 (.inl (G.2.1 3, 2, .inr (.inr (.inr (.inr (va_up (fun r => if r < j then some (G.2.2 0 (2 + r)) else none) j (some (G.2.2 0 (2 + j))))))))) K i := by
  have key : (fun r => if r < j + 1 then some (G.2.2 0 (2 + r)) else none) = va_up (fun r => if r < j then some (G.2.2 0 (2 + r)) else none) j (some (G.2.2 0 (2 + j))) := by
    funext r
    unfold va_up
    by_cases q : r = j
    · rw [if_pos (by omega), if_pos q, q]
    · rw [if_neg q]
      dsimp only
      by_cases z : r < j
      · rw [if_pos (by omega), if_pos z]
      · rw [if_neg (by omega), if_neg z]
  unfold EC upE
  dsimp only
  by_cases q11 : K = 11 ∧ i = 0
  · rw [if_neg (by omega), if_pos q11, if_pos q11, key]
  · rw [if_neg q11, if_neg q11, if_neg q11]
set_option maxHeartbeats 4000000 in
theorem k_X5 {l : Launch} {G : Gm} (hj : Aj G) {B : Nat} (hG : G.2.2 = adB B) {sz : Nat} (hsz : sz = B + 1) : CN l G yX5_init (wz yX5_init cX5_init 2 none) (rmC 4 172 2061) (G.2.2 8 0) (SZ (fun _ _ => False) 0) (EC G [.null, .null, .null, .null, .null, .null] 0) sz S15 (E0 G) (sz + 172) 172 2061 := by
  subst hsz
  refine CN.walk hj (by decide +kernel) rfl (Nat.le_of_ble_eq_true rfl) ?_
  intro p e s m args below meth c F hr hlk hin hml
  have LOOP : ∀ j, j ≤ 2 → ∀ xj, xj = nI j → GN p l e (rmC 4 172 2061) s m args below meth c G (AQ (G.2.2 8 0) (B + 1)) 2 (142 + 15 * j) (1705 + 178 * j) (MQ below (va_Qv (fun _ : Unit => True) (fun _ t => WQ G S15 (E0 G) (B + 1 + 172) t.heap) (AQ (G.2.2 8 0) (B + 1))) args s 172 2061 (AQ (G.2.2 8 0) (B + 1))) (SZ (XH 15) (2 + j)) (EC G [.ref (G.2.2 0 0), .ref (G.2.2 0 1), .ref (G.2.2 9 0), .ref (G.2.2 11 0), .ref (G.2.2 12 0), .ref (G.2.2 13 0)] j) (B + 143 + 15 * j) [(0, .ref (G.2.2 8 0)), (1, .int xj)] 65 [] := by
    refine dn_ind ?_
    intro j hj8 ih xj ej
    refine n_iload_n F 1 dX5_init_65 rfl rfl ?_
    refine n_iconst (v := 2) F dX5_init_66 (by decide) ?_
    refine n_icmp_ge F 89 dX5_init_67 (by decide) (fun c1 => ?_) (fun c1 => ?_)
    · have n1 := nx_get (a := j) (b := 2) ej rfl (by omega) (by omega) c1
      have e7 : j = 2 := by omega
      subst e7
      exact n_endV F hr hlk (Nat.le_of_ble_eq_true rfl) (Nat.le_of_ble_eq_true rfl) dX5_init_89 (fun H K i h => ⟨s15_of h, ec_end⟩)
    · have n1 := nx_gef (a := j) (b := 2) ej rfl (by omega) (by omega) c1
      refine n_aload_n F 0 dX5_init_70 rfl rfl ?_
      refine n_get (ci := 5) (fs := [.ref (G.2.2 0 0), .ref (G.2.2 0 1), .ref (G.2.2 9 0), .ref (G.2.2 11 0), .ref (G.2.2 12 0), .ref (G.2.2 13 0)]) F inlX5 rfl (Or.inr (Or.inl ⟨rfl, rfl⟩)) (by simp [EC]) 3 (by decide) mFL_X5_26 rfl dX5_init_71 ?_
      refine n_iload_n F 1 dX5_init_74 rfl rfl ?_
      refine n_layout (B := B) (k := 2 + j) F hj hG (by omega) (fun r hr8 h => ?_) (fun K i h => ec_e0 (by omega) (by omega)) (by unfold layB; rw [if_neg (by omega), if_pos (by omega)]; omega) (fun q h => Or.inr (by omega)) ⟨Nat.le_of_ble_eq_true rfl, Nat.le_of_ble_eq_true rfl, (by show _ ≤ 172; omega), (by show _ ≤ 2061; omega), Nat.le_of_ble_eq_true rfl⟩ dX5_init_75 dX5_init_78 dX5_init_79 ?_
      · unfold XH at h
        omega
      refine n_ast (K := 11) (i := 0) (K' := 0) (i' := 2 + j) (t0 := 3) (n := 2) (ci := 1) (f := fun r => if r < j then some (G.2.2 0 (2 + r)) else none) (vs := [.ref (G.2.2 1 (2 + j)), .ref (G.2.2 2 (2 + j)), .ref (G.2.2 6 (2 + j)), .int 0, .int 0, .int 0, .int 0, .int 0, .int 0, .int 0]) F (Or.inl (Or.inl ⟨⟨by decide, by decide⟩, rfl⟩)) (by simp [EC]) rfl (Or.inr (Or.inr (Or.inl ⟨by decide, by omega⟩))) (by simp [EC, E0, cvv]) rfl (vp_in_e ej n1 (by decide)) (Or.inr (by rw [ad_hi hG (by decide) (by decide)]; omega)) dX5_init_82 ?_
      refine n_iinc (v := xj + 1) (L' := [(1, .int (xj + 1)), (0, .ref (G.2.2 8 0))]) F 1 dX5_init_83 rfl rfl (by decide) rfl ?_
      refine n_goto F 65 dX5_init_86 (by decide) ?_
      refine n_sub [1, 0] rfl ?_
      have K1 := ih n1 _ (nx_add ej rfl)
      rw [show B + 143 + 15 * (j + 1) = B + 143 + 15 * j + 1 + 14 by omega, show 142 + 15 * (j + 1) = 142 + 15 * j + 1 + 14 by omega, show 1705 + 178 * (j + 1) = 1705 + 178 * j + 10 + 168 by omega] at K1
      refine n_mono (fun K i h => ⟨h, ?_⟩) K1
      rw [cl_e ej n1 (by decide)]
      exact ec_row
  have hA8 : AQ (G.2.2 8 0) (B + 1) (G.2.2 8 0) := Or.inl rfl
  refine n_aload_n F 0 dX5_init_0 rfl rfl ?_
  refine n_objInit F mML_X5_3 mIM_objectInit mCO_objectInit hml (Nat.le_of_ble_eq_true rfl) (Nat.le_of_ble_eq_true rfl) dX5_init_1 ?_
  refine n_aload_n F 0 dX5_init_4 rfl rfl ?_
  refine n_layout (B := B) (k := 0) F hj hG (by decide) (fun r hr8 h => h) (fun K i h => ec_e0 (by omega) (by omega)) rfl (fun q h => Or.inr h) ⟨Nat.le_of_ble_eq_true rfl, Nat.le_of_ble_eq_true rfl, Nat.le_of_ble_eq_true rfl, Nat.le_of_ble_eq_true rfl, Nat.le_of_ble_eq_true rfl⟩ dX5_init_5 dX5_init_8 dX5_init_9 ?_
  refine n_put (ci := 5) (ty := .object "LocoFrames$Layout") (fs := [.null, .null, .null, .null, .null, .null]) F inlX5 tyX5 tyX5_ok nmX5 rfl (Or.inr (Or.inl ⟨rfl, rfl⟩)) (by simp [EC]) 0 (by decide) mFL_X5_12 (Or.inr ⟨rfl, hin, rfl⟩) (by decide +kernel) rfl rfl (Nat.le_of_ble_eq_true rfl) hA8 dX5_init_12 ?_
  refine n_mono (S' := SZ (fun _ _ => False) 1) (E' := EC G [.ref (G.2.2 0 0), .null, .null, .null, .null, .null] 0) (fun K i h => ⟨h, ec_put⟩) ?_
  refine n_aload_n F 0 dX5_init_15 rfl rfl ?_
  refine n_layout (B := B) (k := 1) F hj hG (by decide) (fun r hr8 h => h) (fun K i h => ec_e0 (by omega) (by omega)) rfl (fun q h => Or.inr (by omega)) ⟨Nat.le_of_ble_eq_true rfl, Nat.le_of_ble_eq_true rfl, Nat.le_of_ble_eq_true rfl, Nat.le_of_ble_eq_true rfl, Nat.le_of_ble_eq_true rfl⟩ dX5_init_16 dX5_init_19 dX5_init_20 ?_
  refine n_put (ci := 5) (ty := .object "LocoFrames$Layout") (fs := [.ref (G.2.2 0 0), .null, .null, .null, .null, .null]) F inlX5 tyX5 tyX5_ok nmX5 rfl (Or.inr (Or.inl ⟨rfl, rfl⟩)) (by simp [EC]) 1 (by decide) mFL_X5_16 (Or.inr ⟨rfl, hin, rfl⟩) (by decide +kernel) rfl rfl (Nat.le_of_ble_eq_true rfl) hA8 dX5_init_23 ?_
  refine n_mono (S' := SZ (fun _ _ => False) 2) (E' := EC G [.ref (G.2.2 0 0), .ref (G.2.2 0 1), .null, .null, .null, .null] 0) (fun K i h => ⟨h, ec_put⟩) ?_
  refine n_aload_n F 0 dX5_init_26 rfl rfl ?_
  refine n_new (K := 9) (i := 0) F inlX0 tyX0 tyX0_ok mCL_X5_19 mIS_RX0 mIN_RX0 (ci := 0) (fs := [.null, .int 0, .int 0]) rfl (fun j hj => by rcases (show j = 0 ∨ j = 1 ∨ j = 2 by omega) with rfl | rfl | rfl <;> rfl) (Nat.le_of_ble_eq_true rfl) (Nat.le_of_ble_eq_true rfl) (by decide) (by rw [ad_9 hG]) dX5_init_27 ?_
  refine n_dup F dX5_init_30 rfl ?_
  refine n_call F (k_X0 hj (Or.inr ⟨rfl, rfl⟩) (fun K i h => by
    rcases h with h | ⟨h, -⟩
    · rcases h with h | ⟨h, -⟩ | ⟨h, h1⟩ | ⟨h, h1⟩
      · exact h.elim
      · omega
      · omega
      · omega
    · omega) (by simp [upE]) (by rw [ad_10 hG]) (fun j hj7 => ⟨by rw [ad_lo hG (by decide)]; unfold layB; rw [if_neg (by omega), if_neg (by omega)]; omega, fun K z1 z2 => by rw [ad_lo hG z2]; unfold layB; rw [if_neg (by omega), if_neg (by omega)]; omega, fun r hr8 => by rw [ad_7 hG hr8]; unfold layB; rw [if_neg (by omega), if_neg (by omega)]; omega⟩)) (gw mCO_yX0_init) mML_X5_21 mIM_yX0_init mIN_RX0 rfl (Or.inr (by rw [ad_9 hG]; omega)) (fun q h => Or.inr (by omega)) (by decide +kernel) ⟨rfl, rfl, Nat.le_of_ble_eq_true rfl, Nat.le_of_ble_eq_true rfl, Nat.le_of_ble_eq_true rfl, Nat.le_of_ble_eq_true rfl, Nat.le_of_ble_eq_true rfl⟩ dX5_init_31 ?_
  refine n_mono (S' := SZ (XH 10) 2) (E' := EC G [.ref (G.2.2 0 0), .ref (G.2.2 0 1), .null, .null, .null, .null] 0) (fun K i h => ⟨?_, ?_⟩) ?_
  · rcases h with h | h | h | h
    · unfold XH at h
      rcases h with ⟨⟨h1, h2⟩, rfl⟩ | h | h
      · rcases (show K = 9 ∨ K = 10 by omega) with rfl | rfl
        · exact Or.inl (Or.inr ⟨rfl, rfl⟩)
        · exact Or.inr (Or.inl ⟨rfl, rfl⟩)
      · exact Or.inr (Or.inr (Or.inl ⟨h.1, h.2.1, h.2.2⟩))
      · exact Or.inr (Or.inr (Or.inr ⟨h.1, h.2.1, h.2.2⟩))
    · exact Or.inl (Or.inl (Or.inr (Or.inl h)))
    · exact Or.inl (Or.inl (Or.inr (Or.inr (Or.inl h))))
    · exact Or.inl (Or.inl (Or.inr (Or.inr (Or.inr h))))
  · try dsimp only
    by_cases q : (K = 9 ∧ i = 0) ∨ (K = 10 ∧ i = 0) ∨ (K ≤ 6 ∧ 4 ≤ i ∧ i < 11) ∨ (K = 7 ∧ 32 ≤ i ∧ i < 88)
    · rw [if_pos q, ec_e0 (by omega) (by omega)]
    · rw [if_neg q]
      unfold upE
      rw [if_neg (by omega)]
  refine n_put (ci := 5) (ty := .object "LocoFrames$History") (fs := [.ref (G.2.2 0 0), .ref (G.2.2 0 1), .null, .null, .null, .null]) F inlX5 tyX5 tyX5_ok nmX5 rfl (Or.inr (Or.inl ⟨rfl, rfl⟩)) (by simp [EC]) 2 (by decide) mFL_X5_22 (Or.inr ⟨rfl, hin, rfl⟩) (by decide +kernel) rfl rfl (Nat.le_of_ble_eq_true rfl) hA8 dX5_init_34 ?_
  refine n_mono (S' := SZ (XH 10) 2) (E' := EC G [.ref (G.2.2 0 0), .ref (G.2.2 0 1), .ref (G.2.2 9 0), .null, .null, .null] 0) (fun K i h => ⟨h, ec_put⟩) ?_
  refine n_aload_n F 0 dX5_init_37 rfl rfl ?_
  refine n_iconst (v := 2) F dX5_init_38 (by decide) ?_
  refine n_newq (K := 11) (i := 0) F mCL_X5_9 F.2.2.1.2.2.2.1 3 rfl (by decide) rfl (Nat.le_of_ble_eq_true rfl) (Nat.le_of_ble_eq_true rfl) (Nat.le_of_ble_eq_true rfl) (by decide) (by rw [ad_hi hG (by decide) (by decide)]) dX5_init_39 ?_
  refine n_mono (S' := SZ (XH 11) 2) (E' := EC G [.ref (G.2.2 0 0), .ref (G.2.2 0 1), .ref (G.2.2 9 0), .null, .null, .null] 0) (fun K i h => ⟨?_, ec_one rfl⟩) ?_
  · unfold adS SZ XH at *
    omega
  refine n_put (ci := 5) (ty := .array (.object "LocoFrames$Layout")) (fs := [.ref (G.2.2 0 0), .ref (G.2.2 0 1), .ref (G.2.2 9 0), .null, .null, .null]) F inlX5 tyX5 tyX5_ok nmX5 rfl (Or.inr (Or.inl ⟨rfl, rfl⟩)) (by simp [EC]) 3 (by decide) mFL_X5_26 (Or.inr ⟨rfl, hin, rfl⟩) (by decide +kernel) rfl rfl (Nat.le_of_ble_eq_true rfl) hA8 dX5_init_42 ?_
  refine n_mono (S' := SZ (XH 11) 2) (E' := EC G [.ref (G.2.2 0 0), .ref (G.2.2 0 1), .ref (G.2.2 9 0), .ref (G.2.2 11 0), .null, .null] 0) (fun K i h => ⟨h, ec_put⟩) ?_
  refine n_aload_n F 0 dX5_init_45 rfl rfl ?_
  refine n_iconst (v := 2) F dX5_init_46 (by decide) ?_
  refine n_newa (ty := .boolean) F rfl mAC_boolean 2 rfl (fun h => h) rfl (K := 12) (i := 0) (by decide) rfl (Nat.le_of_ble_eq_true rfl) (Nat.le_of_ble_eq_true rfl) (Nat.le_of_ble_eq_true rfl) (by decide) (by rw [ad_hi hG (by decide) (by decide)]) dX5_init_47 ?_
  refine n_mono (S' := SZ (XH 12) 2) (E' := EC G [.ref (G.2.2 0 0), .ref (G.2.2 0 1), .ref (G.2.2 9 0), .ref (G.2.2 11 0), .null, .null] 0) (fun K i h => ⟨?_, ec_one rfl⟩) ?_
  · unfold adS SZ XH at *
    omega
  refine n_put (ci := 5) (ty := .array .boolean) (fs := [.ref (G.2.2 0 0), .ref (G.2.2 0 1), .ref (G.2.2 9 0), .ref (G.2.2 11 0), .null, .null]) F inlX5 tyX5 tyX5_ok nmX5 rfl (Or.inr (Or.inl ⟨rfl, rfl⟩)) (by simp [EC]) 4 (by decide) mFL_X5_30 (Or.inr ⟨rfl, hin, rfl⟩) (by decide +kernel) rfl rfl (Nat.le_of_ble_eq_true rfl) hA8 dX5_init_49 ?_
  refine n_mono (S' := SZ (XH 12) 2) (E' := EC G [.ref (G.2.2 0 0), .ref (G.2.2 0 1), .ref (G.2.2 9 0), .ref (G.2.2 11 0), .ref (G.2.2 12 0), .null] 0) (fun K i h => ⟨h, ec_put⟩) ?_
  refine n_aload_n F 0 dX5_init_52 rfl rfl ?_
  refine n_new (K := 13) (i := 0) F inlX3 tyX3 tyX3_ok mCL_X5_34 mIS_RX3 mIN_RX3 (ci := 3) (fs := [.null, .int 0, .int 0, .int 0, .null, .int 0]) rfl (fun j hj => by rcases (show j = 0 ∨ j = 1 ∨ j = 2 ∨ j = 3 ∨ j = 4 ∨ j = 5 by omega) with rfl | rfl | rfl | rfl | rfl | rfl <;> rfl) (Nat.le_of_ble_eq_true rfl) (Nat.le_of_ble_eq_true rfl) (by decide) (by rw [ad_hi hG (by decide) (by decide)]) dX5_init_53 ?_
  refine n_dup F dX5_init_56 rfl ?_
  refine n_callN F (k_X3 hj (Or.inr ⟨rfl, rfl⟩) (by simp [upE]) (by rw [ad_hi hG (by decide) (by decide)]) (by rw [ad_hi hG (by decide) (by decide)])) (gw mCO_yX3_init) F.2.2.1.2.2.1 mIM_yX3_init mIN_RX3 rfl (Or.inr (by rw [ad_hi hG (by decide) (by decide)]; omega)) (fun q h => Or.inr (by omega)) (by decide +kernel) ⟨rfl, rfl, Nat.le_of_ble_eq_true rfl, Nat.le_of_ble_eq_true rfl, Nat.le_of_ble_eq_true rfl, Nat.le_of_ble_eq_true rfl, Nat.le_of_ble_eq_true rfl⟩ dX5_init_57 ?_
  refine n_mono (S' := SZ (XH 15) 2) (E' := EC G [.ref (G.2.2 0 0), .ref (G.2.2 0 1), .ref (G.2.2 9 0), .ref (G.2.2 11 0), .ref (G.2.2 12 0), .null] 0) (fun K i h => ⟨?_, ?_⟩) ?_
  · try dsimp only
    unfold adS SZ XH at *
    omega
  · try dsimp only
    by_cases q : (13 ≤ K ∧ K ≤ 15) ∧ i = 0
    · rw [if_pos q, ec_e0 (by omega) (by omega)]
    · rw [if_neg q]
      unfold upE
      rw [if_neg (by omega)]
  refine n_put (ci := 5) (ty := .object "LocoFrames$Pad") (fs := [.ref (G.2.2 0 0), .ref (G.2.2 0 1), .ref (G.2.2 9 0), .ref (G.2.2 11 0), .ref (G.2.2 12 0), .null]) F inlX5 tyX5 tyX5_ok nmX5 rfl (Or.inr (Or.inl ⟨rfl, rfl⟩)) (by simp [EC]) 5 (by decide) mFL_X5_37 (Or.inr ⟨rfl, hin, rfl⟩) (by decide +kernel) rfl rfl (Nat.le_of_ble_eq_true rfl) hA8 dX5_init_60 ?_
  refine n_mono (S' := SZ (XH 15) (2 + 0)) (E' := EC G [.ref (G.2.2 0 0), .ref (G.2.2 0 1), .ref (G.2.2 9 0), .ref (G.2.2 11 0), .ref (G.2.2 12 0), .ref (G.2.2 13 0)] 0) (fun K i h => ⟨h, ec_put⟩) ?_
  refine n_iconst (v := 0) F dX5_init_63 (by decide) ?_
  refine n_istore_n (L' := [(1, .int 0), (0, .ref (G.2.2 8 0))]) F dX5_init_64 rfl (by decide) rfl ?_
  refine n_sub [1, 0] rfl ?_
  exact LOOP 0 (Nat.zero_le _) _ rfl
