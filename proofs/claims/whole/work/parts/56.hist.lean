/-! PART 56: the constructor of the history -/
def SH (S : Nat → Nat → Prop) (j : Nat) : Nat → Nat → Prop := fun K i => S K i ∨ (K = 10 ∧ i = 0) ∨ (K ≤ 6 ∧ 4 ≤ i ∧ i < 4 + j) ∨ (K = 7 ∧ 32 ≤ i ∧ i < 32 + 8 * j)
def EH (G : Gm) (E : Nat → Nat → va_E) (j : Nat) : Nat → Nat → va_E := fun K i => if K = 9 ∧ i = 0 then E0 G 9 0 else if K = 10 ∧ i = 0 then .inl (G.2.1 3, 7, .inr (.inr (.inr (.inr (fun r => if r < j then some (G.2.2 0 (4 + r)) else none))))) else if (K ≤ 6 ∧ 4 ≤ i ∧ i < 4 + j) ∨ (K = 7 ∧ 32 ≤ i ∧ i < 32 + 8 * j) then E0 G K i else E K i
set_option maxHeartbeats 4000000 in
theorem k_X0 {l : Launch} {G : Gm} (hj : Aj G) {S : Nat → Nat → Prop} {E : Nat → Nat → va_E} {sz : Nat} (h0 : S 9 0) (hn : ∀ K i, S K i → ¬ ((K ≤ 6 ∧ 4 ≤ i) ∨ (K = 7 ∧ 32 ≤ i))) (e0 : E 9 0 = .inr (0, [.null, .int 0, .int 0])) (a10 : G.2.2 10 0 = sz) (aL : ∀ j, j < 7 → G.2.2 0 (4 + j) = sz + 1 + 15 * j ∧ (∀ K, 1 ≤ K → K ≤ 6 → G.2.2 K (4 + j) = sz + 1 + 15 * j + K) ∧ ∀ r, r < 8 → G.2.2 7 (8 * (4 + j) + r) = sz + 1 + 15 * j + 7 + r) : CN l G yX0_init (wz yX0_init cX0_init 2 none) (rmC 3 106 1253) (G.2.2 9 0) S E sz (SH S 7) (fun K i => if (K = 9 ∧ i = 0) ∨ (K = 10 ∧ i = 0) ∨ (K ≤ 6 ∧ 4 ≤ i ∧ i < 11) ∨ (K = 7 ∧ 32 ≤ i ∧ i < 88) then E0 G K i else E K i) (sz + 106) 106 1253 := by
  refine CN.walk hj (by decide +kernel) rfl (Nat.le_of_ble_eq_true rfl) ?_
  intro p e s m args below meth c F hr hlk hin hml
  have LOOP : ∀ j, j ≤ 7 → ∀ xj, xj = nI j → GN p l e (rmC 3 106 1253) s m args below meth c G (AQ (G.2.2 9 0) sz) 2 (1 + 15 * j) (7 + 178 * j) (MQ below (va_Qv (fun _ : Unit => True) (fun _ t => WQ G (SH S 7) (fun K i => if (K = 9 ∧ i = 0) ∨ (K = 10 ∧ i = 0) ∨ (K ≤ 6 ∧ 4 ≤ i ∧ i < 11) ∨ (K = 7 ∧ 32 ≤ i ∧ i < 88) then E0 G K i else E K i) (sz + 106) t.heap) (AQ (G.2.2 9 0) sz)) args s 106 1253 (AQ (G.2.2 9 0) sz)) (SH S j) (EH G E j) (sz + 1 + 15 * j) [(0, .ref (G.2.2 9 0)), (1, .int xj)] 15 [] := by
    refine dn_ind ?_
    intro j hj8 ih xj ej
    refine n_iload_n F 1 dX0_init_15 rfl rfl ?_
    refine n_bipush (v := 7) F dX0_init_16 (by decide) ?_
    refine n_icmp_ge F 40 dX0_init_18 (by decide) (fun c1 => ?_) (fun c1 => ?_)
    · sorry
    · have n1 := nx_gef (a := j) (b := 7) ej rfl (by omega) (by omega) c1
      refine n_aload_n F 0 dX0_init_21 rfl rfl ?_
      refine n_get (ci := 0) (fs := [.ref (G.2.2 10 0), .int 0, .int 0]) F inlX0 rfl (Or.inl h0) (by simp [EH, E0, cvv]) 0 (by decide) mFL_X0_11 rfl dX0_init_22 ?_
      refine n_iload_n F 1 dX0_init_25 rfl rfl ?_
      refine n_new (K := 0) (i := 4 + j) F inlX1 tyX1 tyX1_ok mCL_X0_9 mIS_RX1 mIN_RX1 (ci := 1) (fs := [.null, .null, .null, .int 0, .int 0, .int 0, .int 0, .int 0, .int 0, .int 0]) rfl (by decide) (by show _ ≤ 106; omega) (by show _ ≤ 1253; omega) (by show _ < 11; omega) (aL j n1).1 dX0_init_26 ?_
      sorry
  sorry
