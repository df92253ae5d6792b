/-! PART 56: the constructor of the history -/
def SH (S : Nat → Nat → Prop) (j : Nat) : Nat → Nat → Prop := fun K i => S K i ∨ (K = 10 ∧ i = 0) ∨ (K ≤ 6 ∧ 4 ≤ i ∧ i < 4 + j) ∨ (K = 7 ∧ 32 ≤ i ∧ i < 32 + 8 * j)
def EH (G : Gm) (E : Nat → Nat → va_E) (j : Nat) : Nat → Nat → va_E := fun K i => if K = 9 ∧ i = 0 then E0 G 9 0 else if K = 10 ∧ i = 0 then .inl (G.2.1 3, 7, .inr (.inr (.inr (.inr (fun r => if r < j then some (G.2.2 0 (4 + r)) else none))))) else if (K ≤ 6 ∧ 4 ≤ i ∧ i < 4 + j) ∨ (K = 7 ∧ 32 ≤ i ∧ i < 32 + 8 * j) then E0 G K i else E K i
theorem eh_e0 {G : Gm} {E : Nat → Nat → va_E} {K i : Nat} {H : Heap} (h : va_at G.1 vwCl (G.2.2 K i, EH G E 7 K i) H) : va_at G.1 vwCl (G.2.2 K i, if (K = 9 ∧ i = 0) ∨ (K = 10 ∧ i = 0) ∨ (K ≤ 6 ∧ 4 ≤ i ∧ i < 11) ∨ (K = 7 ∧ 32 ≤ i ∧ i < 88) then E0 G K i else E K i) H := by
  by_cases q1 : K = 10 ∧ i = 0
  · obtain ⟨rfl, rfl⟩ := q1
    have e1 : EH G E 7 10 0 = .inl (G.2.1 3, 7, .inr (.inr (.inr (.inr (fun r => if r < 7 then some (G.2.2 0 (4 + r)) else none))))) := by simp [EH]
    rw [e1] at h
    rw [if_pos (Or.inr (Or.inl ⟨rfl, rfl⟩))]
    exact va_row (fun r hr => if_pos hr) h
  · have e : EH G E 7 K i = (if (K = 9 ∧ i = 0) ∨ (K = 10 ∧ i = 0) ∨ (K ≤ 6 ∧ 4 ≤ i ∧ i < 11) ∨ (K = 7 ∧ 32 ≤ i ∧ i < 88) then E0 G K i else E K i) := by
      unfold EH
      by_cases c9 : K = 9 ∧ i = 0
      · obtain ⟨rfl, rfl⟩ := c9
        rw [if_pos ⟨rfl, rfl⟩, if_pos (Or.inl ⟨rfl, rfl⟩)]
      · rw [if_neg c9, if_neg q1]
        by_cases c7 : (K ≤ 6 ∧ 4 ≤ i ∧ i < 4 + 7) ∨ (K = 7 ∧ 32 ≤ i ∧ i < 32 + 8 * 7)
        · rw [if_pos c7, if_pos (by omega)]
        · rw [if_neg c7, if_neg (by omega)]
    rw [← e]
    exact h
theorem eh_step {G : Gm} {E : Nat → Nat → va_E} {j K i : Nat} (v : va_E) : EH G E (j + 1) K i = upE (EF G (upE (EH G E j) 0 (4 + j) v) (4 + j)) 10 0 (.inl (G.2.1 3, 7, .inr (.inr (.inr (.inr (va_up (fun r => if r < j then some (G.2.2 0 (4 + r)) else none) j (some (G.2.2 0 (4 + j))))))))) K i := by
  have key : (fun r => if r < j + 1 then some (G.2.2 0 (4 + r)) else none) = va_up (fun r => if r < j then some (G.2.2 0 (4 + r)) else none) j (some (G.2.2 0 (4 + j))) := by
    funext r
    unfold va_up
    by_cases q : r = j
    · rw [if_pos (by omega), if_pos q, q]
    · rw [if_neg q]
      dsimp only
      by_cases z : r < j
      · rw [if_pos (by omega), if_pos z]
      · rw [if_neg (by omega), if_neg z]
  by_cases q10 : K = 10 ∧ i = 0
  · obtain ⟨rfl, rfl⟩ := q10
    unfold EH upE
    rw [if_neg (by omega), if_pos ⟨rfl, rfl⟩, if_pos ⟨rfl, rfl⟩, key]
  · unfold upE EF
    dsimp only
    rw [if_neg q10]
    by_cases c : (K ≤ 6 ∧ i = 4 + j) ∨ (K = 7 ∧ 8 * (4 + j) ≤ i ∧ i < 8 * (4 + j) + 8)
    · rw [if_pos c]
      unfold EH
      rw [if_neg (by omega), if_neg q10, if_pos (by omega)]
    · rw [if_neg c, if_neg (by omega)]
      unfold EH
      by_cases c9 : K = 9 ∧ i = 0
      · rw [if_pos c9, if_pos c9]
      · rw [if_neg c9, if_neg c9, if_neg q10, if_neg q10]
        by_cases c7 : (K ≤ 6 ∧ 4 ≤ i ∧ i < 4 + j) ∨ (K = 7 ∧ 32 ≤ i ∧ i < 32 + 8 * j)
        · rw [if_pos c7, if_pos (by omega)]
        · rw [if_neg c7, if_neg (by omega)]
theorem sh_step {S : Nat → Nat → Prop} {j K i : Nat} (h : SH S (j + 1) K i) : SL (adS (SH S j) 0 (4 + j)) (4 + j) 8 K i := by
  rcases h with h | ⟨rfl, rfl⟩ | ⟨h1, h2, h3⟩ | ⟨rfl, h2, h3⟩
  · exact Or.inl (Or.inl (Or.inl h))
  · exact Or.inl (Or.inl (Or.inr (Or.inl ⟨rfl, rfl⟩)))
  · by_cases q : i = 4 + j
    · by_cases z : K = 0
      · exact Or.inl (Or.inr ⟨z, q⟩)
      · exact Or.inr (Or.inl ⟨⟨by omega, h1⟩, q⟩)
    · exact Or.inl (Or.inl (Or.inr (Or.inr (Or.inl ⟨h1, h2, by omega⟩))))
  · by_cases q : 8 * (4 + j) ≤ i
    · exact Or.inr (Or.inr ⟨rfl, q, by omega⟩)
    · exact Or.inl (Or.inl (Or.inr (Or.inr (Or.inr ⟨rfl, h2, by omega⟩))))
set_option maxHeartbeats 4000000 in
theorem k_X0 {l : Launch} {G : Gm} (hj : Aj G) {S : Nat → Nat → Prop} {E : Nat → Nat → va_E} {sz : Nat} (h0 : S 9 0) (hn : ∀ K i, S K i → ¬ ((K ≤ 6 ∧ 4 ≤ i) ∨ (K = 7 ∧ 32 ≤ i))) (e0 : E 9 0 = .inr (0, [.null, .int 0, .int 0])) (a10 : G.2.2 10 0 = sz) (aL : ∀ j, j < 7 → G.2.2 0 (4 + j) = sz + 1 + 15 * j ∧ (∀ K, 1 ≤ K → K ≤ 6 → G.2.2 K (4 + j) = sz + 1 + 15 * j + K) ∧ ∀ r, r < 8 → G.2.2 7 (8 * (4 + j) + r) = sz + 1 + 15 * j + 7 + r) : CN l G yX0_init (wz yX0_init cX0_init 2 none) (rmC 3 106 1253) (G.2.2 9 0) S E sz (SH S 7) (fun K i => if (K = 9 ∧ i = 0) ∨ (K = 10 ∧ i = 0) ∨ (K ≤ 6 ∧ 4 ≤ i ∧ i < 11) ∨ (K = 7 ∧ 32 ≤ i ∧ i < 88) then E0 G K i else E K i) (sz + 106) 106 1253 := by
  refine CN.walk hj (by decide +kernel) rfl (Nat.le_of_ble_eq_true rfl) ?_
  intro p e s m args below meth c F hr hlk hin hml
  have LOOP : ∀ j, j ≤ 7 → ∀ xj, xj = nI j → GN p l e (rmC 3 106 1253) s m args below meth c G (AQ (G.2.2 9 0) sz) 2 (1 + 15 * j) (7 + 178 * j) (MQ below (va_Qv (fun _ : Unit => True) (fun _ t => WQ G (SH S 7) (fun K i => if (K = 9 ∧ i = 0) ∨ (K = 10 ∧ i = 0) ∨ (K ≤ 6 ∧ 4 ≤ i ∧ i < 11) ∨ (K = 7 ∧ 32 ≤ i ∧ i < 88) then E0 G K i else E K i) (sz + 106) t.heap) (AQ (G.2.2 9 0) sz)) args s 106 1253 (AQ (G.2.2 9 0) sz)) (SH S j) (EH G E j) (sz + 1 + 15 * j) [(0, .ref (G.2.2 9 0)), (1, .int xj)] 15 [] := by
    refine dn_ind ?_
    intro j hj8 ih xj ej
    refine n_iload_n F 1 dX0_init_15 rfl rfl ?_
    refine n_bipush (v := 7) F dX0_init_16 (by decide) ?_
    refine n_icmp_ge F 40 dX0_init_18 (by decide) (fun c1 => ?_) (fun c1 => ?_)
    · have n1 := nx_get (a := j) (b := 7) ej rfl (by omega) (by omega) c1
      have e7 : j = 7 := by omega
      subst e7
      exact n_endV F hr hlk (Nat.le_of_ble_eq_true rfl) (Nat.le_of_ble_eq_true rfl) dX0_init_40 (fun H K i h => ⟨h, eh_e0⟩)
    · have n1 := nx_gef (a := j) (b := 7) ej rfl (by omega) (by omega) c1
      refine n_aload_n F 0 dX0_init_21 rfl rfl ?_
      refine n_get (ci := 0) (fs := [.ref (G.2.2 10 0), .int 0, .int 0]) F inlX0 rfl (Or.inl h0) (by simp [EH, E0, cvv]) 0 (by decide) mFL_X0_11 rfl dX0_init_22 ?_
      refine n_iload_n F 1 dX0_init_25 rfl rfl ?_
      refine n_new (K := 0) (i := 4 + j) F inlX1 tyX1 tyX1_ok mCL_X0_9 mIS_RX1 mIN_RX1 (ci := 1) (fs := [.null, .null, .null, .int 0, .int 0, .int 0, .int 0, .int 0, .int 0, .int 0]) rfl (by decide) (by show _ ≤ 106; omega) (by show _ ≤ 1253; omega) (by show _ < 11; omega) (aL j n1).1 dX0_init_26 ?_
      refine n_dup F dX0_init_29 rfl ?_
      have hL := aL j n1
      have g1 : ∀ K, 1 ≤ K → K ≤ 6 → G.2.2 K (4 + j) = sz + 1 + 15 * j + 1 + (K - 1) := fun K z1 z2 => by rw [hL.2.1 K z1 z2]; omega
      have g7 : ∀ r, r < 8 → G.2.2 7 (8 * (4 + j) + r) = sz + 1 + 15 * j + 1 + 6 + r := fun r hr8 => by have := hL.2.2 r hr8; omega
      refine n_call F (k_X1 hj (k := 4 + j) (by omega) (Or.inr ⟨rfl, rfl⟩) (fun r hr8 h => by
        rcases h with h | ⟨h, -⟩
        · rcases h with h | ⟨h, -⟩ | ⟨h, -⟩ | ⟨-, h1, h2⟩
          · exact hn 7 _ h (Or.inr ⟨rfl, by omega⟩)
          · omega
          · omega
          · omega
        · omega) (by simp [upE]) (g1 1 (by decide) (by decide)) (g1 2 (by decide) (by decide)) (g1 3 (by decide) (by decide)) (g1 4 (by decide) (by decide)) (g1 5 (by decide) (by decide)) (g1 6 (by decide) (by decide)) g7) (gw mCO_yX1_init) mML_X0_17 mIM_yX1_init mIN_RX1 rfl (Or.inr (by rw [hL.1]; omega)) (fun q h => Or.inr (by omega)) (by decide +kernel) ⟨rfl, rfl, Nat.le_of_ble_eq_true rfl, Nat.le_of_ble_eq_true rfl, (by show _ ≤ 106; omega), (by show _ ≤ 1253; omega), Nat.le_of_ble_eq_true rfl⟩ dX0_init_30 ?_
      refine n_ast (K := 10) (i := 0) (K' := 0) (i' := 4 + j) (t0 := 3) (n := 7) (ci := 1) (f := fun r => if r < j then some (G.2.2 0 (4 + r)) else none) (vs := [.ref (G.2.2 1 (4 + j)), .ref (G.2.2 2 (4 + j)), .ref (G.2.2 6 (4 + j)), .int 0, .int 0, .int 0, .int 0, .int 0, .int 0, .int 0]) F (Or.inl (Or.inl (Or.inr (Or.inl ⟨rfl, rfl⟩)))) (by simp [EF, upE, EH]) rfl (Or.inl (Or.inr ⟨rfl, rfl⟩)) (by simp [EF, E0, cvv]) rfl (vp_in_e ej n1 (by decide)) (Or.inr (by rw [a10]; exact Nat.le_refl _)) dX0_init_33 ?_
      refine n_iinc (v := xj + 1) (L' := [(1, .int (xj + 1)), (0, .ref (G.2.2 9 0))]) F 1 dX0_init_34 rfl rfl (by decide) rfl ?_
      refine n_goto F 15 dX0_init_37 (by decide) ?_
      refine n_sub [1, 0] rfl ?_
      have K1 := ih n1 _ (nx_add ej rfl)
      rw [show sz + 1 + 15 * (j + 1) = sz + 1 + 15 * j + 1 + 14 by omega, show 1 + 15 * (j + 1) = 1 + 15 * j + 1 + 14 by omega, show 7 + 178 * (j + 1) = 7 + 178 * j + 10 + 168 by omega] at K1
      refine n_mono (S' := SH S (j + 1)) (E' := EH G E (j + 1)) (fun K i h => ⟨sh_step h, ?_⟩) K1
      rw [cl_e ej n1 (by decide)]
      exact eh_step _
  refine n_aload_n F 0 dX0_init_0 rfl rfl ?_
  refine n_objInit F mML_X0_3 mIM_objectInit mCO_objectInit hml (Nat.le_of_ble_eq_true rfl) (Nat.le_of_ble_eq_true rfl) dX0_init_1 ?_
  refine n_aload_n F 0 dX0_init_4 rfl rfl ?_
  refine n_bipush (v := 7) F dX0_init_5 (by decide) ?_
  refine n_newq (K := 10) (i := 0) F mCL_X0_9 F.2.2.1.2.2.2.1 3 rfl (by decide) rfl (Nat.le_of_ble_eq_true rfl) (Nat.le_of_ble_eq_true rfl) (Nat.le_of_ble_eq_true rfl) (by decide) a10 dX0_init_7 ?_
  refine n_put (ci := 0) (ty := .array (.object "LocoFrames$Layout")) (fs := [.null, .int 0, .int 0]) F inlX0 tyX0 tyX0_ok nmX0 rfl (Or.inl h0) (by simp [upE, e0]) 0 (by decide) mFL_X0_11 (Or.inr ⟨rfl, hin, rfl⟩) (by decide +kernel) rfl rfl (Nat.le_of_ble_eq_true rfl) (Or.inl rfl) dX0_init_10 ?_
  refine n_iconst (v := 0) F dX0_init_13 (by decide) ?_
  refine n_istore_n (L' := [(1, .int 0), (0, .ref (G.2.2 9 0))]) F dX0_init_14 rfl (by decide) rfl ?_
  refine n_sub [1, 0] rfl ?_
  refine n_mono (S' := SH S 0) (E' := EH G E 0) (fun K i h => ⟨?_, ?_⟩) (LOOP 0 (Nat.zero_le _) _ rfl)
  · rcases h with h | h | ⟨-, h1, h2⟩ | ⟨-, h1, h2⟩
    · exact Or.inl h
    · exact Or.inr h
    · omega
    · omega
  · unfold EH upE
    by_cases c9 : K = 9 ∧ i = 0
    · rw [if_pos c9, if_pos c9]
      rfl
    · rw [if_neg c9, if_neg c9]
      by_cases c10 : K = 10 ∧ i = 0
      · rw [if_pos c10, if_pos c10]
        rfl
      · rw [if_neg c10, if_neg c10, if_neg (by omega)]
