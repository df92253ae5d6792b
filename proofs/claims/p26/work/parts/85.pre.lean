/-! PART 85: the law, from its object on -/
set_option maxHeartbeats 8000000 in
set_option maxRecDepth 100000 in
theorem law_pre {p : Program} {l : Launch} {e : Env} {s : State} {m : MethodId} {below : List Frame} {meth : Method} {c : Code} {G : Gm} {A : Nat → Prop} {b N : Nat} {xs : Nat → Int32} (F : FX p s m #[Value.ref b] c cL_law 14 RL G A) (hj : Aj G) (SC0 : SC s A b N xs) (hA : ∀ q, A q → s.heap.size ≤ q) (hr : meth.sig.returnType = ret) (hlocks : meth.locks = false) : GG p l e room_1 s m #[Value.ref b] below meth c G A 14 173 2067 (lw_Z below #[Value.ref b] s) I0 pm0 [(0, .ref b), (1, .ref (G.2.2 8 0))] 8 [] := by
  obtain ⟨C1, J0⟩ := cr_0
  have n0 : (0 : Int32).toInt.toNat = 0 := rfl
  refine g_aload_n F 1 dL_law_8 rfl rfl ?_
  refine g_callIv (na := 0) F 8 _ (c_X5_undo hj C1) (by decide) rfl rfl lk_L_68 rfl rfl (by decide +kernel) ⟨rfl, rfl, Nat.le_of_ble_eq_true rfl, Nat.le_of_ble_eq_true rfl, Nat.le_of_ble_eq_true rfl, Nat.le_of_ble_eq_true rfl, Nat.le_of_ble_eq_true rfl⟩ dL_law_9 (fun r_9 u_9 h_9 => ?_)
  obtain ⟨rfl, rfl⟩ : r_9 = -5 ∧ u_9 = (I0, pm0) := by
    rcases h_9 with ⟨-, z1, z2⟩ | ⟨z, -⟩
    · exact ⟨z1, z2⟩
    · exact absurd z (Nat.lt_irrefl 0)
  try dsimp only
  refine g_bipush (v := -5) F dL_law_12 (by decide) ?_
  refine g_icmp_ne F 35 dL_law_14 (by decide) (fun c_14 => ?_) (fun c_14 => ?_)
  · exact absurd rfl c_14
  · refine g_aload_n F 1 dL_law_17 rfl rfl ?_
    refine g_iconst (v := 1) F dL_law_18 (by decide) ?_
    refine g_callIv (na := 1) F 8 _ (c_X5_restore hj C1) (by decide) rfl rfl lk_L_56 rfl rfl (by decide +kernel) ⟨rfl, rfl, Nat.le_of_ble_eq_true rfl, Nat.le_of_ble_eq_true rfl, Nat.le_of_ble_eq_true rfl, Nat.le_of_ble_eq_true rfl, Nat.le_of_ble_eq_true rfl⟩ dL_law_19 (fun r_19 u_19 h_19 => ?_)
    obtain ⟨rfl, rfl⟩ : r_19 = -5 ∧ u_19 = (I0, pm0) := by
      rcases h_19 with ⟨z, -⟩ | ⟨-, -, z1, z2⟩ | ⟨-, z, -⟩
      · exact absurd (by decide) z
      · exact ⟨z1, z2⟩
      · exact absurd z (by show ¬ (0 : Int32) = 1; decide)
    try dsimp only
    refine g_bipush (v := -5) F dL_law_22 (by decide) ?_
    refine g_icmp_ne F 35 dL_law_24 (by decide) (fun c_24 => ?_) (fun c_24 => ?_)
    · exact absurd rfl c_24
    · refine g_aload_n F 1 dL_law_27 rfl rfl ?_
      refine g_iconst (v := 0) F dL_law_28 (by decide) ?_
      refine g_callIv (na := 1) F 8 _ (c_X5_save hj C1) (by decide) rfl rfl lk_L_73 rfl rfl (by decide +kernel) ⟨rfl, rfl, Nat.le_of_ble_eq_true rfl, Nat.le_of_ble_eq_true rfl, Nat.le_of_ble_eq_true rfl, Nat.le_of_ble_eq_true rfl, Nat.le_of_ble_eq_true rfl⟩ dL_law_29 (fun r_29 u_29 h_29 => ?_)
      rcases h_29 with ⟨z, -⟩ | ⟨-, rfl, C3, -⟩
      · exact absurd (by decide) z
      rw [n0] at C3
      refine g_if_eq F 37 dL_law_32 (by decide) (fun c_32 => ?_) (fun c_32 => ?_)
      · refine g_aload_n F 1 dL_law_37 rfl rfl ?_
        refine g_callLs (na := 1) F (c_L_told hj C3) lk_L_76 rfl rfl (by decide +kernel) ⟨rfl, rfl, Nat.le_of_ble_eq_true rfl, Nat.le_of_ble_eq_true rfl, Nat.le_of_ble_eq_true rfl, Nat.le_of_ble_eq_true rfl, Nat.le_of_ble_eq_true rfl⟩ dL_law_38 (fun r_38 u_38 h_38 => ?_)
        obtain ⟨rfl, rfl⟩ := h_38
        try dsimp only
        refine g_lstore_n (L' := [(2, _), (0, _), (1, _)]) F dL_law_41 rfl (by decide) rfl ?_
        refine g_iconst (v := 0) F dL_law_42 (by decide) ?_
        refine g_istore (L' := [(4, _), (2, _), (0, _), (1, _)]) F dL_law_43 (by decide) rfl ?_
        refine g_sub [2, 3, 1, 0] rfl ?_
        exact law_loop F hj SC0 hA hr hlocks 0 (Nat.zero_le _) _ rfl _ _ _ _ _ _ _ _ _ _ C3 (if_pos rfl) (if_neg (by decide)) J0 J0 rfl
      · exact absurd rfl c_32
