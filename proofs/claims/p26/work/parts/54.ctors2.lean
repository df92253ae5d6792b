/-! PART 54: constructors of Pad and of the reference -/
set_option maxHeartbeats 4000000 in
theorem k_X3 {l : Launch} {G : Gm} (hj : Aj G) {S : Nat → Nat → Prop} {E : Nat → Nat → va_E} {sz : Nat} (h0 : S 13 0) (e0 : E 13 0 = .inr (3, [.null, .int 0, .int 0, .int 0, .null, .int 0])) (a14 : G.2.2 14 0 = sz) (a15 : G.2.2 15 0 = sz + 1) : CN l G yX3_init (wz yX3_init cX3_init 1 none) (rmC 1 2 83) (G.2.2 13 0) S E sz (fun K i => S K i ∨ ((14 ≤ K ∧ K ≤ 15) ∧ i = 0)) (fun K i => if (13 ≤ K ∧ K ≤ 15) ∧ i = 0 then E0 G K i else E K i) (sz + 2) 2 83 := by
  refine CN.walk hj (by decide +kernel) rfl (Nat.le_refl _) ?_
  intro p e s m args below meth c F hr hlk hin hml
  refine n_aload_n F 0 dX3_init_0 rfl rfl ?_
  refine n_objInit F mML_X3_3 mIM_objectInit mCO_objectInit hml (Nat.le_of_ble_eq_true rfl) (Nat.le_of_ble_eq_true rfl) dX3_init_1 ?_
  refine n_aload_n F 0 dX3_init_4 rfl rfl ?_
  refine n_bipush (v := 80) F dX3_init_5 (by decide) ?_
  refine n_newa (ty := .char) F rfl mAC_char 0 rfl (fun h => h) rfl (K := 14) (i := 0) (by decide) rfl (Nat.le_of_ble_eq_true rfl) (Nat.le_of_ble_eq_true rfl) (Nat.le_of_ble_eq_true rfl) (by decide) a14 dX3_init_7 ?_
  refine n_put (ci := 3) (ty := .array .char) (fs := [.null, .int 0, .int 0, .int 0, .null, .int 0]) F inlX3 tyX3 tyX3_ok nmX3 rfl (Or.inl h0) (by simp [upE, e0]) 0 (by decide) mFL_X3_9 (Or.inr ⟨rfl, hin, rfl⟩) (by decide +kernel) rfl rfl (Nat.le_of_ble_eq_true rfl) (Or.inl rfl) dX3_init_9 ?_
  refine n_aload_n F 0 dX3_init_12 rfl rfl ?_
  refine n_iconst (v := 3) F dX3_init_13 (by decide) ?_
  refine n_newa (ty := .int) F rfl mAC_int 1 rfl (fun h => h) rfl (K := 15) (i := 0) (by decide) rfl (Nat.le_of_ble_eq_true rfl) (Nat.le_of_ble_eq_true rfl) (Nat.le_of_ble_eq_true rfl) (by decide) a15 dX3_init_14 ?_
  refine n_put (ci := 3) (ty := .array .int) (fs := [.ref (G.2.2 14 0), .int 0, .int 0, .int 0, .null, .int 0]) F inlX3 tyX3 tyX3_ok nmX3 rfl (Or.inl (Or.inl h0)) (by simp [upE]) 4 (by decide) mFL_X3_15 (Or.inr ⟨rfl, hin, rfl⟩) (by decide +kernel) rfl rfl (Nat.le_of_ble_eq_true rfl) (Or.inl rfl) dX3_init_16 ?_
  refine n_end F hr hlk (Nat.le_of_ble_eq_true rfl) (Nat.le_of_ble_eq_true rfl) dX3_init_19 (fun K i h => ?_)
  refine ⟨?_, ?_⟩
  · rcases h with h | ⟨h, rfl⟩
    · exact (Or.inl (Or.inl h))
    · rcases (show K = 14 ∨ K = 15 by omega) with rfl | rfl
      · exact (Or.inl (Or.inr ⟨rfl, rfl⟩))
      · exact (Or.inr ⟨rfl, rfl⟩)
  · by_cases q : (13 ≤ K ∧ K ≤ 15) ∧ i = 0
    · obtain ⟨q1, rfl⟩ := q
      rcases (show K = 13 ∨ K = 14 ∨ K = 15 by omega) with rfl | rfl | rfl <;> simp [upE, E0, cvv]
    · rw [if_neg q]
      simp only [upE]
      rw [if_neg (by omega), if_neg (by omega), if_neg (by omega), if_neg (by omega)]