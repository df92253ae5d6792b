/-! PART 54: constructors of Pad and of the reference -/
set_option maxHeartbeats 4000000 in
theorem k_X3 {l : Launch} {G : Gm} (hj : Aj G) {S : Nat → Nat → Prop} {E : Nat → Nat → va_E} {sz : Nat} (h0 : S 13 0) (e0 : E 13 0 = .inr (3, [.null, .int 0, .int 0, .int 0, .null, .int 0])) (a14 : G.2.2 14 0 = sz) (a15 : G.2.2 15 0 = sz + 1) : CN l G yX3_init (wz yX3_init cX3_init 1 none) (rmC 1 2 83) (G.2.2 13 0) S E sz (fun K i => S K i ∨ ((14 ≤ K ∧ K ≤ 15) ∧ i = 0)) (fun K i => if (13 ≤ K ∧ K ≤ 15) ∧ i = 0 then E0 G K i else E K i) (sz + 2) 2 83 := by
  refine CN.walk hj (by decide +kernel) rfl (Nat.le_refl _) ?_
  intro p e s m args below meth c F hr hlk hin hml
  refine n_aload_n F 0 dX3_init_0 rfl rfl ?_
  refine n_objInit F mML_X3_3 mIM_objectInit mCO_objectInit hml (Nat.le_of_ble_eq_true rfl) (Nat.le_of_ble_eq_true rfl) dX3_init_1 ?_
  refine n_aload_n F 0 dX3_init_4 rfl rfl ?_
  refine n_bipush (v := 80) F dX3_init_5 (by decide) ?_
  refine n_newa (ty := .char) F rfl mAC_char 0 rfl (fun h => h) rfl (K := 14) (i := 0) (by decide) rfl (Nat.le_of_ble_eq_true rfl) (Nat.le_of_ble_eq_true rfl) (Nat.le_of_ble_eq_true rfl) (by decide) a14 dX3_init_7 ?_
  refine n_put (ci := 3) (ty := .array .char) (fs := [.null, .int 0, .int 0, .int 0, .null, .int 0]) F inlX3 tyX3 tyX3_ok nmX3 rfl (Or.inl h0) (by simp [upE, e0]) 0 (by decide) mFL_X3_9 (Or.inr ⟨rfl, hin, rfl⟩) (by decide +kernel) rfl rfl (Nat.le_of_ble_eq_true rfl) (Or.inl rfl) dX3_init_9 ?_
  refine n_aload_n F 0 dX3_init_12 rfl rfl ?_
  refine n_iconst (v := 3) F dX3_init_13 (by decide) ?_
  refine n_newa (ty := .int) F rfl mAC_int 1 rfl (fun h => h) rfl (K := 15) (i := 0) (by decide) rfl (Nat.le_of_ble_eq_true rfl) (Nat.le_of_ble_eq_true rfl) (Nat.le_of_ble_eq_true rfl) (by decide) a15 dX3_init_14 ?_
  refine n_put (ci := 3) (ty := .array .int) (fs := [.ref (G.2.2 14 0), .int 0, .int 0, .int 0, .null, .int 0]) F inlX3 tyX3 tyX3_ok nmX3 rfl (Or.inl (Or.inl h0)) (by simp [upE]) 4 (by decide) mFL_X3_15 (Or.inr ⟨rfl, hin, rfl⟩) (by decide +kernel) rfl rfl (Nat.le_of_ble_eq_true rfl) (Or.inl rfl) dX3_init_16 ?_
  refine n_end F hr hlk (Nat.le_of_ble_eq_true rfl) (Nat.le_of_ble_eq_true rfl) dX3_init_19 (fun K i h => ?_)
  refine ⟨?_, ?_⟩
  · rcases h with h | ⟨h, rfl⟩
    · exact (Or.inl (Or.inl h))
    · rcases (show K = 14 ∨ K = 15 by omega) with rfl | rfl
      · exact (Or.inl (Or.inr ⟨rfl, rfl⟩))
      · exact (Or.inr ⟨rfl, rfl⟩)
  · by_cases q : (13 ≤ K ∧ K ≤ 15) ∧ i = 0
    · obtain ⟨q1, rfl⟩ := q
      rcases (show K = 13 ∨ K = 14 ∨ K = 15 by omega) with rfl | rfl | rfl <;> simp [upE, E0, cvv]
    · rw [if_neg q]
      simp only [upE]
      rw [if_neg (by omega), if_neg (by omega), if_neg (by omega), if_neg (by omega)]
set_option maxHeartbeats 4000000 in
theorem k_X6 {l : Launch} {G : Gm} (hj : Aj G) {S : Nat → Nat → Prop} {E : Nat → Nat → va_E} {sz : Nat} (h0 : S 16 0) (e0 : E 16 0 = .inr (6, [.int 0, .null, .null, .null, .int 0, .null, .null, .null, .int 0, .int 0, .int 0, .null, .int 0])) (a17 : G.2.2 17 0 = sz) (a18 : G.2.2 18 0 = sz + 1) (a19 : G.2.2 19 0 = sz + 2) (a20 : G.2.2 20 0 = sz + 3) (a21 : G.2.2 21 0 = sz + 4) (a22 : G.2.2 22 0 = sz + 5) (a23 : G.2.2 23 0 = sz + 6) : CN l G yX6_init (wz yX6_init cX6_init 1 none) (rmC 1 7 1962) (G.2.2 16 0) S E sz (fun K i => S K i ∨ ((17 ≤ K ∧ K ≤ 23) ∧ i = 0)) (fun K i => if (16 ≤ K ∧ K ≤ 23) ∧ i = 0 then E0 G K i else E K i) (sz + 7) 7 1962 := by
  refine CN.walk hj (by decide +kernel) rfl (Nat.le_refl _) ?_
  intro p e s m args below meth c F hr hlk hin hml
  refine n_aload_n F 0 dX6_init_0 rfl rfl ?_
  refine n_objInit F mML_X6_1 mIM_objectInit mCO_objectInit hml (Nat.le_of_ble_eq_true rfl) (Nat.le_of_ble_eq_true rfl) dX6_init_1 ?_
  refine n_aload_n F 0 dX6_init_4 rfl rfl ?_
  refine n_sipush (v := 164) F dX6_init_5 (by decide) ?_
  refine n_newa (ty := .int) F rfl mAC_int 1 rfl (fun h => h) rfl (K := 17) (i := 0) (by decide) rfl (Nat.le_of_ble_eq_true rfl) (Nat.le_of_ble_eq_true rfl) (Nat.le_of_ble_eq_true rfl) (by decide) a17 dX6_init_8 ?_
  refine n_put (ci := 6) (ty := .array .int) (fs := [.int 0, .null, .null, .null, .int 0, .null, .null, .null, .int 0, .int 0, .int 0, .null, .int 0]) F inlX6 tyX6 tyX6_ok nmX6 rfl (Or.inl h0) (by simp [upE, e0]) 1 (by decide) mFL_X6_7 (Or.inr ⟨rfl, hin, rfl⟩) (by decide +kernel) rfl rfl (Nat.le_of_ble_eq_true rfl) (Or.inl rfl) dX6_init_10 ?_
  refine n_aload_n F 0 dX6_init_13 rfl rfl ?_
  refine n_sipush (v := 164) F dX6_init_14 (by decide) ?_
  refine n_newa (ty := .int) F rfl mAC_int 1 rfl (fun h => h) rfl (K := 18) (i := 0) (by decide) rfl (Nat.le_of_ble_eq_true rfl) (Nat.le_of_ble_eq_true rfl) (Nat.le_of_ble_eq_true rfl) (by decide) a18 dX6_init_17 ?_
  refine n_put (ci := 6) (ty := .array .int) (fs := [.int 0, .ref (G.2.2 17 0), .null, .null, .int 0, .null, .null, .null, .int 0, .int 0, .int 0, .null, .int 0]) F inlX6 tyX6 tyX6_ok nmX6 rfl (Or.inl (Or.inl h0)) (by simp [upE]) 2 (by decide) mFL_X6_13 (Or.inr ⟨rfl, hin, rfl⟩) (by decide +kernel) rfl rfl (Nat.le_of_ble_eq_true rfl) (Or.inl rfl) dX6_init_19 ?_
  refine n_aload_n F 0 dX6_init_22 rfl rfl ?_
  refine n_sipush (v := 984) F dX6_init_23 (by decide) ?_
  refine n_newa (ty := .int) F rfl mAC_int 1 rfl (fun h => h) rfl (K := 19) (i := 0) (by decide) rfl (Nat.le_of_ble_eq_true rfl) (Nat.le_of_ble_eq_true rfl) (Nat.le_of_ble_eq_true rfl) (by decide) a19 dX6_init_26 ?_
  refine n_put (ci := 6) (ty := .array .int) (fs := [.int 0, .ref (G.2.2 17 0), .ref (G.2.2 18 0), .null, .int 0, .null, .null, .null, .int 0, .int 0, .int 0, .null, .int 0]) F inlX6 tyX6 tyX6_ok nmX6 rfl (Or.inl (Or.inl (Or.inl h0))) (by simp [upE]) 3 (by decide) mFL_X6_16 (Or.inr ⟨rfl, hin, rfl⟩) (by decide +kernel) rfl rfl (Nat.le_of_ble_eq_true rfl) (Or.inl rfl) dX6_init_28 ?_
  refine n_aload_n F 0 dX6_init_31 rfl rfl ?_
  refine n_sipush (v := 328) F dX6_init_32 (by decide) ?_
  refine n_newa (ty := .int) F rfl mAC_int 1 rfl (fun h => h) rfl (K := 20) (i := 0) (by decide) rfl (Nat.le_of_ble_eq_true rfl) (Nat.le_of_ble_eq_true rfl) (Nat.le_of_ble_eq_true rfl) (by decide) a20 dX6_init_35 ?_
  refine n_put (ci := 6) (ty := .array .int) (fs := [.int 0, .ref (G.2.2 17 0), .ref (G.2.2 18 0), .ref (G.2.2 19 0), .int 0, .null, .null, .null, .int 0, .int 0, .int 0, .null, .int 0]) F inlX6 tyX6 tyX6_ok nmX6 rfl (Or.inl (Or.inl (Or.inl (Or.inl h0)))) (by simp [upE]) 5 (by decide) mFL_X6_19 (Or.inr ⟨rfl, hin, rfl⟩) (by decide +kernel) rfl rfl (Nat.le_of_ble_eq_true rfl) (Or.inl rfl) dX6_init_37 ?_
  refine n_aload_n F 0 dX6_init_40 rfl rfl ?_
  refine n_iconst (v := 2) F dX6_init_41 (by decide) ?_
  refine n_newa (ty := .boolean) F rfl mAC_boolean 2 rfl (fun h => h) rfl (K := 21) (i := 0) (by decide) rfl (Nat.le_of_ble_eq_true rfl) (Nat.le_of_ble_eq_true rfl) (Nat.le_of_ble_eq_true rfl) (by decide) a21 dX6_init_42 ?_
  refine n_put (ci := 6) (ty := .array .boolean) (fs := [.int 0, .ref (G.2.2 17 0), .ref (G.2.2 18 0), .ref (G.2.2 19 0), .int 0, .ref (G.2.2 20 0), .null, .null, .int 0, .int 0, .int 0, .null, .int 0]) F inlX6 tyX6 tyX6_ok nmX6 rfl (Or.inl (Or.inl (Or.inl (Or.inl (Or.inl h0))))) (by simp [upE]) 6 (by decide) mFL_X6_22 (Or.inr ⟨rfl, hin, rfl⟩) (by decide +kernel) rfl rfl (Nat.le_of_ble_eq_true rfl) (Or.inl rfl) dX6_init_44 ?_
  refine n_aload_n F 0 dX6_init_47 rfl rfl ?_
  refine n_bipush (v := 80) F dX6_init_48 (by decide) ?_
  refine n_newa (ty := .int) F rfl mAC_int 1 rfl (fun h => h) rfl (K := 22) (i := 0) (by decide) rfl (Nat.le_of_ble_eq_true rfl) (Nat.le_of_ble_eq_true rfl) (Nat.le_of_ble_eq_true rfl) (by decide) a22 dX6_init_50 ?_
  refine n_put (ci := 6) (ty := .array .int) (fs := [.int 0, .ref (G.2.2 17 0), .ref (G.2.2 18 0), .ref (G.2.2 19 0), .int 0, .ref (G.2.2 20 0), .ref (G.2.2 21 0), .null, .int 0, .int 0, .int 0, .null, .int 0]) F inlX6 tyX6 tyX6_ok nmX6 rfl (Or.inl (Or.inl (Or.inl (Or.inl (Or.inl (Or.inl h0)))))) (by simp [upE]) 7 (by decide) mFL_X6_26 (Or.inr ⟨rfl, hin, rfl⟩) (by decide +kernel) rfl rfl (Nat.le_of_ble_eq_true rfl) (Or.inl rfl) dX6_init_52 ?_
  refine n_aload_n F 0 dX6_init_55 rfl rfl ?_
  refine n_sipush (v := 240) F dX6_init_56 (by decide) ?_
  refine n_newa (ty := .int) F rfl mAC_int 1 rfl (fun h => h) rfl (K := 23) (i := 0) (by decide) rfl (Nat.le_of_ble_eq_true rfl) (Nat.le_of_ble_eq_true rfl) (Nat.le_of_ble_eq_true rfl) (by decide) a23 dX6_init_59 ?_
  refine n_put (ci := 6) (ty := .array .int) (fs := [.int 0, .ref (G.2.2 17 0), .ref (G.2.2 18 0), .ref (G.2.2 19 0), .int 0, .ref (G.2.2 20 0), .ref (G.2.2 21 0), .ref (G.2.2 22 0), .int 0, .int 0, .int 0, .null, .int 0]) F inlX6 tyX6 tyX6_ok nmX6 rfl (Or.inl (Or.inl (Or.inl (Or.inl (Or.inl (Or.inl (Or.inl h0))))))) (by simp [upE]) 11 (by decide) mFL_X6_29 (Or.inr ⟨rfl, hin, rfl⟩) (by decide +kernel) rfl rfl (Nat.le_of_ble_eq_true rfl) (Or.inl rfl) dX6_init_61 ?_
  refine n_aload_n F 0 dX6_init_64 rfl rfl ?_
  refine n_iconst (v := 0) F dX6_init_65 (by decide) ?_
  refine n_put (ci := 6) (ty := .int) (fs := [.int 0, .ref (G.2.2 17 0), .ref (G.2.2 18 0), .ref (G.2.2 19 0), .int 0, .ref (G.2.2 20 0), .ref (G.2.2 21 0), .ref (G.2.2 22 0), .int 0, .int 0, .int 0, .ref (G.2.2 23 0), .int 0]) F inlX6 tyX6 tyX6_ok nmX6 rfl (Or.inl (Or.inl (Or.inl (Or.inl (Or.inl (Or.inl (Or.inl h0))))))) (by simp [upE]) 0 (by decide) mFL_X6_32 (Or.inl rfl) (by decide +kernel) rfl rfl (Nat.le_of_ble_eq_true rfl) (Or.inl rfl) dX6_init_66 ?_
  refine n_end F hr hlk (Nat.le_of_ble_eq_true rfl) (Nat.le_of_ble_eq_true rfl) dX6_init_69 (fun K i h => ?_)
  refine ⟨?_, ?_⟩
  · rcases h with h | ⟨h, rfl⟩
    · exact (Or.inl (Or.inl (Or.inl (Or.inl (Or.inl (Or.inl (Or.inl h)))))))
    · rcases (show K = 17 ∨ K = 18 ∨ K = 19 ∨ K = 20 ∨ K = 21 ∨ K = 22 ∨ K = 23 by omega) with rfl | rfl | rfl | rfl | rfl | rfl | rfl
      · exact (Or.inl (Or.inl (Or.inl (Or.inl (Or.inl (Or.inl (Or.inr ⟨rfl, rfl⟩)))))))
      · exact (Or.inl (Or.inl (Or.inl (Or.inl (Or.inl (Or.inr ⟨rfl, rfl⟩))))))
      · exact (Or.inl (Or.inl (Or.inl (Or.inl (Or.inr ⟨rfl, rfl⟩)))))
      · exact (Or.inl (Or.inl (Or.inl (Or.inr ⟨rfl, rfl⟩))))
      · exact (Or.inl (Or.inl (Or.inr ⟨rfl, rfl⟩)))
      · exact (Or.inl (Or.inr ⟨rfl, rfl⟩))
      · exact (Or.inr ⟨rfl, rfl⟩)
  · by_cases q : (16 ≤ K ∧ K ≤ 23) ∧ i = 0
    · obtain ⟨q1, rfl⟩ := q
      rcases (show K = 16 ∨ K = 17 ∨ K = 18 ∨ K = 19 ∨ K = 20 ∨ K = 21 ∨ K = 22 ∨ K = 23 by omega) with rfl | rfl | rfl | rfl | rfl | rfl | rfl | rfl <;> simp [upE, E0, cvv]
    · rw [if_neg q]
      simp only [upE]
      rw [if_neg (by omega), if_neg (by omega), if_neg (by omega), if_neg (by omega), if_neg (by omega), if_neg (by omega), if_neg (by omega), if_neg (by omega), if_neg (by omega), if_neg (by omega), if_neg (by omega), if_neg (by omega), if_neg (by omega), if_neg (by omega), if_neg (by omega)]
