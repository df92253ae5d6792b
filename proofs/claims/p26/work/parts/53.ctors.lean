/-! PART 53: the constructors -/
/-- the first state: every int 0, locos in their order -/
def E0 (G : Gm) : Nat → Nat → va_E := fun K i => cvv G.2.1 G.2.2 (fun _ _ _ => 0) (fun _ r => r) K i
theorem WQ.mono {G : Gm} {S S' : Nat → Nat → Prop} {E E' : Nat → Nat → va_E} {sz : Nat} {H : Heap} (h : WQ G S E sz H) (hs : ∀ K i, S' K i → S K i ∧ E' K i = E K i) : WQ G S' E' sz H := ⟨h.1, fun K i q => by
  obtain ⟨a, b⟩ := hs K i q
  rw [b]
  exact h.2 K i a⟩
section CT
variable {p : Program} {l : Launch} {e : Env} {R : Room} {s : State} {m : MethodId} {args : Array Value} {below : List Frame} {meth : Method} {c : Code} {G : Gm} {A : Nat → Prop} {nL ce sl : Nat} {S S' : Nat → Nat → Prop} {E E' : Nat → Nat → va_E} {sz dc ds : Nat} {L : List (Nat × Value)} {pc : Nat} {cc : ByteArray} {own : String}
theorem n_end (F : FN p s m args c cc nL own G A) (hr : meth.sig.returnType = none) (hlocks : meth.locks = false) (hce : ce ≤ dc) (hsl : sl ≤ ds) (hd : decode cc pc = .ok (.return_, 1)) (hs : ∀ K i, S' K i → S K i ∧ E' K i = E K i) : GN p l e R s m args below meth c G A nL ce sl (MQ below (va_Qv (fun _ : Unit => True) (fun _ t => WQ G S' E' sz t.heap) A) args s dc ds A) S E sz L pc [] := fun H locs ls h1 h2 h3 => n_ret F hr hlocks hce hsl hd H locs ls (h1.mono hs) h2 h3
end CT
set_option maxHeartbeats 4000000 in
theorem k_X2 {l : Launch} {G : Gm} (hj : Aj G) {S : Nat → Nat → Prop} {E : Nat → Nat → va_E} {sz a : Nat} : CN l G yX2_init (wz yX2_init cX2_init 1 none) (rmC 1 0 0) a S E sz S E sz 0 0 := by
  refine CN.walk hj (by decide +kernel) rfl (Nat.le_refl _) ?_
  intro p e s m args below meth c F hr hlk hin hml
  refine n_aload_n F 0 dX2_init_0 rfl rfl ?_
  refine n_objInit F mML_X2_3 mIM_objectInit mCO_objectInit hml (Nat.le_of_ble_eq_true rfl) (Nat.le_of_ble_eq_true rfl) dX2_init_1 ?_
  exact n_ret F hr hlk (Nat.le_refl _) (Nat.le_refl _) dX2_init_4
set_option maxHeartbeats 4000000 in
theorem k_X4 {l : Launch} {G : Gm} (hj : Aj G) {S : Nat → Nat → Prop} {E : Nat → Nat → va_E} {sz k : Nat} (hk : k < 11) (h2 : S 2 k) (e2 : E 2 k = .inr (4, [.null, .null, .null, .int 0])) (a3 : G.2.2 3 k = sz) (a4 : G.2.2 4 k = sz + 1) (a5 : G.2.2 5 k = sz + 2) : CN l G yX4_init (wz yX4_init cX4_init 1 none) (rmC 1 3 60) (G.2.2 2 k) S E sz (fun K i => S K i ∨ ((3 ≤ K ∧ K ≤ 5) ∧ i = k)) (fun K i => if (2 ≤ K ∧ K ≤ 5) ∧ i = k then E0 G K i else E K i) (sz + 3) 3 60 := by
  refine CN.walk hj (by decide +kernel) rfl (Nat.le_refl _) ?_
  intro p e s m args below meth c F hr hlk hin hml
  refine n_aload_n F 0 dX4_init_0 rfl rfl ?_
  refine n_objInit F mML_X4_3 mIM_objectInit mCO_objectInit hml (Nat.le_of_ble_eq_true rfl) (Nat.le_of_ble_eq_true rfl) dX4_init_1 ?_
  refine n_aload_n F 0 dX4_init_4 rfl rfl ?_
  refine n_bipush (v := 20) F dX4_init_5 (by decide) ?_
  refine n_newa (ty := .int) F rfl mAC_int 1 rfl (fun h => h) rfl (K := 3) (i := k) (by decide) rfl (Nat.le_of_ble_eq_true rfl) (Nat.le_of_ble_eq_true rfl) (Nat.le_of_ble_eq_true rfl) hk a3 dX4_init_7 ?_
  refine n_put (ci := 4) (ty := .array .int) (fs := [.null, .null, .null, .int 0]) F inlX4 tyX4 tyX4_ok nmX4 rfl (Or.inl h2) (by simp [upE, e2]) 0 (by decide) mFL_X4_9 (Or.inr ⟨rfl, hin, rfl⟩) (by decide +kernel) rfl rfl (Nat.le_of_ble_eq_true rfl) (Or.inl rfl) dX4_init_9 ?_
  refine n_aload_n F 0 dX4_init_12 rfl rfl ?_
  refine n_bipush (v := 20) F dX4_init_13 (by decide) ?_
  refine n_newa (ty := .int) F rfl mAC_int 1 rfl (fun h => h) rfl (K := 4) (i := k) (by decide) rfl (Nat.le_of_ble_eq_true rfl) (Nat.le_of_ble_eq_true rfl) (Nat.le_of_ble_eq_true rfl) hk a4 dX4_init_15 ?_
  refine n_put (ci := 4) (ty := .array .int) (fs := [.ref (G.2.2 3 k), .null, .null, .int 0]) F inlX4 tyX4 tyX4_ok nmX4 rfl (Or.inl (Or.inl h2)) (by simp [upE]) 1 (by decide) mFL_X4_15 (Or.inr ⟨rfl, hin, rfl⟩) (by decide +kernel) rfl rfl (Nat.le_of_ble_eq_true rfl) (Or.inl rfl) dX4_init_17 ?_
  refine n_aload_n F 0 dX4_init_20 rfl rfl ?_
  refine n_bipush (v := 20) F dX4_init_21 (by decide) ?_
  refine n_newa (ty := .int) F rfl mAC_int 1 rfl (fun h => h) rfl (K := 5) (i := k) (by decide) rfl (Nat.le_of_ble_eq_true rfl) (Nat.le_of_ble_eq_true rfl) (Nat.le_of_ble_eq_true rfl) hk a5 dX4_init_23 ?_
  refine n_put (ci := 4) (ty := .array .int) (fs := [.ref (G.2.2 3 k), .ref (G.2.2 4 k), .null, .int 0]) F inlX4 tyX4 tyX4_ok nmX4 rfl (Or.inl (Or.inl (Or.inl h2))) (by simp [upE]) 2 (by decide) mFL_X4_18 (Or.inr ⟨rfl, hin, rfl⟩) (by decide +kernel) rfl rfl (Nat.le_of_ble_eq_true rfl) (Or.inl rfl) dX4_init_25 ?_
  refine n_end F hr hlk (Nat.le_of_ble_eq_true rfl) (Nat.le_of_ble_eq_true rfl) dX4_init_28 (fun K i h => ?_)
  refine ⟨?_, ?_⟩
  · rcases h with h | ⟨h, rfl⟩
    · exact Or.inl (Or.inl (Or.inl h))
    · rcases (show K = 3 ∨ K = 4 ∨ K = 5 by omega) with rfl | rfl | rfl
      · exact Or.inl (Or.inl (Or.inr ⟨rfl, rfl⟩))
      · exact Or.inl (Or.inr ⟨rfl, rfl⟩)
      · exact Or.inr ⟨rfl, rfl⟩
  · by_cases q : (2 ≤ K ∧ K ≤ 5) ∧ i = k
    · obtain ⟨q1, rfl⟩ := q
      rcases (show K = 2 ∨ K = 3 ∨ K = 4 ∨ K = 5 by omega) with rfl | rfl | rfl | rfl <;> simp [upE, E0, cvv]
    · rw [if_neg q]
      simp only [upE]
      rw [if_neg (by omega), if_neg (by omega), if_neg (by omega), if_neg (by omega), if_neg (by omega), if_neg (by omega)]
