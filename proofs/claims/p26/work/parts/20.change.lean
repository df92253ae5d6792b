/-! PART 20: the class's changes -/
def CHG (I : Ii) (u : Ii × Pm) (r : Int32) (q : Int32 × Sg) (σ : Sg) (hn : Nat) (hist : Nat → Sg) (sv : Nat → Int32) (sl : Nat → Sg) (pl : Nat) (pad : Sg) : Prop := r = q.1 ∧ ((q.1 < 0 ∧ CR u.1 u.2 σ hn hist sv sl pl pad) ∨ (¬ q.1 < 0 ∧ CR u.1 u.2 q.2 (pushN hn) (pushH hn hist σ) sv sl pl pad)) ∧ FC I u.1
/-- behind the work, ahead of 'kept' -/
def OPD (I : Ii) (u : Ii × Pm) (q : Int32 × Sg) (σ : Sg) (hn : Nat) (hist : Nat → Sg) (sv : Nat → Int32) (sl : Nat → Sg) (pl : Nat) (pad : Sg) : Prop := (∃ s, DR u.1 u.2 σ s hn hist sv sl pl pad ∧ (q.1 < 0 → s = σ) ∧ (¬ q.1 < 0 → s = q.2)) ∧ FC I u.1
theorem OPD.err {I : Ii} {pm : Pm} {u : Ii × Pm} {q : Int32 × Sg} {σ : Sg} {hn : Nat} {hist : Nat → Sg} {sv : Nat → Int32} {sl : Nat → Sg} {pl : Nat} {pad : Sg} (D : DR I pm σ σ hn hist sv sl pl pad) (hu : u = (I, pm)) (hq : q.1 < 0) : OPD I u q σ hn hist sv sl pl pad := by
  subst hu
  exact ⟨⟨σ, D, fun _ => rfl, fun h => absurd hq h⟩, FC.rf⟩
theorem OPD.ok {I : Ii} {pm : Pm} {u : Ii × Pm} {q : Int32 × Sg} {σ : Sg} {hn : Nat} {hist : Nat → Sg} {sv : Nat → Int32} {sl : Nat → Sg} {pl : Nat} {pad : Sg} (D : DR I pm σ σ hn hist sv sl pl pad) (F : Fr 0 I pm u.1 u.2) (R : RpS u.1 u.2 0 q.2) (hq : ¬ q.1 < 0) : OPD I u q σ hn hist sv sl pl pad :=
  ⟨⟨q.2, D.op F R, fun h => absurd h hq, fun _ => rfl⟩, FC.fr F⟩
theorem CHG.fin {I I1 : Ii} {u1 u : Ii × Pm} {x r : Int32} {q : Int32 × Sg} {σ : Sg} {hn : Nat} {hist : Nat → Sg} {sv : Nat → Int32} {sl : Nat → Sg} {pl : Nat} {pad : Sg} {s : Sg} (hx : x = q.1) (h1 : q.1 < 0 → s = σ) (h2 : ¬ q.1 < 0 → s = q.2) (f1 : FC I I1) (f2 : FC I1 u1.1) (H : r = x ∧ ((x < 0 ∧ CR u.1 u.2 s hn hist sv sl pl pad) ∨ (¬ x < 0 ∧ CR u.1 u.2 s (pushN hn) (pushH hn hist σ) sv sl pl pad)) ∧ FC u1.1 u.1) : CHG I u r q σ hn hist sv sl pl pad := by
  obtain ⟨rfl, H, f3⟩ := H
  subst hx
  refine ⟨rfl, ?_, (f1.tr f2).tr f3⟩
  rcases H with ⟨h, C⟩ | ⟨h, C⟩
  · exact Or.inl ⟨h, by rw [h1 h] at C; exact C⟩
  · exact Or.inr ⟨h, by rw [h2 h] at C; exact C⟩
theorem rps {I : Ii} {pm : Pm} {k n h n' h' : Nat} {σ : Sg} (R : Rp n h I pm k σ) (V : Iv n' h' σ) : RpS I pm k σ := by
  have e1 : n = n' := (nI_eq (by have := R.n8; omega) (by have := V.2.1; omega)).mp (R.2.2.2.2.2.2.1.symm.trans V.1)
  have e2 : h = h' := (nI_eq (by have := R.h20; omega) (by have := V.2.2.2.1; omega)).mp (R.2.2.2.2.2.2.2.2.1.symm.trans V.2.2.1)
  subst e1 e2
  exact ⟨_, _, R, V⟩

set_option maxHeartbeats 4000000 in
set_option maxRecDepth 100000 in
theorem c_X5_loco {l : Launch} {G : Gm} (hj : Aj G) {I : Ii} {pm : Pm} {a b c0 d : Int32} {σ : Sg} {hn : Nat} {hist : Nat → Sg} {sv : Nat → Int32} {sl : Nat → Sg} {pl : Nat} {pad : Sg} (C : CR I pm σ hn hist sv sl pl pad) : CI l G yX5_loco (wz yX5_loco cX5_loco 5 (some .int)) (rmL 4) [.ref (G.2.2 8 0), .int a, .int b, .int c0, .int d] I pm (fun r u => ∃ q, locoR a b c0 d σ q ∧ CHG I u r q σ hn hist sv sl pl pad) := by
  refine CI.walk hj (by decide +kernel) (by show _ ≤ 5; exact Nat.le_of_ble_eq_true rfl) ?_
  intro p e s m args below meth c F hr hlk
  refine g_aload_n F 0 dX5_loco_0 rfl rfl ?_
  refine gf_8_2 F (by decide) mFL_X5_22 dX5_loco_1 ?_
  refine g_aload_n F 0 dX5_loco_4 rfl rfl ?_
  refine gf_8_0 F (by decide) mFL_X5_12 dX5_loco_5 ?_
  refine g_callVv (na := 1) F 9 _ (c_X0_draft hj C) (by decide) rfl rfl lk_X5_41 rfl rfl (by decide +kernel) ⟨rfl, rfl, Nat.le_of_ble_eq_true rfl, Nat.le_of_ble_eq_true rfl, Nat.le_of_ble_eq_true rfl, Nat.le_of_ble_eq_true rfl, Nat.le_of_ble_eq_true rfl⟩ dX5_loco_8 (fun u_8 h_8 => ?_)
  obtain ⟨D, f1⟩ := h_8
  obtain ⟨n, h, R, V⟩ := id D.1
  have hn8 := V.2.1
  have hh20 := V.2.2.2.1
  refine g_aload_n F 0 dX5_loco_11 rfl rfl ?_
  refine gf_8_2 F (by decide) mFL_X5_22 dX5_loco_12 ?_
  refine g_aload_n F 0 dX5_loco_15 rfl rfl ?_
  refine gf_8_0 F (by decide) mFL_X5_12 dX5_loco_16 ?_
  refine g_iload_n F 1 dX5_loco_19 rfl rfl ?_
  refine g_iload_n F 2 dX5_loco_20 rfl rfl ?_
  refine g_iload_n F 3 dX5_loco_21 rfl rfl ?_
  refine g_iload F 4 dX5_loco_22 rfl ?_
  refine g_callIv (na := 4) F 0 _ (c_X1_addLoco hj (by decide) R) (by decide) rfl rfl lk_X5_45 rfl rfl (by decide +kernel) ⟨rfl, rfl, Nat.le_of_ble_eq_true rfl, Nat.le_of_ble_eq_true rfl, Nat.le_of_ble_eq_true rfl, Nat.le_of_ble_eq_true rfl, Nat.le_of_ble_eq_true rfl⟩ dX5_loco_24 (fun r_24 u_24 h_24 => ?_)
  obtain ⟨q, hq, hrq, QD⟩ : ∃ q, locoR a b c0 d σ q ∧ r_24 = q.1 ∧ OPD u_8.1 u_24 q σ hn hist sv sl pl pad := by
    rcases h_24 with ⟨hb, rfl, hu⟩ | ⟨hb, hrk, rfl, hu⟩ | ⟨hb, hrk, h8, rfl, hu⟩ | ⟨hb, hrk, h8, rfl, Ru, Fu⟩
    · exact ⟨(-2, σ), Or.inl ⟨hb, rfl⟩, rfl, OPD.err D hu (show (-2 : Int32) < 0 by decide)⟩
    · exact ⟨(-5, σ), Or.inr (Or.inl ⟨hb, by rw [V.nofe]; exact hrk, rfl⟩), rfl, OPD.err D hu (show (-5 : Int32) < 0 by decide)⟩
    · exact ⟨(-4, σ), Or.inr (Or.inr (Or.inl ⟨hb, by rw [V.nofe]; exact hrk, by rw [V.nofe]; exact h8, rfl⟩)), rfl, OPD.err D hu (show (-4 : Int32) < 0 by decide)⟩
    · exact ⟨(nI (n + 1), addS n a b c0 d σ), Or.inr (Or.inr (Or.inr ⟨hb, by rw [V.nofe]; exact hrk, by rw [V.nofe]; exact h8, by rw [V.nofe]⟩)), rfl, OPD.ok D Fu (rps Ru (V.add h8 hb)) (nneg (by omega))⟩
  obtain ⟨⟨s2, D2, hs1, hs2⟩, f2⟩ := QD
  refine g_callIv (na := 1) F 9 _ (c_X0_kept hj D2) (by decide) rfl rfl lk_X5_49 rfl rfl (by decide +kernel) ⟨rfl, rfl, Nat.le_of_ble_eq_true rfl, Nat.le_of_ble_eq_true rfl, Nat.le_of_ble_eq_true rfl, Nat.le_of_ble_eq_true rfl, Nat.le_of_ble_eq_true rfl⟩ dX5_loco_27 (fun r_27 u_27 h_27 => ?_)
  skip
  refine g_iret F hr hlk rfl dX5_loco_30 ?_
  exact ⟨q, hq, CHG.fin hrq hs1 hs2 f1 f2 h_27⟩
set_option maxHeartbeats 4000000 in
set_option maxRecDepth 100000 in
theorem c_X5_lift {l : Launch} {G : Gm} (hj : Aj G) {I : Ii} {pm : Pm} {a : Int32} {σ : Sg} {hn : Nat} {hist : Nat → Sg} {sv : Nat → Int32} {sl : Nat → Sg} {pl : Nat} {pad : Sg} (C : CR I pm σ hn hist sv sl pl pad) : CI l G yX5_lift (wz yX5_lift cX5_lift 2 (some .int)) (rmL 4) [.ref (G.2.2 8 0), .int a] I pm (fun r u => ∃ q, liftR a σ q ∧ CHG I u r q σ hn hist sv sl pl pad) := by
  refine CI.walk hj (by decide +kernel) (by show _ ≤ 2; exact Nat.le_of_ble_eq_true rfl) ?_
  intro p e s m args below meth c F hr hlk
  refine g_aload_n F 0 dX5_lift_0 rfl rfl ?_
  refine gf_8_2 F (by decide) mFL_X5_22 dX5_lift_1 ?_
  refine g_aload_n F 0 dX5_lift_4 rfl rfl ?_
  refine gf_8_0 F (by decide) mFL_X5_12 dX5_lift_5 ?_
  refine g_callVv (na := 1) F 9 _ (c_X0_draft hj C) (by decide) rfl rfl lk_X5_41 rfl rfl (by decide +kernel) ⟨rfl, rfl, Nat.le_of_ble_eq_true rfl, Nat.le_of_ble_eq_true rfl, Nat.le_of_ble_eq_true rfl, Nat.le_of_ble_eq_true rfl, Nat.le_of_ble_eq_true rfl⟩ dX5_lift_8 (fun u_8 h_8 => ?_)
  obtain ⟨D, f1⟩ := h_8
  obtain ⟨n, h, R, V⟩ := id D.1
  have hn8 := V.2.1
  have hh20 := V.2.2.2.1
  refine g_aload_n F 0 dX5_lift_11 rfl rfl ?_
  refine gf_8_2 F (by decide) mFL_X5_22 dX5_lift_12 ?_
  refine g_aload_n F 0 dX5_lift_15 rfl rfl ?_
  refine gf_8_0 F (by decide) mFL_X5_12 dX5_lift_16 ?_
  refine g_iload_n F 1 dX5_lift_19 rfl rfl ?_
  refine g_callIv (na := 1) F 0 _ (c_X1_removeLoco hj (by decide) R) (by decide) rfl rfl lk_X5_53 rfl rfl (by decide +kernel) ⟨rfl, rfl, Nat.le_of_ble_eq_true rfl, Nat.le_of_ble_eq_true rfl, Nat.le_of_ble_eq_true rfl, Nat.le_of_ble_eq_true rfl, Nat.le_of_ble_eq_true rfl⟩ dX5_lift_20 (fun r_20 u_20 h_20 => ?_)
  obtain ⟨q, hq, hrq, QD⟩ : ∃ q, liftR a σ q ∧ r_20 = q.1 ∧ OPD u_8.1 u_20 q σ hn hist sv sl pl pad := by
    rcases h_20 with ⟨hb, rfl, hu⟩ | ⟨hb, rfl, Ru, Fu⟩
    · exact ⟨(-1, σ), Or.inl ⟨by rw [V.nofe]; exact hb, rfl⟩, rfl, OPD.err D hu (show (-1 : Int32) < 0 by decide)⟩
    · exact ⟨(nI (n - 1), lifS n (rkS σ a n) σ), Or.inr ⟨by rw [V.nofe]; exact hb, by rw [V.nofe]⟩, rfl, OPD.ok D Fu (rps Ru (V.lift hb)) (nneg (by omega))⟩
  obtain ⟨⟨s2, D2, hs1, hs2⟩, f2⟩ := QD
  refine g_callIv (na := 1) F 9 _ (c_X0_kept hj D2) (by decide) rfl rfl lk_X5_49 rfl rfl (by decide +kernel) ⟨rfl, rfl, Nat.le_of_ble_eq_true rfl, Nat.le_of_ble_eq_true rfl, Nat.le_of_ble_eq_true rfl, Nat.le_of_ble_eq_true rfl, Nat.le_of_ble_eq_true rfl⟩ dX5_lift_23 (fun r_23 u_23 h_23 => ?_)
  skip
  refine g_iret F hr hlk rfl dX5_lift_26 ?_
  exact ⟨q, hq, CHG.fin hrq hs1 hs2 f1 f2 h_23⟩
set_option maxHeartbeats 4000000 in
set_option maxRecDepth 100000 in
theorem c_X5_noise {l : Launch} {G : Gm} (hj : Aj G) {I : Ii} {pm : Pm} {x : Int32} {σ : Sg} {hn : Nat} {hist : Nat → Sg} {sv : Nat → Int32} {sl : Nat → Sg} {pl : Nat} {pad : Sg} (C : CR I pm σ hn hist sv sl pl pad) : CI l G yX5_noise (wz yX5_noise cX5_noise 2 (some .int)) (rmL 4) [.ref (G.2.2 8 0), .int x] I pm (fun r u => ∃ q, noiseR x σ q ∧ CHG I u r q σ hn hist sv sl pl pad) := by
  refine CI.walk hj (by decide +kernel) (by show _ ≤ 2; exact Nat.le_of_ble_eq_true rfl) ?_
  intro p e s m args below meth c F hr hlk
  refine g_aload_n F 0 dX5_noise_0 rfl rfl ?_
  refine gf_8_2 F (by decide) mFL_X5_22 dX5_noise_1 ?_
  refine g_aload_n F 0 dX5_noise_4 rfl rfl ?_
  refine gf_8_0 F (by decide) mFL_X5_12 dX5_noise_5 ?_
  refine g_callVv (na := 1) F 9 _ (c_X0_draft hj C) (by decide) rfl rfl lk_X5_41 rfl rfl (by decide +kernel) ⟨rfl, rfl, Nat.le_of_ble_eq_true rfl, Nat.le_of_ble_eq_true rfl, Nat.le_of_ble_eq_true rfl, Nat.le_of_ble_eq_true rfl, Nat.le_of_ble_eq_true rfl⟩ dX5_noise_8 (fun u_8 h_8 => ?_)
  obtain ⟨D, f1⟩ := h_8
  obtain ⟨n, h, R, V⟩ := id D.1
  have hn8 := V.2.1
  have hh20 := V.2.2.2.1
  refine g_aload_n F 0 dX5_noise_11 rfl rfl ?_
  refine gf_8_2 F (by decide) mFL_X5_22 dX5_noise_12 ?_
  refine g_aload_n F 0 dX5_noise_15 rfl rfl ?_
  refine gf_8_0 F (by decide) mFL_X5_12 dX5_noise_16 ?_
  refine g_iload_n F 1 dX5_noise_19 rfl rfl ?_
  refine g_callIv (na := 1) F 0 _ (c_X1_changeNoise hj (by decide) R) (by decide) rfl rfl lk_X5_56 rfl rfl (by decide +kernel) ⟨rfl, rfl, Nat.le_of_ble_eq_true rfl, Nat.le_of_ble_eq_true rfl, Nat.le_of_ble_eq_true rfl, Nat.le_of_ble_eq_true rfl, Nat.le_of_ble_eq_true rfl⟩ dX5_noise_20 (fun r_20 u_20 h_20 => ?_)
  obtain ⟨q, hq, hrq, QD⟩ : ∃ q, noiseR x σ q ∧ r_20 = q.1 ∧ OPD u_8.1 u_20 q σ hn hist sv sl pl pad := by
    rcases h_20 with ⟨hb, rfl, hu⟩ | ⟨hb, rfl, Ru, Fu⟩
    · exact ⟨(-2, σ), Or.inl ⟨hb, rfl⟩, rfl, OPD.err D hu (show (-2 : Int32) < 0 by decide)⟩
    · exact ⟨(σ 1, upd σ 1 x), Or.inr ⟨hb, rfl⟩, rfl, OPD.ok D Fu (rps Ru (V.noise hb)) (nneg_i V.2.2.2.2.2.2.1.1)⟩
  obtain ⟨⟨s2, D2, hs1, hs2⟩, f2⟩ := QD
  refine g_callIv (na := 1) F 9 _ (c_X0_kept hj D2) (by decide) rfl rfl lk_X5_49 rfl rfl (by decide +kernel) ⟨rfl, rfl, Nat.le_of_ble_eq_true rfl, Nat.le_of_ble_eq_true rfl, Nat.le_of_ble_eq_true rfl, Nat.le_of_ble_eq_true rfl, Nat.le_of_ble_eq_true rfl⟩ dX5_noise_23 (fun r_23 u_23 h_23 => ?_)
  skip
  refine g_iret F hr hlk rfl dX5_noise_26 ?_
  exact ⟨q, hq, CHG.fin hrq hs1 hs2 f1 f2 h_23⟩
set_option maxHeartbeats 4000000 in
set_option maxRecDepth 100000 in
theorem c_X5_order {l : Launch} {G : Gm} (hj : Aj G) {I : Ii} {pm : Pm} {a d t : Int32} {σ : Sg} {hn : Nat} {hist : Nat → Sg} {sv : Nat → Int32} {sl : Nat → Sg} {pl : Nat} {pad : Sg} (C : CR I pm σ hn hist sv sl pl pad) : CI l G yX5_order (wz yX5_order cX5_order 4 (some .int)) (rmL 4) [.ref (G.2.2 8 0), .int a, .int d, .int t] I pm (fun r u => ∃ q, ordR a d t σ q ∧ CHG I u r q σ hn hist sv sl pl pad) := by
  refine CI.walk hj (by decide +kernel) (by show _ ≤ 4; exact Nat.le_of_ble_eq_true rfl) ?_
  intro p e s m args below meth c F hr hlk
  refine g_aload_n F 0 dX5_order_0 rfl rfl ?_
  refine gf_8_2 F (by decide) mFL_X5_22 dX5_order_1 ?_
  refine g_aload_n F 0 dX5_order_4 rfl rfl ?_
  refine gf_8_0 F (by decide) mFL_X5_12 dX5_order_5 ?_
  refine g_callVv (na := 1) F 9 _ (c_X0_draft hj C) (by decide) rfl rfl lk_X5_41 rfl rfl (by decide +kernel) ⟨rfl, rfl, Nat.le_of_ble_eq_true rfl, Nat.le_of_ble_eq_true rfl, Nat.le_of_ble_eq_true rfl, Nat.le_of_ble_eq_true rfl, Nat.le_of_ble_eq_true rfl⟩ dX5_order_8 (fun u_8 h_8 => ?_)
  obtain ⟨D, f1⟩ := h_8
  obtain ⟨n, h, R, V⟩ := id D.1
  have hn8 := V.2.1
  have hh20 := V.2.2.2.1
  refine g_aload_n F 0 dX5_order_11 rfl rfl ?_
  refine gf_8_2 F (by decide) mFL_X5_22 dX5_order_12 ?_
  refine g_aload_n F 0 dX5_order_15 rfl rfl ?_
  refine gf_8_0 F (by decide) mFL_X5_12 dX5_order_16 ?_
  refine gf_0_1 F (by decide) mFL_X5_59 dX5_order_19 ?_
  refine g_iload_n F 1 dX5_order_22 rfl rfl ?_
  refine g_iload_n F 2 dX5_order_23 rfl rfl ?_
  refine g_iload_n F 3 dX5_order_24 rfl rfl ?_
  refine g_callIv (na := 3) F 2 _ (c_X4_take hj (by decide) R) (by decide) rfl rfl lk_X5_63 rfl rfl (by decide +kernel) ⟨rfl, rfl, Nat.le_of_ble_eq_true rfl, Nat.le_of_ble_eq_true rfl, Nat.le_of_ble_eq_true rfl, Nat.le_of_ble_eq_true rfl, Nat.le_of_ble_eq_true rfl⟩ dX5_order_25 (fun r_25 u_25 h_25 => ?_)
  obtain ⟨q, hq, hrq, QD⟩ : ∃ q, ordR a d t σ q ∧ r_25 = q.1 ∧ OPD u_8.1 u_25 q σ hn hist sv sl pl pad := by
    rcases h_25 with ⟨hb, rfl, hu⟩ | ⟨hb, h20, rfl, hu⟩ | ⟨hb, h20, rfl, Ru, up, uo⟩
    · exact ⟨(-2, σ), Or.inl ⟨hb, rfl⟩, rfl, OPD.err D hu (show (-2 : Int32) < 0 by decide)⟩
    · exact ⟨(-4, σ), Or.inr (Or.inl ⟨hb, by rw [V.hofe]; exact h20, rfl⟩), rfl, OPD.err D hu (show (-4 : Int32) < 0 by decide)⟩
    · exact ⟨(nI (h + 1), ordS h a d t σ), Or.inr (Or.inr ⟨hb, by rw [V.hofe]; exact h20, by rw [V.hofe]⟩), rfl, OPD.ok D (by rw [up]; exact Fr.rows uo) (by rw [up]; exact rps Ru (V.ord h20 hb)) (nneg (by omega))⟩
  obtain ⟨⟨s2, D2, hs1, hs2⟩, f2⟩ := QD
  refine g_callIv (na := 1) F 9 _ (c_X0_kept hj D2) (by decide) rfl rfl lk_X5_49 rfl rfl (by decide +kernel) ⟨rfl, rfl, Nat.le_of_ble_eq_true rfl, Nat.le_of_ble_eq_true rfl, Nat.le_of_ble_eq_true rfl, Nat.le_of_ble_eq_true rfl, Nat.le_of_ble_eq_true rfl⟩ dX5_order_28 (fun r_28 u_28 h_28 => ?_)
  skip
  refine g_iret F hr hlk rfl dX5_order_31 ?_
  exact ⟨q, hq, CHG.fin hrq hs1 hs2 f1 f2 h_28⟩
set_option maxHeartbeats 4000000 in
set_option maxRecDepth 100000 in
theorem c_X5_frame {l : Launch} {G : Gm} (hj : Aj G) {I : Ii} {pm : Pm} {a d c0 : Int32} {σ : Sg} {hn : Nat} {hist : Nat → Sg} {sv : Nat → Int32} {sl : Nat → Sg} {pl : Nat} {pad : Sg} (C : CR I pm σ hn hist sv sl pl pad) : CI l G yX5_frame (wz yX5_frame cX5_frame 4 (some .int)) (rmL 4) [.ref (G.2.2 8 0), .int a, .int d, .int c0] I pm (fun r u => ∃ q, frmR a d c0 σ q ∧ CHG I u r q σ hn hist sv sl pl pad) := by
  refine CI.walk hj (by decide +kernel) (by show _ ≤ 4; exact Nat.le_of_ble_eq_true rfl) ?_
  intro p e s m args below meth c F hr hlk
  refine g_aload_n F 0 dX5_frame_0 rfl rfl ?_
  refine gf_8_2 F (by decide) mFL_X5_22 dX5_frame_1 ?_
  refine g_aload_n F 0 dX5_frame_4 rfl rfl ?_
  refine gf_8_0 F (by decide) mFL_X5_12 dX5_frame_5 ?_
  refine g_callVv (na := 1) F 9 _ (c_X0_draft hj C) (by decide) rfl rfl lk_X5_41 rfl rfl (by decide +kernel) ⟨rfl, rfl, Nat.le_of_ble_eq_true rfl, Nat.le_of_ble_eq_true rfl, Nat.le_of_ble_eq_true rfl, Nat.le_of_ble_eq_true rfl, Nat.le_of_ble_eq_true rfl⟩ dX5_frame_8 (fun u_8 h_8 => ?_)
  obtain ⟨D, f1⟩ := h_8
  obtain ⟨n, h, R, V⟩ := id D.1
  have hn8 := V.2.1
  have hh20 := V.2.2.2.1
  refine g_aload_n F 0 dX5_frame_11 rfl rfl ?_
  refine gf_8_2 F (by decide) mFL_X5_22 dX5_frame_12 ?_
  refine g_aload_n F 0 dX5_frame_15 rfl rfl ?_
  refine gf_8_0 F (by decide) mFL_X5_12 dX5_frame_16 ?_
  refine g_iload_n F 1 dX5_frame_19 rfl rfl ?_
  refine g_iload_n F 2 dX5_frame_20 rfl rfl ?_
  refine g_iload_n F 3 dX5_frame_21 rfl rfl ?_
  refine g_callIv (na := 3) F 0 _ (c_X1_takeFrame hj (by decide) R V) (by decide) rfl rfl lk_X5_69 rfl rfl (by decide +kernel) ⟨rfl, rfl, Nat.le_of_ble_eq_true rfl, Nat.le_of_ble_eq_true rfl, Nat.le_of_ble_eq_true rfl, Nat.le_of_ble_eq_true rfl, Nat.le_of_ble_eq_true rfl⟩ dX5_frame_22 (fun r_22 u_22 h_22 => ?_)
  obtain ⟨q, hq, hrq, QD⟩ : ∃ q, frmR a d c0 σ q ∧ r_22 = q.1 ∧ OPD u_8.1 u_22 q σ hn hist sv sl pl pad := by
    rcases h_22 with ⟨hb, rfl, hu⟩ | ⟨hb, rfl, Ru, Fu, up⟩
    · exact ⟨(-2, σ), Or.inl ⟨hb, rfl⟩, rfl, OPD.err D hu (show (-2 : Int32) < 0 by decide)⟩
    · exact ⟨((comS n a d c0 σ).2, (comS n a d c0 σ).1), Or.inr ⟨hb, by rw [V.nofe]⟩, rfl, OPD.ok D Fu (rps Ru (V.com ⟨i_le.mp hb.2.1.1, i_le.mp hb.2.1.2⟩)) (by obtain ⟨m, hm, e⟩ := com_cnt n a d c0 σ; show ¬ (comS _ _ _ _ _).2 < 0; rw [e]; exact nneg (by omega))⟩
  obtain ⟨⟨s2, D2, hs1, hs2⟩, f2⟩ := QD
  refine g_callIv (na := 1) F 9 _ (c_X0_kept hj D2) (by decide) rfl rfl lk_X5_49 rfl rfl (by decide +kernel) ⟨rfl, rfl, Nat.le_of_ble_eq_true rfl, Nat.le_of_ble_eq_true rfl, Nat.le_of_ble_eq_true rfl, Nat.le_of_ble_eq_true rfl, Nat.le_of_ble_eq_true rfl⟩ dX5_frame_25 (fun r_25 u_25 h_25 => ?_)
  skip
  refine g_iret F hr hlk rfl dX5_frame_28 ?_
  exact ⟨q, hq, CHG.fin hrq hs1 hs2 f1 f2 h_25⟩
set_option maxHeartbeats 4000000 in
set_option maxRecDepth 100000 in
theorem c_X5_shorts {l : Launch} {G : Gm} (hj : Aj G) {I : Ii} {pm : Pm} {b t : Int32} {σ : Sg} {hn : Nat} {hist : Nat → Sg} {sv : Nat → Int32} {sl : Nat → Sg} {pl : Nat} {pad : Sg} (C : CR I pm σ hn hist sv sl pl pad) : CI l G yX5_shorts (wz yX5_shorts cX5_shorts 3 (some .int)) (rmL 4) [.ref (G.2.2 8 0), .int b, .int t] I pm (fun r u => ∃ q, shoR b t σ q ∧ CHG I u r q σ hn hist sv sl pl pad) := by
  refine CI.walk hj (by decide +kernel) (by show _ ≤ 3; exact Nat.le_of_ble_eq_true rfl) ?_
  intro p e s m args below meth c F hr hlk
  refine g_aload_n F 0 dX5_shorts_0 rfl rfl ?_
  refine gf_8_2 F (by decide) mFL_X5_22 dX5_shorts_1 ?_
  refine g_aload_n F 0 dX5_shorts_4 rfl rfl ?_
  refine gf_8_0 F (by decide) mFL_X5_12 dX5_shorts_5 ?_
  refine g_callVv (na := 1) F 9 _ (c_X0_draft hj C) (by decide) rfl rfl lk_X5_41 rfl rfl (by decide +kernel) ⟨rfl, rfl, Nat.le_of_ble_eq_true rfl, Nat.le_of_ble_eq_true rfl, Nat.le_of_ble_eq_true rfl, Nat.le_of_ble_eq_true rfl, Nat.le_of_ble_eq_true rfl⟩ dX5_shorts_8 (fun u_8 h_8 => ?_)
  obtain ⟨D, f1⟩ := h_8
  obtain ⟨n, h, R, V⟩ := id D.1
  have hn8 := V.2.1
  have hh20 := V.2.2.2.1
  refine g_aload_n F 0 dX5_shorts_11 rfl rfl ?_
  refine gf_8_2 F (by decide) mFL_X5_22 dX5_shorts_12 ?_
  refine g_aload_n F 0 dX5_shorts_15 rfl rfl ?_
  refine gf_8_0 F (by decide) mFL_X5_12 dX5_shorts_16 ?_
  refine g_iload_n F 1 dX5_shorts_19 rfl rfl ?_
  refine g_iload_n F 2 dX5_shorts_20 rfl rfl ?_
  refine g_callIv (na := 2) F 0 _ (c_X1_changeShort hj (by decide) R) (by decide) rfl rfl lk_X5_72 rfl rfl (by decide +kernel) ⟨rfl, rfl, Nat.le_of_ble_eq_true rfl, Nat.le_of_ble_eq_true rfl, Nat.le_of_ble_eq_true rfl, Nat.le_of_ble_eq_true rfl, Nat.le_of_ble_eq_true rfl⟩ dX5_shorts_21 (fun r_21 u_21 h_21 => ?_)
  obtain ⟨q, hq, hrq, QD⟩ : ∃ q, shoR b t σ q ∧ r_21 = q.1 ∧ OPD u_8.1 u_21 q σ hn hist sv sl pl pad := by
    rcases h_21 with ⟨hb, rfl, hu⟩ | ⟨hb, ht, rfl, hu⟩ | ⟨hb, ht, rfl, Ru, Fu⟩
    · exact ⟨(-1, σ), Or.inl ⟨hb, rfl⟩, rfl, OPD.err D hu (show (-1 : Int32) < 0 by decide)⟩
    · exact ⟨(-2, σ), Or.inr (Or.inl ⟨hb, ht, rfl⟩), rfl, OPD.err D hu (show (-2 : Int32) < 0 by decide)⟩
    · exact ⟨(σ (8 + b.toInt.toNat), upd σ (8 + b.toInt.toNat) t), Or.inr (Or.inr ⟨hb, ht, rfl⟩), rfl, OPD.ok D Fu (rps Ru (V.short (by have := rng (M := 7) (m := 7) rfl hb.1 hb.2; omega) ht)) (nneg_i (V.2.2.2.2.2.1 _ (by have := rng (M := 7) (m := 7) rfl hb.1 hb.2; omega)).1)⟩
  obtain ⟨⟨s2, D2, hs1, hs2⟩, f2⟩ := QD
  refine g_callIv (na := 1) F 9 _ (c_X0_kept hj D2) (by decide) rfl rfl lk_X5_49 rfl rfl (by decide +kernel) ⟨rfl, rfl, Nat.le_of_ble_eq_true rfl, Nat.le_of_ble_eq_true rfl, Nat.le_of_ble_eq_true rfl, Nat.le_of_ble_eq_true rfl, Nat.le_of_ble_eq_true rfl⟩ dX5_shorts_24 (fun r_24 u_24 h_24 => ?_)
  skip
  refine g_iret F hr hlk rfl dX5_shorts_27 ?_
  exact ⟨q, hq, CHG.fin hrq hs1 hs2 f1 f2 h_24⟩
set_option maxHeartbeats 4000000 in
set_option maxRecDepth 100000 in
theorem c_X5_pass {l : Launch} {G : Gm} (hj : Aj G) {I : Ii} {pm : Pm} {x : Int32} {σ : Sg} {hn : Nat} {hist : Nat → Sg} {sv : Nat → Int32} {sl : Nat → Sg} {pl : Nat} {pad : Sg} (C : CR I pm σ hn hist sv sl pl pad) : CI l G yX5_pass (wz yX5_pass cX5_pass 2 (some .int)) (rmL 6) [.ref (G.2.2 8 0), .int x] I pm (fun r u => ∃ q, pasR x σ q ∧ CHG I u r q σ hn hist sv sl pl pad) := by
  refine CI.walk hj (by decide +kernel) (by show _ ≤ 2; exact Nat.le_of_ble_eq_true rfl) ?_
  intro p e s m args below meth c F hr hlk
  refine g_aload_n F 0 dX5_pass_0 rfl rfl ?_
  refine gf_8_2 F (by decide) mFL_X5_22 dX5_pass_1 ?_
  refine g_aload_n F 0 dX5_pass_4 rfl rfl ?_
  refine gf_8_0 F (by decide) mFL_X5_12 dX5_pass_5 ?_
  refine g_callVv (na := 1) F 9 _ (c_X0_draft hj C) (by decide) rfl rfl lk_X5_41 rfl rfl (by decide +kernel) ⟨rfl, rfl, Nat.le_of_ble_eq_true rfl, Nat.le_of_ble_eq_true rfl, Nat.le_of_ble_eq_true rfl, Nat.le_of_ble_eq_true rfl, Nat.le_of_ble_eq_true rfl⟩ dX5_pass_8 (fun u_8 h_8 => ?_)
  obtain ⟨D, f1⟩ := h_8
  obtain ⟨n, h, R, V⟩ := id D.1
  have hn8 := V.2.1
  have hh20 := V.2.2.2.1
  refine g_aload_n F 0 dX5_pass_11 rfl rfl ?_
  refine gf_8_2 F (by decide) mFL_X5_22 dX5_pass_12 ?_
  refine g_aload_n F 0 dX5_pass_15 rfl rfl ?_
  refine gf_8_0 F (by decide) mFL_X5_12 dX5_pass_16 ?_
  refine g_iload_n F 1 dX5_pass_19 rfl rfl ?_
  refine g_callIv (na := 1) F 0 _ (c_X1_takeTicks hj (by decide) R V) (by decide) rfl rfl lk_X5_76 rfl rfl (by decide +kernel) ⟨rfl, rfl, Nat.le_of_ble_eq_true rfl, Nat.le_of_ble_eq_true rfl, Nat.le_of_ble_eq_true rfl, Nat.le_of_ble_eq_true rfl, Nat.le_of_ble_eq_true rfl⟩ dX5_pass_20 (fun r_20 u_20 h_20 => ?_)
  obtain ⟨q, hq, hrq, QD⟩ : ∃ q, pasR x σ q ∧ r_20 = q.1 ∧ OPD u_8.1 u_20 q σ hn hist sv sl pl pad := by
    rcases h_20 with ⟨hb, rfl, hu⟩ | ⟨hb, ht, rfl, hu⟩ | ⟨hb, ht, rfl, Ru, Fu⟩
    · exact ⟨(-2, σ), Or.inl ⟨hb, rfl⟩, rfl, OPD.err D hu (show (-2 : Int32) < 0 by decide)⟩
    · exact ⟨(-5, σ), Or.inr (Or.inl ⟨hb, ht, rfl⟩), rfl, OPD.err D hu (show (-5 : Int32) < 0 by decide)⟩
    · exact ⟨((itS n h σ x.toInt.toNat).2, (itS n h σ x.toInt.toNat).1), Or.inr (Or.inr ⟨hb, ht, by rw [V.nofe, V.hofe]⟩), rfl, OPD.ok D Fu (rps Ru (V.it _)) (by obtain ⟨m, hm, e⟩ := it_cnt n h σ x.toInt.toNat; have := rng (x := x) (M := 99) (m := 99) rfl (Int32.le_trans (by decide) hb.1) hb.2; show ¬ (itS _ _ _ _).2 < 0; rw [e]; exact nneg (by omega))⟩
  obtain ⟨⟨s2, D2, hs1, hs2⟩, f2⟩ := QD
  refine g_callIv (na := 1) F 9 _ (c_X0_kept hj D2) (by decide) rfl rfl lk_X5_49 rfl rfl (by decide +kernel) ⟨rfl, rfl, Nat.le_of_ble_eq_true rfl, Nat.le_of_ble_eq_true rfl, Nat.le_of_ble_eq_true rfl, Nat.le_of_ble_eq_true rfl, Nat.le_of_ble_eq_true rfl⟩ dX5_pass_23 (fun r_23 u_23 h_23 => ?_)
  skip
  refine g_iret F hr hlk rfl dX5_pass_26 ?_
  exact ⟨q, hq, CHG.fin hrq hs1 hs2 f1 f2 h_23⟩
set_option maxHeartbeats 4000000 in
set_option maxRecDepth 100000 in
theorem c_X5_undo {l : Launch} {G : Gm} (hj : Aj G) {I : Ii} {pm : Pm} {σ : Sg} {hn : Nat} {hist : Nat → Sg} {sv : Nat → Int32} {sl : Nat → Sg} {pl : Nat} {pad : Sg} (C : CR I pm σ hn hist sv sl pl pad) : CI l G yX5_undo (wz yX5_undo cX5_undo 1 (some .int)) (rmL 4) [.ref (G.2.2 8 0)] I pm (fun r u => (hn = 0 ∧ r = -5 ∧ u = (I, pm)) ∨ (0 < hn ∧ r = nI (hn - 1) ∧ CR u.1 u.2 (hist (hn - 1)) (hn - 1) hist sv sl pl pad ∧ FC I u.1)) := by
  refine CI.walk hj (by decide +kernel) (by show _ ≤ 1; exact Nat.le_of_ble_eq_true rfl) ?_
  intro p e s m args below meth c F hr hlk
  refine g_aload_n F 0 dX5_undo_0 rfl rfl ?_
  refine gf_8_2 F (by decide) mFL_X5_22 dX5_undo_1 ?_
  refine g_aload_n F 0 dX5_undo_4 rfl rfl ?_
  refine gf_8_0 F (by decide) mFL_X5_12 dX5_undo_5 ?_
  refine g_callIv (na := 1) F 9 _ (c_X0_takeBack hj C) (by decide) rfl rfl lk_X5_188 rfl rfl (by decide +kernel) ⟨rfl, rfl, Nat.le_of_ble_eq_true rfl, Nat.le_of_ble_eq_true rfl, Nat.le_of_ble_eq_true rfl, Nat.le_of_ble_eq_true rfl, Nat.le_of_ble_eq_true rfl⟩ dX5_undo_8 (fun r_8 u_8 h_8 => ?_)
  skip
  refine g_iret F hr hlk rfl dX5_undo_11 ?_
  exact h_8
