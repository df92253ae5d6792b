/-! PART 18: what the class holds, and its history -/
theorem Rp.cong {n h : Nat} {I I' : Ii} {pm pm' : Pm} {k : Nat} {σ : Sg} (R : Rp n h I pm k σ) (u : ∀ K i c, inL k K i → I' K i c = I K i c) (up : ∀ r, pm' k r = pm k r) : Rp n h I' pm' k σ := by
  obtain ⟨⟨a1, a2, a3, a4, a5, a6, a7, a8⟩, b, c, d, e1, e2, e3, e4, e5, e6⟩ := R
  have u0 : ∀ K j, K ≤ 6 → I' K k j = I K k j := fun K j hK => u K k j (inL_0 hK)
  refine ⟨⟨?_, ?_, ?_, ?_, ?_, ?_, ?_, ?_⟩, fun b' hb' => ?_, fun r' f' hr' hf' => ?_, fun j hj => ?_, fun r hr => by rw [up]; exact e1 r hr, fun r r' hr hr' hq => e2 r r' hr hr' (by rw [← up, ← up]; exact hq), e3, e4, e5, e6⟩
  · rw [u0 _ _ (by decide)]; exact a1
  · rw [u0 _ _ (by decide)]; exact a2
  · rw [u0 _ _ (by decide)]; exact a3
  · rw [u0 _ _ (by decide), u0 _ _ (by decide)]; exact a4
  · rw [u0 _ _ (by decide)]; exact a5
  · rw [u0 _ _ (by decide)]; exact a6
  · rw [u0 _ _ (by decide)]; exact a7
  · rw [u0 _ _ (by decide)]; exact a8
  · rw [u0 _ _ (by decide)]; exact b b' hb'
  · rw [up, u _ _ _ (inL_7 (e1 r' (by omega)))]
    exact c r' f' hr' hf'
  · rw [u0 _ _ (by decide), u0 _ _ (by decide), u0 _ _ (by decide)]; exact d j hj
def RpS (I : Ii) (pm : Pm) (k : Nat) (σ : Sg) : Prop := ∃ n h, Rp n h I pm k σ ∧ Iv n h σ
theorem RpS.cong {I I' : Ii} {pm pm' : Pm} {k : Nat} {σ : Sg} (R : RpS I pm k σ) (u : ∀ K i c, inL k K i → I' K i c = I K i c) (up : ∀ r, pm' k r = pm k r) : RpS I' pm' k σ := by
  obtain ⟨n, h, R, V⟩ := R
  exact ⟨n, h, R.cong u up, V⟩
theorem RpS.keep {I I' : Ii} {pm pm' : Pm} {k k2 : Nat} {σ : Sg} (R : RpS I pm k2 σ) (F : Fr k I pm I' pm') (hne : k2 ≠ k) : RpS I' pm' k2 σ := by
  obtain ⟨n, h, R, V⟩ := R
  exact ⟨n, h, R.keep F hne, V⟩
theorem inL_le {k K i : Nat} (h : inL k K i) : K ≤ 7 := h.elim (fun e => by omega) (fun e => by omega)
/-- the slots, the pad, the rows' places -/
def CO (I : Ii) (pm : Pm) (sv : Nat → Int32) (sl : Nat → Sg) (pl : Nat) (pad : Sg) : Prop := (∀ i, i < 2 → I 12 0 i = sv i ∧ (sv i = 0 ∨ sv i = 1) ∧ (sv i = 1 → RpS I pm (2 + i) (sl i))) ∧ I 13 0 1 = nI pl ∧ pl ≤ 80 ∧ (∀ i, i < pl → I 14 0 i = pad i) ∧ ∀ k, k < 11 → Pw pm k
def CR (I : Ii) (pm : Pm) (σ : Sg) (hn : Nat) (hist : Nat → Sg) (sv : Nat → Int32) (sl : Nat → Sg) (pl : Nat) (pad : Sg) : Prop := RpS I pm 0 σ ∧ (∃ a, a < 7 ∧ I 9 0 1 = nI a ∧ ∀ i, i < hn → RpS I pm (4 + (a + i) % 7) (hist i)) ∧ I 9 0 2 = nI hn ∧ hn ≤ 6 ∧ CO I pm sv sl pl pad
/-- a draft of σ0 stands behind the history -/
def DR (I : Ii) (pm : Pm) (σ0 σ : Sg) (hn : Nat) (hist : Nat → Sg) (sv : Nat → Int32) (sl : Nat → Sg) (pl : Nat) (pad : Sg) : Prop := RpS I pm 0 σ ∧ (∃ a, a < 7 ∧ I 9 0 1 = nI a ∧ (∀ i, i < hn → RpS I pm (4 + (a + i) % 7) (hist i)) ∧ RpS I pm (4 + (a + hn) % 7) σ0) ∧ I 9 0 2 = nI hn ∧ hn ≤ 6 ∧ CO I pm sv sl pl pad
def FC (I I' : Ii) : Prop := ∀ K i c, 16 ≤ K → I' K i c = I K i c
theorem FC.rf {I : Ii} : FC I I := fun _ _ _ _ => rfl
theorem FC.tr {I I1 I2 : Ii} (h1 : FC I I1) (h2 : FC I1 I2) : FC I I2 := fun K i c h => (h2 K i c h).trans (h1 K i c h)
theorem FC.fr {k : Nat} {I I' : Ii} {pm pm' : Pm} (F : Fr k I pm I' pm') : FC I I' := fun K i c h => F.1 K i c (fun q => by have := inL_le q; omega)
theorem FC.up {I : Ii} {K i j : Nat} {v : Int32} (h : K < 16) : FC I (up3 I K i j v) := fun K' i' c h' => up3_k (by omega)
theorem CO.keep {I I' : Ii} {pm pm' : Pm} {sv : Nat → Int32} {sl : Nat → Sg} {pl : Nat} {pad : Sg} {k : Nat} (C : CO I pm sv sl pl pad) (F : Fr k I pm I' pm') (hk : k ≠ 2 ∧ k ≠ 3) (hw : Pw pm' k) : CO I' pm' sv sl pl pad := by
  obtain ⟨c1, c2, c3, c4, c5⟩ := C
  have o : ∀ K i c, 7 < K → I' K i c = I K i c := fun K i c h => F.1 K i c (fun q => by have := inL_le q; omega)
  refine ⟨fun i hi => ⟨by rw [o _ _ _ (by decide)]; exact (c1 i hi).1, (c1 i hi).2.1, fun q => ((c1 i hi).2.2 q).keep F (by omega)⟩, by rw [o _ _ _ (by decide)]; exact c2, c3, fun i hi => by rw [o _ _ _ (by decide)]; exact c4 i hi, fun k' hk' => ?_⟩
  by_cases e : k' = k
  · rw [e]; exact hw
  · have := c5 k' hk'
    exact ⟨fun r hr => by rw [F.2 k' r e]; exact this.1 r hr, fun r r' hr hr' q => this.2 r r' hr hr' (by rw [← F.2 k' r e, ← F.2 k' r' e]; exact q)⟩
theorem CO.oth {I I' : Ii} {pm : Pm} {sv : Nat → Int32} {sl : Nat → Sg} {pl : Nat} {pad : Sg} (C : CO I pm sv sl pl pad) (o : ∀ K i c, K ≠ 9 → I' K i c = I K i c) : CO I' pm sv sl pl pad := by
  obtain ⟨c1, c2, c3, c4, c5⟩ := C
  exact ⟨fun i hi => ⟨by rw [o _ _ _ (by decide)]; exact (c1 i hi).1, (c1 i hi).2.1, fun q => ((c1 i hi).2.2 q).cong (fun K i c h => o K i c (by have := inL_le h; omega)) (fun _ => rfl)⟩, by rw [o _ _ _ (by decide)]; exact c2, c3, fun i hi => by rw [o _ _ _ (by decide)]; exact c4 i hi, c5⟩
theorem RpS.pw {I : Ii} {pm : Pm} {k : Nat} {σ : Sg} (R : RpS I pm k σ) : Pw pm k := by
  obtain ⟨n, h, R, -⟩ := R
  exact R.pw
/-- a draft behind a state -/
theorem CR.draft {I I' : Ii} {pm pm' : Pm} {σ : Sg} {hn : Nat} {hist : Nat → Sg} {sv : Nat → Int32} {sl : Nat → Sg} {pl : Nat} {pad : Sg} {a : Nat} (R0 : RpS I pm 0 σ) (ha : a < 7) (ea : I 9 0 1 = nI a) (hh : ∀ i, i < hn → RpS I pm (4 + (a + i) % 7) (hist i)) (en : I 9 0 2 = nI hn) (h6 : hn ≤ 6) (C : CO I pm sv sl pl pad) (F : Fr (4 + (a + hn) % 7) I pm I' pm') (R1 : RpS I' pm' (4 + (a + hn) % 7) σ) : DR I' pm' σ σ hn hist sv sl pl pad := by
  have o : ∀ K i c, 7 < K → I' K i c = I K i c := fun K i c h => F.1 K i c (fun q => by have := inL_le q; omega)
  exact ⟨R0.keep F (by omega), ⟨a, ha, by rw [o _ _ _ (by decide)]; exact ea, fun i hi => (hh i hi).keep F (by omega), R1⟩, by rw [o _ _ _ (by decide)]; exact en, h6, C.keep F (by omega) R1.pw⟩
theorem DR.op {I I' : Ii} {pm pm' : Pm} {σ0 σ σ' : Sg} {hn : Nat} {hist : Nat → Sg} {sv : Nat → Int32} {sl : Nat → Sg} {pl : Nat} {pad : Sg} (D : DR I pm σ0 σ hn hist sv sl pl pad) (F : Fr 0 I pm I' pm') (R1 : RpS I' pm' 0 σ') : DR I' pm' σ0 σ' hn hist sv sl pl pad := by
  obtain ⟨d1, ⟨a, ha, ea, hh, hd⟩, en, h6, C⟩ := D
  have o : ∀ K i c, 7 < K → I' K i c = I K i c := fun K i c h => F.1 K i c (fun q => by have := inL_le q; omega)
  exact ⟨R1, ⟨a, ha, by rw [o _ _ _ (by decide)]; exact ea, fun i hi => (hh i hi).keep F (by omega), hd.keep F (by omega)⟩, by rw [o _ _ _ (by decide)]; exact en, h6, C.keep F (by omega) R1.pw⟩
theorem DR.cr {I : Ii} {pm : Pm} {σ0 σ : Sg} {hn : Nat} {hist : Nat → Sg} {sv : Nat → Int32} {sl : Nat → Sg} {pl : Nat} {pad : Sg} (D : DR I pm σ0 σ hn hist sv sl pl pad) : CR I pm σ hn hist sv sl pl pad := by
  obtain ⟨d1, ⟨a, ha, ea, hh, hd⟩, en, h6, C⟩ := D
  exact ⟨d1, ⟨a, ha, ea, hh⟩, en, h6, C⟩
def pushN (hn : Nat) : Nat := if hn < 6 then hn + 1 else 6
def pushH (hn : Nat) (hist : Nat → Sg) (σ : Sg) : Nat → Sg := if hn < 6 then fun i => if i = hn then σ else hist i else fun i => if i = 5 then σ else hist (i + 1)
theorem DR.kept1 {I : Ii} {pm : Pm} {σ0 σ : Sg} {hn : Nat} {hist : Nat → Sg} {sv : Nat → Int32} {sl : Nat → Sg} {pl : Nat} {pad : Sg} (D : DR I pm σ0 σ hn hist sv sl pl pad) (h : hn < 6) : CR (up3 I 9 0 2 (I 9 0 2 + 1)) pm σ (pushN hn) (pushH hn hist σ0) sv sl pl pad := by
  obtain ⟨R0, ⟨a, ha, ea, hh, hd⟩, en, h6, CC⟩ := D
  have oc : ∀ (k : Nat) (s : Sg), RpS I pm k s → RpS (up3 I 9 0 2 (I 9 0 2 + 1)) pm k s := fun k s q => q.cong (fun K i c hL => up3_k (by have := inL_le hL; omega)) (fun _ => rfl)
  unfold pushN pushH
  rw [if_pos h, if_pos h]
  refine ⟨oc _ _ R0, ⟨a, ha, (up3_n (by decide)).trans ea, fun i hi => ?_⟩, ?_, by omega, CC.oth (fun K i c hK => up3_k hK)⟩
  · by_cases e : i = hn
    · simp only [if_pos e]
      rw [e]
      exact oc _ _ hd
    · simp only [if_neg e]
      exact oc _ _ (hh i (by omega))
  · rw [up3_s, en]
    exact nI_1 hn
theorem DR.kept2 {I : Ii} {pm : Pm} {σ0 σ : Sg} {hn : Nat} {hist : Nat → Sg} {sv : Nat → Int32} {sl : Nat → Sg} {pl : Nat} {pad : Sg} (D : DR I pm σ0 σ hn hist sv sl pl pad) (h : hn = 6) {b : Nat} (eb : I 9 0 1 = nI b) : CR (up3 I 9 0 1 ((I 9 0 1 + 1) % 7)) pm σ (pushN hn) (pushH hn hist σ0) sv sl pl pad := by
  subst h
  obtain ⟨R0, ⟨a, ha, ea, hh, hd⟩, en, h6, CC⟩ := D
  have oc : ∀ (k : Nat) (s : Sg), RpS I pm k s → RpS (up3 I 9 0 1 ((I 9 0 1 + 1) % 7)) pm k s := fun k s q => q.cong (fun K i c hL => up3_k (by have := inL_le hL; omega)) (fun _ => rfl)
  unfold pushN pushH
  rw [if_neg (by decide), if_neg (by decide)]
  refine ⟨oc _ _ R0, ⟨(a + 1) % 7, by omega, ?_, fun i hi => ?_⟩, (up3_n (by decide)).trans en, by decide, CC.oth (fun K i c hK => up3_k hK)⟩
  · rw [up3_s]
    exact nx_rem (nx_add ea (b := 1) rfl) (b := 7) rfl (by omega) (by decide) (by decide)
  · show RpS _ _ _ (if i = 5 then σ0 else hist (i + 1))
    by_cases e : i = 5
    · rw [if_pos e, e, show 4 + ((a + 1) % 7 + 5) % 7 = 4 + (a + 6) % 7 by omega]
      exact oc _ _ hd
    · rw [if_neg e, show 4 + ((a + 1) % 7 + i) % 7 = 4 + (a + (i + 1)) % 7 by omega]
      exact oc _ _ (hh (i + 1) (by omega))
set_option maxHeartbeats 4000000 in
set_option maxRecDepth 100000 in
theorem c_X0_draft {l : Launch} {G : Gm} (hj : Aj G) {I : Ii} {pm : Pm} {σ : Sg} {hn : Nat} {hist : Nat → Sg} {sv : Nat → Int32} {sl : Nat → Sg} {pl : Nat} {pad : Sg} (C : CR I pm σ hn hist sv sl pl pad) : CV l G yX0_draft (wz yX0_draft cX0_draft 2 none) (rmL 3) [.ref (G.2.2 9 0), .ref (G.2.2 0 0)] I pm (fun u => DR u.1 u.2 σ σ hn hist sv sl pl pad ∧ FC I u.1) := by
  obtain ⟨R0, ⟨a, ha, ea, hh⟩, en, h6, CC⟩ := C
  obtain ⟨n, h, R, V⟩ := id R0
  refine CV.walk hj (by decide +kernel) (by show _ ≤ 2; exact Nat.le_of_ble_eq_true rfl) ?_
  intro p e s m args below meth c F hr hlk
  refine g_aload_n F 0 dX0_draft_0 rfl rfl ?_
  refine gf_9_0 F (by decide) mFL_X0_11 dX0_draft_1 ?_
  refine g_aload_n F 0 dX0_draft_4 rfl rfl ?_
  refine gf_9_1 F (by decide) mFL_X0_18 dX0_draft_5 ?_
  refine g_aload_n F 0 dX0_draft_8 rfl rfl ?_
  refine gf_9_2 F (by decide) mFL_X0_22 dX0_draft_9 ?_
  refine g_iadd F dX0_draft_12 ?_
  refine g_bipush (v := 7) F dX0_draft_13 (by decide) ?_
  refine g_irem F dX0_draft_15 (by decide) ?_
  refine ga_10 (j := ((a + hn) % 7)) F (nx_rem (nx_add ea en) (b := 7) rfl (by omega) (by decide) (by decide)) (by omega) dX0_draft_16 ?_
  refine g_aload_n F 1 dX0_draft_17 rfl rfl ?_
  refine g_callVv (na := 1) F 0 _ (c_X1_copyFrom hj (by omega) (by decide) (by omega) R (CC.2.2.2.2 _ (by omega))) (show 4 + (a + hn) % 7 < 11 by omega) rfl rfl lk_X0_25 rfl rfl (by decide +kernel) ⟨rfl, rfl, Nat.le_of_ble_eq_true rfl, Nat.le_of_ble_eq_true rfl, Nat.le_of_ble_eq_true rfl, Nat.le_of_ble_eq_true rfl, Nat.le_of_ble_eq_true rfl⟩ dX0_draft_18 (fun u_18 h_18 => ?_)
  obtain ⟨Ru, Fu, ue⟩ := h_18
  refine g_vret F hr hlk dX0_draft_21 ?_
  exact ⟨CR.draft R0 ha ea hh en h6 CC Fu ⟨n, h, Ru, V⟩, FC.fr Fu⟩
set_option maxHeartbeats 4000000 in
set_option maxRecDepth 100000 in
theorem c_X0_kept {l : Launch} {G : Gm} (hj : Aj G) {I : Ii} {pm : Pm} {σ0 : Sg} {σ : Sg} {hn : Nat} {hist : Nat → Sg} {sv : Nat → Int32} {sl : Nat → Sg} {pl : Nat} {pad : Sg} (D : DR I pm σ0 σ hn hist sv sl pl pad) {x : Int32} : CI l G yX0_kept (wz yX0_kept cX0_kept 2 (some .int)) (rmL 0) [.ref (G.2.2 9 0), .int x] I pm (fun r u => r = x ∧ ((x < 0 ∧ CR u.1 u.2 σ hn hist sv sl pl pad) ∨ (¬ x < 0 ∧ CR u.1 u.2 σ (pushN hn) (pushH hn hist σ0) sv sl pl pad)) ∧ FC I u.1) := by
  obtain ⟨R0, ⟨a, ha, ea, hh, hd⟩, en, h6, CC⟩ := id D
  refine CI.walk hj (by decide +kernel) (by show _ ≤ 2; exact Nat.le_of_ble_eq_true rfl) ?_
  intro p e s m args below meth c F hr hlk
  refine g_iload_n F 1 dX0_kept_0 rfl rfl ?_
  refine g_if_ge F 6 dX0_kept_1 (by decide) (fun c_1 => ?_) (fun c_1 => ?_)
  · refine g_aload_n F 0 dX0_kept_6 rfl rfl ?_
    refine gf_9_2 F (by decide) mFL_X0_22 dX0_kept_7 ?_
    refine g_bipush (v := 6) F dX0_kept_10 (by decide) ?_
    refine g_icmp_ge F 28 dX0_kept_12 (by decide) (fun c_12 => ?_) (fun c_12 => ?_)
    · have n_12 := nx_get (a := hn) (b := 6) en rfl (by omega) (by omega) c_12
      have FIN := D.kept2 (by omega) ea
      refine g_aload_n F 0 dX0_kept_28 rfl rfl ?_
      refine g_aload_n F 0 dX0_kept_29 rfl rfl ?_
      refine gf_9_1 F (by decide) mFL_X0_18 dX0_kept_30 ?_
      refine g_iconst (v := 1) F dX0_kept_33 (by decide) ?_
      refine g_iadd F dX0_kept_34 ?_
      refine g_bipush (v := 7) F dX0_kept_35 (by decide) ?_
      refine g_irem F dX0_kept_37 (by decide) ?_
      refine gp_9_1 F (by decide) mFL_X0_18 dX0_kept_38 ?_
      refine g_iload_n F 1 dX0_kept_41 rfl rfl ?_
      refine g_iret F hr hlk rfl dX0_kept_42 ?_
      exact ⟨rfl, Or.inr ⟨Int32.not_lt.mpr c_1, FIN⟩, FC.up (by decide)⟩
    · have n_12 := nx_gef (a := hn) (b := 6) en rfl (by omega) (by omega) c_12
      have FIN := D.kept1 n_12
      refine g_aload_n F 0 dX0_kept_15 rfl rfl ?_
      refine g_dup F dX0_kept_16 rfl ?_
      refine gf_9_2 F (by decide) mFL_X0_22 dX0_kept_17 ?_
      refine g_iconst (v := 1) F dX0_kept_20 (by decide) ?_
      refine g_iadd F dX0_kept_21 ?_
      refine gp_9_2 F (by decide) mFL_X0_22 dX0_kept_22 ?_
      refine g_goto F 41 dX0_kept_25 (by decide) ?_
      refine g_iload_n F 1 dX0_kept_41 rfl rfl ?_
      refine g_iret F hr hlk rfl dX0_kept_42 ?_
      exact ⟨rfl, Or.inr ⟨Int32.not_lt.mpr c_1, FIN⟩, FC.up (by decide)⟩
  · refine g_iload_n F 1 dX0_kept_4 rfl rfl ?_
    refine g_iret F hr hlk rfl dX0_kept_5 ?_
    exact ⟨rfl, Or.inl ⟨Int32.not_le.mp c_1, D.cr⟩, FC.rf⟩
set_option maxHeartbeats 4000000 in
set_option maxRecDepth 100000 in
theorem c_X0_takeBack {l : Launch} {G : Gm} (hj : Aj G) {I : Ii} {pm : Pm} {σ : Sg} {hn : Nat} {hist : Nat → Sg} {sv : Nat → Int32} {sl : Nat → Sg} {pl : Nat} {pad : Sg} (C : CR I pm σ hn hist sv sl pl pad) : CI l G yX0_takeBack (wz yX0_takeBack cX0_takeBack 2 (some .int)) (rmL 3) [.ref (G.2.2 9 0), .ref (G.2.2 0 0)] I pm (fun r u => (hn = 0 ∧ r = -5 ∧ u = (I, pm)) ∨ (0 < hn ∧ r = nI (hn - 1) ∧ CR u.1 u.2 (hist (hn - 1)) (hn - 1) hist sv sl pl pad ∧ FC I u.1)) := by
  obtain ⟨R0, ⟨a, ha, ea, hh⟩, en, h6, CC⟩ := id C
  refine CI.walk hj (by decide +kernel) (by show _ ≤ 2; exact Nat.le_of_ble_eq_true rfl) ?_
  intro p e s m args below meth c F hr hlk
  refine g_aload_n F 0 dX0_takeBack_0 rfl rfl ?_
  refine gf_9_2 F (by decide) mFL_X0_22 dX0_takeBack_1 ?_
  refine g_iconst (v := 1) F dX0_takeBack_4 (by decide) ?_
  refine g_icmp_ge F 11 dX0_takeBack_5 (by decide) (fun c_5 => ?_) (fun c_5 => ?_)
  · have n_5 := nx_get (a := hn) (b := 1) en rfl (by omega) (by omega) c_5
    refine g_aload_n F 0 dX0_takeBack_11 rfl rfl ?_
    refine g_dup F dX0_takeBack_12 rfl ?_
    refine gf_9_2 F (by decide) mFL_X0_22 dX0_takeBack_13 ?_
    refine g_iconst (v := 1) F dX0_takeBack_16 (by decide) ?_
    refine g_isub F dX0_takeBack_17 ?_
    refine gp_9_2 F (by decide) mFL_X0_22 dX0_takeBack_18 ?_
    have en1 : up3 I 9 0 2 (I 9 0 2 - 1) 9 0 2 = nI (hn - 1) := by rw [up3_s]; exact nx_sub en (b := 1) rfl (by omega)
    have ea1 : up3 I 9 0 2 (I 9 0 2 - 1) 9 0 1 = nI a := by rw [up3_n (by decide)]; exact ea
    have oc : ∀ (k : Nat) (s : Sg), RpS I pm k s → RpS (up3 I 9 0 2 (I 9 0 2 - 1)) pm k s := fun k s q => q.cong (fun K i c hL => up3_k (by have := inL_le hL; omega)) (fun _ => rfl)
    obtain ⟨n, h, R, V⟩ := oc _ _ (hh (hn - 1) (by omega))
    have CC1 := CC.oth (I' := up3 I 9 0 2 (I 9 0 2 - 1)) (fun K i c hK => up3_k hK)
    refine g_aload_n F 1 dX0_takeBack_21 rfl rfl ?_
    refine g_aload_n F 0 dX0_takeBack_22 rfl rfl ?_
    refine gf_9_0 F (by decide) mFL_X0_11 dX0_takeBack_23 ?_
    refine g_aload_n F 0 dX0_takeBack_26 rfl rfl ?_
    refine gf_9_1 F (by decide) mFL_X0_18 dX0_takeBack_27 ?_
    refine g_aload_n F 0 dX0_takeBack_30 rfl rfl ?_
    refine gf_9_2 F (by decide) mFL_X0_22 dX0_takeBack_31 ?_
    refine g_iadd F dX0_takeBack_34 ?_
    refine g_bipush (v := 7) F dX0_takeBack_35 (by decide) ?_
    refine g_irem F dX0_takeBack_37 (by decide) ?_
    refine ga_10 (j := ((a + (hn - 1)) % 7)) F (nx_rem (nx_add ea1 en1) (b := 7) rfl (by omega) (by decide) (by decide)) (by omega) dX0_takeBack_38 ?_
    refine g_callVv (na := 1) F 0 _ (c_X1_copyFrom hj (by decide) (by omega) (by omega) R (CC1.2.2.2.2 _ (by decide))) (by decide) rfl rfl lk_X0_25 rfl rfl (by decide +kernel) ⟨rfl, rfl, Nat.le_of_ble_eq_true rfl, Nat.le_of_ble_eq_true rfl, Nat.le_of_ble_eq_true rfl, Nat.le_of_ble_eq_true rfl, Nat.le_of_ble_eq_true rfl⟩ dX0_takeBack_39 (fun u_39 h_39 => ?_)
    obtain ⟨Ru, Fu, ue⟩ := h_39
    have o : ∀ K i c, 7 < K → u_39.1 K i c = up3 I 9 0 2 (I 9 0 2 - 1) K i c := fun K i c h => Fu.1 K i c (fun q => by have := inL_le q; omega)
    refine g_aload_n F 0 dX0_takeBack_42 rfl rfl ?_
    refine gf_9_2 F (by decide) mFL_X0_22 dX0_takeBack_43 ?_
    refine g_iret F hr hlk rfl dX0_takeBack_46 ?_
    have R1 : RpS u_39.1 u_39.2 0 (hist (hn - 1)) := ⟨n, h, Ru, V⟩
    have e9 : u_39.1 9 0 2 = nI (hn - 1) := (o 9 0 2 (by decide)).trans en1
    exact Or.inr ⟨by omega, e9, ⟨R1, ⟨a, ha, (o 9 0 1 (by decide)).trans ea1, fun i hi => (oc _ _ (hh i (by omega))).keep Fu (by omega)⟩, e9, by omega, CC1.keep Fu (by decide) R1.pw⟩, (FC.up (by decide)).tr (FC.fr Fu)⟩
  · have n_5 := nx_gef (a := hn) (b := 1) en rfl (by omega) (by omega) c_5
    refine g_bipush (v := -5) F dX0_takeBack_8 (by decide) ?_
    refine g_iret F hr hlk rfl dX0_takeBack_10 ?_
    exact Or.inl ⟨by omega, rfl, rfl⟩
