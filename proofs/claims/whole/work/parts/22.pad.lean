/-! PART 22: the pad: a text is read from left to right -/
def sgT (pl : Nat) (pad : Sg) (i : Nat) : Int32 := if i < pl then pad i else 0
def chT (pl : Nat) (pad : Sg) (x : Int32) (p : Nat) : Bool × Nat := if sgT pl pad p = x then (true, p + 1) else (false, p)
def dgT (pl : Nat) (pad : Sg) (m : Int32) (p : Nat) : Bool × Nat := if 48 ≤ sgT pl pad p ∧ sgT pl pad p ≤ 48 + m then (true, p + 1) else (false, p)
def nmI (pl : Nat) (pad : Sg) : Nat → Int32 × Nat → Int32 × Nat
  | 0, q => q
  | t + 1, q => if 0 < q.1 ∧ (48 ≤ sgT pl pad q.2 ∧ sgT pl pad q.2 ≤ 57) then nmI pl pad t (10 * q.1 + sgT pl pad q.2 - 48, q.2 + 1) else q
def nmT (pl : Nat) (pad : Sg) (p : Nat) : Bool × Nat := if 48 ≤ sgT pl pad p ∧ sgT pl pad p ≤ 57 then (true, (nmI pl pad 2 (sgT pl pad p - 48, p + 1)).2) else (false, p)
def nmV (pl : Nat) (pad : Sg) (p : Nat) : Int32 := (nmI pl pad 2 (sgT pl pad p - 48, p + 1)).1
def thn (r : Bool × Nat) (f : Nat → Bool × Nat) : Bool × Nat := if r.1 = true then f r.2 else r
def orT (pl : Nat) (pad : Sg) (p : Nat) : Bool × Nat :=
  if sgT pl pad p = 111 then thn (thn (thn (thn (nmT pl pad (p + 1)) (chT pl pad 58)) (nmT pl pad)) (chT pl pad 33)) (dgT pl pad 3)
  else if sgT pl pad p = 102 then thn (thn (thn (thn (nmT pl pad (p + 1)) (chT pl pad 44)) (nmT pl pad)) (chT pl pad 44)) (nmT pl pad)
  else if sgT pl pad p = 115 then thn (thn (dgT pl pad 7 (p + 1)) (chT pl pad 42)) (nmT pl pad)
  else if sgT pl pad p = 116 then nmT pl pad (p + 1)
  else (false, p)
/-- where the second and the third number begin -/
def p2T (pl : Nat) (pad : Sg) (p : Nat) : Nat := (nmT pl pad (p + 1)).2 + 1
def p3T (pl : Nat) (pad : Sg) (p : Nat) : Nat := (nmT pl pad (p2T pl pad p)).2 + 1
def PD (I : Ii) (pl : Nat) (pad : Sg) : Prop := I 13 0 1 = nI pl ∧ pl ≤ 80 ∧ ∀ i, i < pl → I 14 0 i = pad i
def FP (I I' : Ii) : Prop := ∀ K i c, ¬ (K = 13 ∧ (c = 2 ∨ c = 3 ∨ c = 5)) → K ≠ 15 → I' K i c = I K i c
theorem FP.rf {I : Ii} : FP I I := fun _ _ _ _ _ => rfl
theorem FP.tr {I I1 I2 : Ii} (h1 : FP I I1) (h2 : FP I1 I2) : FP I I2 := fun K i c h h' => (h2 K i c h h').trans (h1 K i c h h')
theorem FP.at_ {I : Ii} {i j : Nat} {v : Int32} (h : j = 2 ∨ j = 3 ∨ j = 5) : FP I (up3 I 13 i j v) := fun K a c q _ => up3_n (fun e => q ⟨e.1, by rw [e.2.2]; exact h⟩)
theorem FP.nu {I : Ii} {i j : Nat} {v : Int32} : FP I (up3 I 15 i j v) := fun K a c _ q => up3_k q
theorem PD.fp {I I' : Ii} {pl : Nat} {pad : Sg} (h : PD I pl pad) (f : FP I I') : PD I' pl pad := ⟨by rw [f 13 0 1 (by decide) (by decide)]; exact h.1, h.2.1, fun i hi => by rw [f 14 0 i (by omega) (by decide)]; exact h.2.2 i hi⟩
theorem nmI_ge (pl : Nat) (pad : Sg) : ∀ t q, q.2 ≤ (nmI pl pad t q).2 := by
  intro t
  induction t with
  | zero => exact fun q => Nat.le_refl _
  | succ t ih =>
    intro q
    unfold nmI
    split
    · exact Nat.le_trans (Nat.le_succ _) (ih (_, q.2 + 1))
    · exact Nat.le_refl _
theorem dig_in {pl : Nat} {pad : Sg} {p : Nat} (h : 48 ≤ sgT pl pad p) : p < pl := by
  unfold sgT at h
  by_cases c : p < pl
  · exact c
  · rw [if_neg c] at h
    exact absurd h Bool.false_ne_true
theorem nmI_le (pl : Nat) (pad : Sg) : ∀ t q, q.2 ≤ pl → (nmI pl pad t q).2 ≤ pl := by
  intro t
  induction t with
  | zero => exact fun q h => h
  | succ t ih =>
    intro q h
    unfold nmI
    split
    · rename_i c
      exact ih (_, q.2 + 1) (dig_in c.2.1)
    · exact h
theorem sg_in {pl : Nat} {pad : Sg} {p : Nat} {x : Int32} (h : sgT pl pad p = x) (hx : x ≠ 0) : p < pl := by
  unfold sgT at h
  by_cases c : p < pl
  · exact c
  · rw [if_neg c] at h
    exact absurd h.symm hx
theorem nmT_ok {pl : Nat} {pad : Sg} {p : Nat} (h : (nmT pl pad p).1 = true) : p < pl ∧ p + 1 ≤ (nmT pl pad p).2 ∧ (nmT pl pad p).2 ≤ pl ∧ (nmT pl pad p).2 = (nmI pl pad 2 (sgT pl pad p - 48, p + 1)).2 ∧ (48 ≤ sgT pl pad p ∧ sgT pl pad p ≤ 57) := by
  unfold nmT at h ⊢
  by_cases c : 48 ≤ sgT pl pad p ∧ sgT pl pad p ≤ 57
  · rw [if_pos c]
    exact ⟨dig_in c.1, nmI_ge pl pad 2 (sgT pl pad p - 48, p + 1), nmI_le pl pad 2 (sgT pl pad p - 48, p + 1) (dig_in c.1), rfl, c⟩
  · rw [if_neg c] at h
    exact absurd h Bool.false_ne_true
theorem chT_ok {pl : Nat} {pad : Sg} {p : Nat} {x : Int32} (h : (chT pl pad x p).1 = true) (hx : x ≠ 0) : p < pl ∧ (chT pl pad x p).2 = p + 1 ∧ sgT pl pad p = x := by
  unfold chT at h ⊢
  by_cases c : sgT pl pad p = x
  · rw [if_pos c]
    exact ⟨sg_in c hx, rfl, c⟩
  · rw [if_neg c] at h
    exact absurd h Bool.false_ne_true
theorem dgT_ok {pl : Nat} {pad : Sg} {p : Nat} {m : Int32} (h : (dgT pl pad m p).1 = true) : p < pl ∧ (dgT pl pad m p).2 = p + 1 ∧ (48 ≤ sgT pl pad p ∧ sgT pl pad p ≤ 48 + m) := by
  unfold dgT at h ⊢
  by_cases c : 48 ≤ sgT pl pad p ∧ sgT pl pad p ≤ 48 + m
  · rw [if_pos c]
    exact ⟨dig_in c.1, rfl, c⟩
  · rw [if_neg c] at h
    exact absurd h Bool.false_ne_true
theorem thn_t {r : Bool × Nat} {f : Nat → Bool × Nat} (h : r.1 = true) : thn r f = f r.2 := if_pos h
theorem thn_f {r : Bool × Nat} {f : Nat → Bool × Nat} (h : ¬ r.1 = true) : thn r f = r := if_neg h
theorem thn_ok {r : Bool × Nat} {f : Nat → Bool × Nat} (h : (thn r f).1 = true) : r.1 = true ∧ (f r.2).1 = true ∧ thn r f = f r.2 := by
  by_cases c : r.1 = true
  · rw [thn_t c] at h
    exact ⟨c, h, thn_t c⟩
  · rw [thn_f c] at h
    exact absurd h c
theorem nmT_f {pl : Nat} {pad : Sg} {p : Nat} (h : ¬ (nmT pl pad p).1 = true) : nmT pl pad p = (false, p) := by
  unfold nmT at h ⊢
  split
  · rename_i c
    rw [if_pos c] at h
    exact absurd rfl h
  · rfl
theorem chT_f {pl : Nat} {pad : Sg} {p : Nat} {x : Int32} (h : ¬ (chT pl pad x p).1 = true) : chT pl pad x p = (false, p) := by
  unfold chT at h ⊢
  split
  · rename_i c
    rw [if_pos c] at h
    exact absurd rfl h
  · rfl
theorem dgT_f {pl : Nat} {pad : Sg} {p : Nat} {m : Int32} (h : ¬ (dgT pl pad m p).1 = true) : dgT pl pad m p = (false, p) := by
  unfold dgT at h ⊢
  split
  · rename_i c
    rw [if_pos c] at h
    exact absurd rfl h
  · rfl
theorem orT_ok {pl : Nat} {pad : Sg} {p : Nat} (h : (orT pl pad p).1 = true) : p + 2 ≤ (orT pl pad p).2 ∧ (orT pl pad p).2 ≤ pl := by
  unfold orT at h ⊢
  by_cases c1 : sgT pl pad p = 111
  · rw [if_pos c1] at h ⊢
    obtain ⟨h4, g5, e5⟩ := thn_ok h
    obtain ⟨h3, g4, e4⟩ := thn_ok h4
    obtain ⟨h2, g3, e3⟩ := thn_ok h3
    obtain ⟨h1, g2, e2⟩ := thn_ok h2
    rw [e5]
    have k5 := dgT_ok g5
    rw [e4] at k5 ⊢
    have k4 := chT_ok g4 (by decide)
    rw [e3] at k5 k4 ⊢
    have k3 := nmT_ok g3
    rw [e2] at k5 k4 k3 ⊢
    have k2 := chT_ok g2 (by decide)
    have k1 := nmT_ok h1
    omega
  · rw [if_neg c1] at h ⊢
    by_cases c2 : sgT pl pad p = 102
    · rw [if_pos c2] at h ⊢
      obtain ⟨h4, g5, e5⟩ := thn_ok h
      obtain ⟨h3, g4, e4⟩ := thn_ok h4
      obtain ⟨h2, g3, e3⟩ := thn_ok h3
      obtain ⟨h1, g2, e2⟩ := thn_ok h2
      rw [e5]
      have k5 := nmT_ok g5
      rw [e4] at k5 ⊢
      have k4 := chT_ok g4 (by decide)
      rw [e3] at k5 k4 ⊢
      have k3 := nmT_ok g3
      rw [e2] at k5 k4 k3 ⊢
      have k2 := chT_ok g2 (by decide)
      have k1 := nmT_ok h1
      omega
    · rw [if_neg c2] at h ⊢
      by_cases c3 : sgT pl pad p = 115
      · rw [if_pos c3] at h ⊢
        obtain ⟨h2, g3, e3⟩ := thn_ok h
        obtain ⟨h1, g2, e2⟩ := thn_ok h2
        rw [e3]
        have k3 := nmT_ok g3
        rw [e2] at k3 ⊢
        have k2 := chT_ok g2 (by decide)
        have k1 := dgT_ok h1
        omega
      · rw [if_neg c3] at h ⊢
        by_cases c4 : sgT pl pad p = 116
        · rw [if_pos c4] at h ⊢
          have k1 := nmT_ok h
          omega
        · rw [if_neg c4] at h
          exact absurd h Bool.false_ne_true
set_option maxHeartbeats 4000000 in
set_option maxRecDepth 100000 in
theorem c_X3_here {l : Launch} {G : Gm} (hj : Aj G) {I : Ii} {pm : Pm} {pl : Nat} {pad : Sg} (P : PD I pl pad) {tp : Nat} (hp : tp ≤ 80) (ep : I 13 0 2 = nI tp) : CI l G yX3_here (wz yX3_here cX3_here 1 (some .int)) (rmL 0) [.ref (G.2.2 13 0)] I pm (fun r u => r = sgT pl pad tp ∧ u = (I, pm)) := by
  have h80 := P.2.1
  refine CI.walk hj (by decide +kernel) (by show _ ≤ 1; exact Nat.le_of_ble_eq_true rfl) ?_
  intro p e s m args below meth c F hr hlk
  refine g_aload_n F 0 dX3_here_0 rfl rfl ?_
  refine gf_13_2 F (by decide) mFL_X3_35 dX3_here_1 ?_
  refine g_aload_n F 0 dX3_here_4 rfl rfl ?_
  refine gf_13_1 F (by decide) mFL_X3_23 dX3_here_5 ?_
  refine g_icmp_ge F 32 dX3_here_8 (by decide) (fun c_8 => ?_) (fun c_8 => ?_)
  · have n_8 := nx_get (a := tp) (b := pl) ep P.1 (by omega) (by omega) c_8
    refine g_iconst (v := 0) F dX3_here_32 (by decide) ?_
    refine g_iret F hr hlk rfl dX3_here_33 ?_
    exact ⟨by unfold sgT; rw [if_neg (by omega)], rfl⟩
  · have n_8 := nx_gef (a := tp) (b := pl) ep P.1 (by omega) (by omega) c_8
    refine g_aload_n F 0 dX3_here_11 rfl rfl ?_
    refine gf_13_2 F (by decide) mFL_X3_35 dX3_here_12 ?_
    refine g_bipush (v := 80) F dX3_here_15 (by decide) ?_
    refine g_icmp_ge F 32 dX3_here_17 (by decide) (fun c_17 => ?_) (fun c_17 => ?_)
    · have n_17 := nx_get (a := tp) (b := 80) ep rfl (by omega) (by omega) c_17
      refine g_iconst (v := 0) F dX3_here_32 (by decide) ?_
      refine g_iret F hr hlk rfl dX3_here_33 ?_
      exact ⟨by unfold sgT; rw [if_neg (by omega)], rfl⟩
    · have n_17 := nx_gef (a := tp) (b := 80) ep rfl (by omega) (by omega) c_17
      refine g_aload_n F 0 dX3_here_20 rfl rfl ?_
      refine gf_13_0 F (by decide) mFL_X3_9 dX3_here_21 ?_
      refine g_aload_n F 0 dX3_here_24 rfl rfl ?_
      refine gf_13_2 F (by decide) mFL_X3_35 dX3_here_25 ?_
      refine ga_14 (j := tp) F (by decide) ep (by omega) dX3_here_28 ?_
      refine g_goto F 33 dX3_here_29 (by decide) ?_
      refine g_iret F hr hlk rfl dX3_here_33 ?_
      exact ⟨by unfold sgT; rw [if_pos (by omega)]; exact P.2.2 tp (by omega), rfl⟩
set_option maxHeartbeats 4000000 in
set_option maxRecDepth 100000 in
theorem c_X3_reads {l : Launch} {G : Gm} (hj : Aj G) {I : Ii} {pm : Pm} {pl : Nat} {pad : Sg} (P : PD I pl pad) {tp : Nat} (hp : tp ≤ 80) (ep : I 13 0 2 = nI tp) {x : Int32} : CI l G yX3_reads (wz yX3_reads cX3_reads 2 (some .boolean)) (rmL 1) [.ref (G.2.2 13 0), .int x] I pm (fun r u => r = bz ((chT pl pad x tp).1 = true) ∧ ((chT pl pad x tp).1 = true → u = (up3 I 13 0 2 (nI (tp + 1)), pm)) ∧ (¬ (chT pl pad x tp).1 = true → u = (I, pm))) := by
  have h80 := P.2.1
  refine CI.walk hj (by decide +kernel) (by show _ ≤ 2; exact Nat.le_of_ble_eq_true rfl) ?_
  intro p e s m args below meth c F hr hlk
  refine g_aload_n F 0 dX3_reads_0 rfl rfl ?_
  refine g_callIv (na := 0) F 13 _ (c_X3_here hj P hp ep) (by decide) rfl rfl lk_X3_49 rfl rfl (by decide +kernel) ⟨rfl, rfl, Nat.le_of_ble_eq_true rfl, Nat.le_of_ble_eq_true rfl, Nat.le_of_ble_eq_true rfl, Nat.le_of_ble_eq_true rfl, Nat.le_of_ble_eq_true rfl⟩ dX3_reads_1 (fun r_1 u_1 h_1 => ?_)
  obtain ⟨rfl, rfl⟩ := h_1
  try dsimp only
  refine g_iload_n F 1 dX3_reads_4 rfl rfl ?_
  refine g_icmp_eq F 10 dX3_reads_5 (by decide) (fun c_5 => ?_) (fun c_5 => ?_)
  · have CC : (chT pl pad x tp).1 = true := by unfold chT; rw [if_pos c_5]
    refine g_aload_n F 0 dX3_reads_10 rfl rfl ?_
    refine g_dup F dX3_reads_11 rfl ?_
    refine gf_13_2 F (by decide) mFL_X3_35 dX3_reads_12 ?_
    refine g_iconst (v := 1) F dX3_reads_15 (by decide) ?_
    refine g_iadd F dX3_reads_16 ?_
    refine gp_13_2 F (by decide) mFL_X3_35 dX3_reads_17 ?_
    refine g_iconst (v := 1) F dX3_reads_20 (by decide) ?_
    refine g_iret F hr hlk rfl dX3_reads_21 ?_
    exact ⟨(bz_1.mpr CC).symm, fun _ => by rw [ep]; exact congrArg (fun z => (up3 I 13 0 2 z, pm)) (nI_1 tp), fun q => absurd CC q⟩
  · have CC : ¬ (chT pl pad x tp).1 = true := by unfold chT; rw [if_neg c_5]; exact Bool.false_ne_true
    refine g_iconst (v := 0) F dX3_reads_8 (by decide) ?_
    refine g_iret F hr hlk rfl dX3_reads_9 ?_
    exact ⟨(bz_0.mpr CC).symm, fun q => absurd q CC, fun _ => rfl⟩
set_option maxHeartbeats 4000000 in
set_option maxRecDepth 100000 in
theorem c_X3_hold {l : Launch} {G : Gm} (hj : Aj G) {I : Ii} {pm : Pm} {nr : Nat} (hn : nr < 3) (en : I 13 0 5 = nI nr) {x : Int32} : CV l G yX3_hold (wz yX3_hold cX3_hold 2 none) (rmL 0) [.ref (G.2.2 13 0), .int x] I pm (fun u => u = (up3 (up3 I 15 0 nr x) 13 0 5 (nI (nr + 1)), pm)) := by
  refine CV.walk hj (by decide +kernel) (by show _ ≤ 2; exact Nat.le_of_ble_eq_true rfl) ?_
  intro p e s m args below meth c F hr hlk
  refine g_aload_n F 0 dX3_hold_0 rfl rfl ?_
  refine gf_13_5 F (by decide) mFL_X3_56 dX3_hold_1 ?_
  refine g_iconst (v := 3) F dX3_hold_4 (by decide) ?_
  refine g_icmp_ge F 28 dX3_hold_5 (by decide) (fun c_5 => ?_) (fun c_5 => ?_)
  · have n_5 := nx_get (a := nr) (b := 3) en rfl (by omega) (by omega) c_5
    omega
  · have n_5 := nx_gef (a := nr) (b := 3) en rfl (by omega) (by omega) c_5
    refine g_aload_n F 0 dX3_hold_8 rfl rfl ?_
    refine gf_13_4 F (by decide) mFL_X3_15 dX3_hold_9 ?_
    refine g_aload_n F 0 dX3_hold_12 rfl rfl ?_
    refine gf_13_5 F (by decide) mFL_X3_56 dX3_hold_13 ?_
    refine g_iload_n F 1 dX3_hold_16 rfl rfl ?_
    refine gs_15 (j := nr) F (by decide) en (by omega) dX3_hold_17 ?_
    refine g_aload_n F 0 dX3_hold_18 rfl rfl ?_
    refine g_dup F dX3_hold_19 rfl ?_
    refine gf_13_5 F (by decide) mFL_X3_56 dX3_hold_20 ?_
    refine g_iconst (v := 1) F dX3_hold_23 (by decide) ?_
    refine g_iadd F dX3_hold_24 ?_
    refine gp_13_5 F (by decide) mFL_X3_56 dX3_hold_25 ?_
    refine g_vret F hr hlk dX3_hold_28 ?_
    have e5 : up3 I 15 0 nr x 13 0 5 = nI nr := (up3_k (by decide)).trans en
    rw [e5]
    exact congrArg (fun z => (up3 (up3 I 15 0 nr x) 13 0 5 z, pm)) (nI_1 nr)
set_option maxHeartbeats 4000000 in
set_option maxRecDepth 100000 in
theorem c_X3_readsDigit {l : Launch} {G : Gm} (hj : Aj G) {I : Ii} {pm : Pm} {pl : Nat} {pad : Sg} (P : PD I pl pad) {tp : Nat} (hp : tp ≤ 80) (ep : I 13 0 2 = nI tp) {nr : Nat} (hn : nr < 3) (en : I 13 0 5 = nI nr) {x : Int32} : CI l G yX3_readsDigit (wz yX3_readsDigit cX3_readsDigit 2 (some .boolean)) (rmL 2) [.ref (G.2.2 13 0), .int x] I pm (fun r u => r = bz ((dgT pl pad x tp).1 = true) ∧ ((dgT pl pad x tp).1 = true → ∃ ia, u = (ia, pm) ∧ FP I ia ∧ ia 13 0 2 = nI (tp + 1) ∧ ia 13 0 5 = nI (nr + 1) ∧ ia 15 0 nr = sgT pl pad tp - 48 ∧ (∀ j, j < nr → ia 15 0 j = I 15 0 j) ∧ ia 13 0 3 = I 13 0 3) ∧ (¬ (dgT pl pad x tp).1 = true → u = (I, pm))) := by
  have h80 := P.2.1
  refine CI.walk hj (by decide +kernel) (by show _ ≤ 2; exact Nat.le_of_ble_eq_true rfl) ?_
  intro p e s m args below meth c F hr hlk
  refine g_aload_n F 0 dX3_readsDigit_0 rfl rfl ?_
  refine g_callIv (na := 0) F 13 _ (c_X3_here hj P hp ep) (by decide) rfl rfl lk_X3_49 rfl rfl (by decide +kernel) ⟨rfl, rfl, Nat.le_of_ble_eq_true rfl, Nat.le_of_ble_eq_true rfl, Nat.le_of_ble_eq_true rfl, Nat.le_of_ble_eq_true rfl, Nat.le_of_ble_eq_true rfl⟩ dX3_readsDigit_1 (fun r_1 u_1 h_1 => ?_)
  obtain ⟨rfl, rfl⟩ := h_1
  try dsimp only
  refine g_bipush (v := 48) F dX3_readsDigit_4 (by decide) ?_
  refine g_bipush (v := 48) F dX3_readsDigit_6 (by decide) ?_
  refine g_iload_n F 1 dX3_readsDigit_8 rfl rfl ?_
  refine g_iadd F dX3_readsDigit_9 ?_
  refine g_callIn (na := 3) F (c_X5_within hj) (gw mCO_yX5_within) F.2.2.1.2.2.2.2 mST_yX5_within mIN_RX5 rfl rfl (by decide +kernel) ⟨rfl, rfl, Nat.le_of_ble_eq_true rfl, Nat.le_of_ble_eq_true rfl, Nat.le_of_ble_eq_true rfl, Nat.le_of_ble_eq_true rfl, Nat.le_of_ble_eq_true rfl⟩ dX3_readsDigit_10 (fun r_10 u_10 h_10 => ?_)
  obtain ⟨rfl, rfl⟩ := h_10
  try dsimp only
  refine g_if_ne F 18 dX3_readsDigit_13 (by decide) (fun c_13 => ?_) (fun c_13 => ?_)
  · have CC : (dgT pl pad x tp).1 = true := by unfold dgT; rw [if_pos (bz_n.mp c_13)]
    refine g_aload_n F 0 dX3_readsDigit_18 rfl rfl ?_
    refine g_aload_n F 0 dX3_readsDigit_19 rfl rfl ?_
    refine g_callIv (na := 0) F 13 _ (c_X3_here hj P hp ep) (by decide) rfl rfl lk_X3_49 rfl rfl (by decide +kernel) ⟨rfl, rfl, Nat.le_of_ble_eq_true rfl, Nat.le_of_ble_eq_true rfl, Nat.le_of_ble_eq_true rfl, Nat.le_of_ble_eq_true rfl, Nat.le_of_ble_eq_true rfl⟩ dX3_readsDigit_20 (fun r_20 u_20 h_20 => ?_)
    obtain ⟨rfl, rfl⟩ := h_20
    try dsimp only
    refine g_bipush (v := 48) F dX3_readsDigit_23 (by decide) ?_
    refine g_isub F dX3_readsDigit_25 ?_
    refine g_callVv (na := 1) F 13 _ (c_X3_hold hj hn en) (by decide) rfl rfl lk_X3_65 rfl rfl (by decide +kernel) ⟨rfl, rfl, Nat.le_of_ble_eq_true rfl, Nat.le_of_ble_eq_true rfl, Nat.le_of_ble_eq_true rfl, Nat.le_of_ble_eq_true rfl, Nat.le_of_ble_eq_true rfl⟩ dX3_readsDigit_26 (fun u_26 h_26 => ?_)
    subst h_26
    try dsimp only
    refine g_aload_n F 0 dX3_readsDigit_29 rfl rfl ?_
    refine g_dup F dX3_readsDigit_30 rfl ?_
    refine gf_13_2 F (by decide) mFL_X3_35 dX3_readsDigit_31 ?_
    refine g_iconst (v := 1) F dX3_readsDigit_34 (by decide) ?_
    refine g_iadd F dX3_readsDigit_35 ?_
    refine gp_13_2 F (by decide) mFL_X3_35 dX3_readsDigit_36 ?_
    refine g_iconst (v := 1) F dX3_readsDigit_39 (by decide) ?_
    refine g_iret F hr hlk rfl dX3_readsDigit_40 ?_
    refine ⟨(bz_1.mpr CC).symm, fun _ => ⟨_, rfl, (FP.nu.tr (FP.at_ (by decide))).tr (FP.at_ (by decide)), ?_, ?_, ?_, fun j hj2 => ?_, ?_⟩, fun q => absurd CC q⟩
    · simp [up3, ep]; exact nI_1 tp
    · simp [up3]
    · simp [up3]
    · simp [up3, show ¬ j = nr by omega]
    · simp [up3]
  · have CC : ¬ (dgT pl pad x tp).1 = true := by unfold dgT; rw [if_neg (bz_0.mp c_13)]; exact Bool.false_ne_true
    refine g_iconst (v := 0) F dX3_readsDigit_16 (by decide) ?_
    refine g_iret F hr hlk rfl dX3_readsDigit_17 ?_
    exact ⟨(bz_0.mpr CC).symm, fun q => absurd q CC, fun _ => rfl⟩
set_option maxHeartbeats 4000000 in
set_option maxRecDepth 100000 in
theorem c_X3_readsNumber {l : Launch} {G : Gm} (hj : Aj G) {I : Ii} {pm : Pm} {pl : Nat} {pad : Sg} (P : PD I pl pad) {tp : Nat} (hp : tp ≤ 80) (ep : I 13 0 2 = nI tp) {nr : Nat} (hn : nr < 3) (en : I 13 0 5 = nI nr) : CI l G yX3_readsNumber (wz yX3_readsNumber cX3_readsNumber 3 (some .boolean)) (rmL 1) [.ref (G.2.2 13 0)] I pm (fun r u => r = bz ((nmT pl pad tp).1 = true) ∧ ((nmT pl pad tp).1 = true → ∃ ia, u = (ia, pm) ∧ FP I ia ∧ ia 13 0 2 = nI (nmT pl pad tp).2 ∧ ia 13 0 5 = nI (nr + 1) ∧ ia 15 0 nr = nmV pl pad tp ∧ (∀ j, j < nr → ia 15 0 j = I 15 0 j) ∧ ia 13 0 3 = I 13 0 3) ∧ (¬ (nmT pl pad tp).1 = true → u = (I, pm))) := by
  refine CI.walk hj (by decide +kernel) (by show _ ≤ 3; exact Nat.le_of_ble_eq_true rfl) ?_
  intro p e s m args below meth c F hr hlk
  have h80 := P.2.1
  have LOOP : ∀ j, j ≤ 2 → (nmT pl pad tp).1 = true → ∀ (v xj : Int32) (q : Nat), xj = nI j → q ≤ pl → nmI pl pad 2 (sgT pl pad tp - 48, tp + 1) = nmI pl pad (2 - j) (v, q) → GG p l e (rmL 1) s m args below meth c G (AA G) 3 0 0 (MQ below (va_Qi (fun (r : Int32) (u : Ii × Pm) => r = bz ((nmT pl pad tp).1 = true) ∧ ((nmT pl pad tp).1 = true → ∃ ia, u = (ia, pm) ∧ FP I ia ∧ ia 13 0 2 = nI (nmT pl pad tp).2 ∧ ia 13 0 5 = nI (nr + 1) ∧ ia 15 0 nr = nmV pl pad tp ∧ (∀ j, j < nr → ia 15 0 j = I 15 0 j) ∧ ia 13 0 3 = I 13 0 3) ∧ (¬ (nmT pl pad tp).1 = true → u = (I, pm))) (fun (u : Ii × Pm) t => Wd G u.1 u.2 t.heap) (AA G)) args s 0 0 (AA G)) (up3 I 13 0 2 (nI q)) pm [(0, .ref (G.2.2 13 0)), (1, .int v), (2, .int xj)] 36 [] := by
    refine dn_ind ?_
    intro j hjl ih hok v xj q ej hq hI
    have P2 : PD (up3 I 13 0 2 (nI q)) pl pad := P.fp (FP.at_ (by decide))
    have e2 : up3 I 13 0 2 (nI q) 13 0 2 = nI q := up3_s
    have en2 : up3 I 13 0 2 (nI q) 13 0 5 = nI nr := (up3_n (by decide)).trans en
    refine g_iload_n F 2 dX3_readsNumber_36 rfl rfl ?_
    refine g_iconst (v := 2) F dX3_readsNumber_37 (by decide) ?_
    refine g_icmp_ge F 88 dX3_readsNumber_38 (by decide) (fun c_38 => ?_) (fun c_38 => ?_)
    · have n_38 := nx_get (a := j) (b := 2) ej rfl (by omega) (by omega) c_38
      have EE : nmI pl pad (2 - j) (v, q) = (v, q) := by rw [show 2 - j = 0 by omega]; rfl
      refine g_aload_n F 0 dX3_readsNumber_88 rfl rfl ?_
      refine g_iload_n F 1 dX3_readsNumber_89 rfl rfl ?_
      refine g_callVv (na := 1) F 13 _ (c_X3_hold hj hn en2) (by decide) rfl rfl lk_X3_65 rfl rfl (by decide +kernel) ⟨rfl, rfl, Nat.le_of_ble_eq_true rfl, Nat.le_of_ble_eq_true rfl, Nat.le_of_ble_eq_true rfl, Nat.le_of_ble_eq_true rfl, Nat.le_of_ble_eq_true rfl⟩ dX3_readsNumber_90 (fun u_90 h_90 => ?_)
      subst h_90
      try dsimp only
      refine g_iconst (v := 1) F dX3_readsNumber_93 (by decide) ?_
      refine g_iret F hr hlk rfl dX3_readsNumber_94 ?_
      have HH := hI.trans EE
      have kk := nmT_ok hok
      have ev : nmV pl pad tp = v := by unfold nmV; rw [HH]
      have ex : (nmT pl pad tp).2 = q := by rw [kk.2.2.2.1, HH]
      refine ⟨(bz_1.mpr hok).symm, fun _ => ⟨_, rfl, ((FP.at_ (by decide)).tr FP.nu).tr (FP.at_ (by decide)), ?_, ?_, ?_, fun i hi => ?_, ?_⟩, fun z => absurd hok z⟩
      · simp [up3, ex]
      · simp [up3]
      · simp [up3, ev]
      · simp [up3, show ¬ i = nr by omega]
      · simp [up3]
    · have n_38 := nx_gef (a := j) (b := 2) ej rfl (by omega) (by omega) c_38
      refine g_iload_n F 1 dX3_readsNumber_41 rfl rfl ?_
      refine g_if_le F 88 dX3_readsNumber_42 (by decide) (fun c_42 => ?_) (fun c_42 => ?_)
      · have EE : nmI pl pad (2 - j) (v, q) = (v, q) := by rw [show 2 - j = (1 - j) + 1 by omega]; exact if_neg (fun z => absurd z.1 (Int32.not_lt.mpr c_42))
        refine g_aload_n F 0 dX3_readsNumber_88 rfl rfl ?_
        refine g_iload_n F 1 dX3_readsNumber_89 rfl rfl ?_
        refine g_callVv (na := 1) F 13 _ (c_X3_hold hj hn en2) (by decide) rfl rfl lk_X3_65 rfl rfl (by decide +kernel) ⟨rfl, rfl, Nat.le_of_ble_eq_true rfl, Nat.le_of_ble_eq_true rfl, Nat.le_of_ble_eq_true rfl, Nat.le_of_ble_eq_true rfl, Nat.le_of_ble_eq_true rfl⟩ dX3_readsNumber_90 (fun u_90 h_90 => ?_)
        subst h_90
        try dsimp only
        refine g_iconst (v := 1) F dX3_readsNumber_93 (by decide) ?_
        refine g_iret F hr hlk rfl dX3_readsNumber_94 ?_
        have HH := hI.trans EE
        have kk := nmT_ok hok
        have ev : nmV pl pad tp = v := by unfold nmV; rw [HH]
        have ex : (nmT pl pad tp).2 = q := by rw [kk.2.2.2.1, HH]
        refine ⟨(bz_1.mpr hok).symm, fun _ => ⟨_, rfl, ((FP.at_ (by decide)).tr FP.nu).tr (FP.at_ (by decide)), ?_, ?_, ?_, fun i hi => ?_, ?_⟩, fun z => absurd hok z⟩
        · simp [up3, ex]
        · simp [up3]
        · simp [up3, ev]
        · simp [up3, show ¬ i = nr by omega]
        · simp [up3]
      · refine g_aload_n F 0 dX3_readsNumber_45 rfl rfl ?_
        refine g_callIv (na := 0) F 13 _ (c_X3_here hj P2 (by omega) e2) (by decide) rfl rfl lk_X3_49 rfl rfl (by decide +kernel) ⟨rfl, rfl, Nat.le_of_ble_eq_true rfl, Nat.le_of_ble_eq_true rfl, Nat.le_of_ble_eq_true rfl, Nat.le_of_ble_eq_true rfl, Nat.le_of_ble_eq_true rfl⟩ dX3_readsNumber_46 (fun r_46 u_46 h_46 => ?_)
        obtain ⟨rfl, rfl⟩ := h_46
        try dsimp only
        refine g_bipush (v := 48) F dX3_readsNumber_49 (by decide) ?_
        refine g_bipush (v := 57) F dX3_readsNumber_51 (by decide) ?_
        refine g_callIn (na := 3) F (c_X5_within hj) (gw mCO_yX5_within) F.2.2.1.2.2.2.2 mST_yX5_within mIN_RX5 rfl rfl (by decide +kernel) ⟨rfl, rfl, Nat.le_of_ble_eq_true rfl, Nat.le_of_ble_eq_true rfl, Nat.le_of_ble_eq_true rfl, Nat.le_of_ble_eq_true rfl, Nat.le_of_ble_eq_true rfl⟩ dX3_readsNumber_53 (fun r_53 u_53 h_53 => ?_)
        obtain ⟨rfl, rfl⟩ := h_53
        try dsimp only
        refine g_if_eq F 88 dX3_readsNumber_56 (by decide) (fun c_56 => ?_) (fun c_56 => ?_)
        · have EE : nmI pl pad (2 - j) (v, q) = (v, q) := by rw [show 2 - j = (1 - j) + 1 by omega]; exact if_neg (fun z => bz_0.mp c_56 z.2)
          refine g_aload_n F 0 dX3_readsNumber_88 rfl rfl ?_
          refine g_iload_n F 1 dX3_readsNumber_89 rfl rfl ?_
          refine g_callVv (na := 1) F 13 _ (c_X3_hold hj hn en2) (by decide) rfl rfl lk_X3_65 rfl rfl (by decide +kernel) ⟨rfl, rfl, Nat.le_of_ble_eq_true rfl, Nat.le_of_ble_eq_true rfl, Nat.le_of_ble_eq_true rfl, Nat.le_of_ble_eq_true rfl, Nat.le_of_ble_eq_true rfl⟩ dX3_readsNumber_90 (fun u_90 h_90 => ?_)
          subst h_90
          try dsimp only
          refine g_iconst (v := 1) F dX3_readsNumber_93 (by decide) ?_
          refine g_iret F hr hlk rfl dX3_readsNumber_94 ?_
          have HH := hI.trans EE
          have kk := nmT_ok hok
          have ev : nmV pl pad tp = v := by unfold nmV; rw [HH]
          have ex : (nmT pl pad tp).2 = q := by rw [kk.2.2.2.1, HH]
          refine ⟨(bz_1.mpr hok).symm, fun _ => ⟨_, rfl, ((FP.at_ (by decide)).tr FP.nu).tr (FP.at_ (by decide)), ?_, ?_, ?_, fun i hi => ?_, ?_⟩, fun z => absurd hok z⟩
          · simp [up3, ex]
          · simp [up3]
          · simp [up3, ev]
          · simp [up3, show ¬ i = nr by omega]
          · simp [up3]
        · have E2 : nmI pl pad (2 - j) (v, q) = nmI pl pad (1 - j) (10 * v + sgT pl pad q - 48, q + 1) := by rw [show 2 - j = (1 - j) + 1 by omega]; exact if_pos ⟨Int32.not_le.mp c_42, bz_n.mp c_56⟩
          have hq2 : q < pl := dig_in (bz_n.mp c_56).1
          refine g_iload_n F 1 dX3_readsNumber_59 rfl rfl ?_
          refine g_bipush (v := 10) F dX3_readsNumber_60 (by decide) ?_
          refine g_imul F dX3_readsNumber_62 ?_
          refine g_aload_n F 0 dX3_readsNumber_63 rfl rfl ?_
          refine g_callIv (na := 0) F 13 _ (c_X3_here hj P2 (by omega) e2) (by decide) rfl rfl lk_X3_49 rfl rfl (by decide +kernel) ⟨rfl, rfl, Nat.le_of_ble_eq_true rfl, Nat.le_of_ble_eq_true rfl, Nat.le_of_ble_eq_true rfl, Nat.le_of_ble_eq_true rfl, Nat.le_of_ble_eq_true rfl⟩ dX3_readsNumber_64 (fun r_64 u_64 h_64 => ?_)
          obtain ⟨rfl, rfl⟩ := h_64
          try dsimp only
          refine g_iadd F dX3_readsNumber_67 ?_
          refine g_bipush (v := 48) F dX3_readsNumber_68 (by decide) ?_
          refine g_isub F dX3_readsNumber_70 ?_
          refine g_topi (fun x1_71 ex1_71 => ?_)
          refine g_istore_n (L' := [(1, _), (0, _), (2, _)]) F dX3_readsNumber_71 rfl (by decide) rfl ?_
          refine g_aload_n F 1 dX3_readsNumber_72 rfl rfl ?_
          refine g_dup F dX3_readsNumber_73 rfl ?_
          refine gf_13_2 F (by decide) mFL_X3_35 dX3_readsNumber_74 ?_
          refine g_iconst (v := 1) F dX3_readsNumber_77 (by decide) ?_
          refine g_iadd F dX3_readsNumber_78 ?_
          refine gp_13_2 F (by decide) mFL_X3_35 dX3_readsNumber_79 ?_
          refine g_iincC (q := 1) (L' := [(2, _), (1, _), (0, _)]) F 2 dX3_readsNumber_82 (by decide) rfl (by decide) rfl ?_
          refine g_goto F 36 dX3_readsNumber_85 (by decide) ?_
          refine g_sub [2, 1, 0] rfl ?_
          refine g_I (I' := up3 I 13 0 2 (nI (q + 1))) ?_ ?_
          · rw [up3_s]
            funext a b cc
            by_cases z : a = 13 ∧ b = 0 ∧ cc = 2
            · obtain ⟨rfl, rfl, rfl⟩ := z
              rw [up3_s, up3_s]
              exact nI_1 q
            · rw [up3_n z, up3_n z, up3_n z]
          · exact ih (by omega) hok _ _ (q + 1) (nx_add ej rfl) hq2 (by rw [hI, E2, ex1_71, Int32.mul_comm, show 2 - (j + 1) = 1 - j by omega])
  refine g_aload_n F 0 dX3_readsNumber_0 rfl rfl ?_
  refine g_callIv (na := 0) F 13 _ (c_X3_here hj P hp ep) (by decide) rfl rfl lk_X3_49 rfl rfl (by decide +kernel) ⟨rfl, rfl, Nat.le_of_ble_eq_true rfl, Nat.le_of_ble_eq_true rfl, Nat.le_of_ble_eq_true rfl, Nat.le_of_ble_eq_true rfl, Nat.le_of_ble_eq_true rfl⟩ dX3_readsNumber_1 (fun r_1 u_1 h_1 => ?_)
  obtain ⟨rfl, rfl⟩ := h_1
  try dsimp only
  refine g_bipush (v := 48) F dX3_readsNumber_4 (by decide) ?_
  refine g_bipush (v := 57) F dX3_readsNumber_6 (by decide) ?_
  refine g_callIn (na := 3) F (c_X5_within hj) (gw mCO_yX5_within) F.2.2.1.2.2.2.2 mST_yX5_within mIN_RX5 rfl rfl (by decide +kernel) ⟨rfl, rfl, Nat.le_of_ble_eq_true rfl, Nat.le_of_ble_eq_true rfl, Nat.le_of_ble_eq_true rfl, Nat.le_of_ble_eq_true rfl, Nat.le_of_ble_eq_true rfl⟩ dX3_readsNumber_8 (fun r_8 u_8 h_8 => ?_)
  obtain ⟨rfl, rfl⟩ := h_8
  try dsimp only
  refine g_if_ne F 16 dX3_readsNumber_11 (by decide) (fun c_11 => ?_) (fun c_11 => ?_)
  · have CC : (nmT pl pad tp).1 = true := by unfold nmT; rw [if_pos (bz_n.mp c_11)]
    refine g_aload_n F 0 dX3_readsNumber_16 rfl rfl ?_
    refine g_callIv (na := 0) F 13 _ (c_X3_here hj P hp ep) (by decide) rfl rfl lk_X3_49 rfl rfl (by decide +kernel) ⟨rfl, rfl, Nat.le_of_ble_eq_true rfl, Nat.le_of_ble_eq_true rfl, Nat.le_of_ble_eq_true rfl, Nat.le_of_ble_eq_true rfl, Nat.le_of_ble_eq_true rfl⟩ dX3_readsNumber_17 (fun r_17 u_17 h_17 => ?_)
    obtain ⟨rfl, rfl⟩ := h_17
    try dsimp only
    refine g_bipush (v := 48) F dX3_readsNumber_20 (by decide) ?_
    refine g_isub F dX3_readsNumber_22 ?_
    refine g_topi (fun x1_23 ex1_23 => ?_)
    refine g_istore_n (L' := [(1, _), (0, _)]) F dX3_readsNumber_23 rfl (by decide) rfl ?_
    refine g_aload_n F 1 dX3_readsNumber_24 rfl rfl ?_
    refine g_dup F dX3_readsNumber_25 rfl ?_
    refine gf_13_2 F (by decide) mFL_X3_35 dX3_readsNumber_26 ?_
    refine g_iconst (v := 1) F dX3_readsNumber_29 (by decide) ?_
    refine g_iadd F dX3_readsNumber_30 ?_
    refine gp_13_2 F (by decide) mFL_X3_35 dX3_readsNumber_31 ?_
    refine g_iconst (v := 0) F dX3_readsNumber_34 (by decide) ?_
    refine g_istore_n (L' := [(2, _), (1, _), (0, _)]) F dX3_readsNumber_35 rfl (by decide) rfl ?_
    refine g_sub [2, 1, 0] rfl ?_
    refine g_I (I' := up3 I 13 0 2 (nI (tp + 1))) (by rw [ep]; exact congrArg (fun z => up3 I 13 0 2 z) (nI_1 tp)) ?_
    exact LOOP 0 (by decide) CC _ _ (tp + 1) rfl (nmT_ok CC).1 (by rw [ex1_23])
  · have CC : ¬ (nmT pl pad tp).1 = true := by unfold nmT; rw [if_neg (bz_0.mp c_11)]; exact Bool.false_ne_true
    refine g_iconst (v := 0) F dX3_readsNumber_14 (by decide) ?_
    refine g_iret F hr hlk rfl dX3_readsNumber_15 ?_
    exact ⟨(bz_0.mpr CC).symm, fun q => absurd q CC, fun _ => rfl⟩
theorem chT_t {pl : Nat} {pad : Sg} {p : Nat} {x : Int32} (h : (chT pl pad x p).1 = true) : chT pl pad x p = (true, p + 1) := by
  unfold chT at h ⊢
  split
  · rfl
  · rename_i c
    rw [if_neg c] at h
    exact absurd h Bool.false_ne_true
theorem dgT_t {pl : Nat} {pad : Sg} {p : Nat} {m : Int32} (h : (dgT pl pad m p).1 = true) : dgT pl pad m p = (true, p + 1) := by
  unfold dgT at h ⊢
  split
  · rfl
  · rename_i c
    rw [if_neg c] at h
    exact absurd h Bool.false_ne_true
def orN (I : Ii) (pl : Nat) (pad : Sg) (p : Nat) : Prop :=
  (sgT pl pad p = 111 → I 15 0 0 = nmV pl pad (p + 1) ∧ I 15 0 1 = nmV pl pad (p2T pl pad p) ∧ I 15 0 2 = sgT pl pad (p3T pl pad p) - 48) ∧
  (sgT pl pad p = 102 → I 15 0 0 = nmV pl pad (p + 1) ∧ I 15 0 1 = nmV pl pad (p2T pl pad p) ∧ I 15 0 2 = nmV pl pad (p3T pl pad p)) ∧
  (sgT pl pad p = 115 → I 15 0 0 = sgT pl pad (p + 1) - 48 ∧ I 15 0 1 = nmV pl pad (p + 3)) ∧
  (sgT pl pad p = 116 → I 15 0 0 = nmV pl pad (p + 1))
def rdI (I : Ii) (k : Int32) (q : Nat) : Ii := up3 (up3 (up3 I 13 0 3 k) 13 0 5 0) 13 0 2 (nI q)
theorem rdI_ {I : Ii} {k : Int32} {q : Nat} : FP I (rdI I k q) ∧ rdI I k q 13 0 2 = nI q ∧ rdI I k q 13 0 5 = nI 0 ∧ rdI I k q 13 0 3 = k :=
  ⟨((FP.at_ (by decide)).tr (FP.at_ (by decide))).tr (FP.at_ (by decide)), up3_s, (up3_n (by decide)).trans up3_s, (up3_n (by decide)).trans ((up3_n (by decide)).trans up3_s)⟩
set_option maxHeartbeats 4000000 in
set_option maxRecDepth 100000 in
theorem c_X3_readsOrder {l : Launch} {G : Gm} (hj : Aj G) {I : Ii} {pm : Pm} {pl : Nat} {pad : Sg} (P : PD I pl pad) {tp : Nat} (hp : tp ≤ 80) (ep : I 13 0 2 = nI tp) : CI l G yX3_readsOrder (wz yX3_readsOrder cX3_readsOrder 1 (some .boolean)) (rmL 3) [.ref (G.2.2 13 0)] I pm (fun r u => r = bz ((orT pl pad tp).1 = true) ∧ ∃ ia, u = (ia, pm) ∧ FP I ia ∧ ia 13 0 2 = nI (orT pl pad tp).2 ∧ ia 13 0 3 = sgT pl pad tp ∧ ((orT pl pad tp).1 = true → orN ia pl pad tp)) := by
  have h80 := P.2.1
  refine CI.walk hj (by decide +kernel) (by show _ ≤ 1; exact Nat.le_of_ble_eq_true rfl) ?_
  intro p e s m args below meth c F hr hlk
  refine g_aload_n F 0 dX3_readsOrder_0 rfl rfl ?_
  refine g_aload_n F 0 dX3_readsOrder_1 rfl rfl ?_
  refine g_callIv (na := 0) F 13 _ (c_X3_here hj P hp ep) (by decide) rfl rfl lk_X3_49 rfl rfl (by decide +kernel) ⟨rfl, rfl, Nat.le_of_ble_eq_true rfl, Nat.le_of_ble_eq_true rfl, Nat.le_of_ble_eq_true rfl, Nat.le_of_ble_eq_true rfl, Nat.le_of_ble_eq_true rfl⟩ dX3_readsOrder_2 (fun r_2 u_2 h_2 => ?_)
  obtain ⟨rfl, rfl⟩ := h_2
  try dsimp only
  refine gp_13_3 F (by decide) mFL_X3_53 dX3_readsOrder_5 ?_
  refine g_aload_n F 0 dX3_readsOrder_8 rfl rfl ?_
  refine g_iconst (v := 0) F dX3_readsOrder_9 (by decide) ?_
  refine gp_13_5 F (by decide) mFL_X3_56 dX3_readsOrder_10 ?_
  refine g_aload_n F 0 dX3_readsOrder_13 rfl rfl ?_
  refine gf_13_3 F (by decide) mFL_X3_53 dX3_readsOrder_14 ?_
  refine g_eqi (y := sgT pl pad tp) ((up3_n (by decide)).trans up3_s) ?_
  by_cases hs_17_102 : (sgT pl pad tp) = 102
  · refine g_lookup F 116 dX3_readsOrder_17 (by decide) (by rw [hs_17_102] <;> rfl) (by decide) ?_
    refine g_aload_n F 0 dX3_readsOrder_116 rfl rfl ?_
    refine g_dup F dX3_readsOrder_117 rfl ?_
    refine gf_13_2 F (by decide) mFL_X3_35 dX3_readsOrder_118 ?_
    refine g_iconst (v := 1) F dX3_readsOrder_121 (by decide) ?_
    refine g_iadd F dX3_readsOrder_122 ?_
    refine gp_13_2 F (by decide) mFL_X3_35 dX3_readsOrder_123 ?_
    refine g_I (I' := rdI I 102 (tp + 1)) (by unfold rdI; rw [hs_17_102, show up3 (up3 I 13 0 3 102) 13 0 5 0 13 0 2 = nI tp from (up3_n (by decide)).trans ((up3_n (by decide)).trans ep)]; exact congrArg (fun z => up3 (up3 (up3 I 13 0 3 102) 13 0 5 0) 13 0 2 z) (nI_1 tp)) ?_
    obtain ⟨f_0, a_0, n_0, k_0⟩ := @rdI_ I 102 (tp + 1)
    have l_0 : tp + 1 ≤ pl := sg_in hs_17_102 (by decide)
    generalize rdI I 102 (tp + 1) = ib at *
    have P_0 := P.fp f_0
    refine g_aload_n F 0 dX3_readsOrder_126 rfl rfl ?_
    refine g_callIv (na := 0) F 13 _ (c_X3_readsNumber hj P_0 (by omega) a_0 (by decide) n_0) (by decide) rfl rfl lk_X3_59 rfl rfl (by decide +kernel) ⟨rfl, rfl, Nat.le_of_ble_eq_true rfl, Nat.le_of_ble_eq_true rfl, Nat.le_of_ble_eq_true rfl, Nat.le_of_ble_eq_true rfl, Nat.le_of_ble_eq_true rfl⟩ dX3_readsOrder_127 (fun r_127 u_127 h_127 => ?_)
    obtain ⟨rfl, ok_127, no_127⟩ := h_127
    refine g_if_eq F 169 dX3_readsOrder_130 (by decide) (fun c_130 => ?_) (fun c_130 => ?_)
    · have hC_127 : ¬ (nmT pl pad (tp + 1)).1 = true := bz_0.mp c_130
      have hE_127 := nmT_f hC_127
      have uu_127 := no_127 hC_127
      subst uu_127
      try dsimp only
      have OR : orT pl pad tp = (false, (tp + 1)) := by simp [orT, thn, hs_17_102, hE_127]
      have FF := f_0
      have AA_ := a_0
      have KK := k_0
      refine g_iconst (v := 0) F dX3_readsOrder_169 (by decide) ?_
      refine g_iret F hr hlk rfl dX3_readsOrder_170 ?_
      rw [OR]
      exact ⟨(bz_0.mpr Bool.false_ne_true).symm, _, rfl, FF, AA_, KK.trans hs_17_102.symm, fun h => absurd h Bool.false_ne_true⟩
    · have hC_127 : (nmT pl pad (tp + 1)).1 = true := bz_n.mp c_130
      obtain ⟨ia_127, rfl, g_127, a_127, n_127, v_127, o_127, j_127⟩ := ok_127 hC_127
      try dsimp only
      have f_127 := f_0.tr g_127
      have k_127 := j_127.trans k_0
      have l_127 : (nmT pl pad (tp + 1)).2 ≤ pl := (nmT_ok hC_127).2.2.1
      have P_127 := P.fp f_127
      refine g_aload_n F 0 dX3_readsOrder_133 rfl rfl ?_
      refine g_bipush (v := 44) F dX3_readsOrder_134 (by decide) ?_
      refine g_callIv (na := 1) F 13 _ (c_X3_reads hj P_127 (by omega) a_127) (by decide) rfl rfl lk_X3_45 rfl rfl (by decide +kernel) ⟨rfl, rfl, Nat.le_of_ble_eq_true rfl, Nat.le_of_ble_eq_true rfl, Nat.le_of_ble_eq_true rfl, Nat.le_of_ble_eq_true rfl, Nat.le_of_ble_eq_true rfl⟩ dX3_readsOrder_136 (fun r_136 u_136 h_136 => ?_)
      obtain ⟨rfl, ok_136, no_136⟩ := h_136
      refine g_if_eq F 169 dX3_readsOrder_139 (by decide) (fun c_139 => ?_) (fun c_139 => ?_)
      · have hC_136 : ¬ (chT pl pad 44 (nmT pl pad (tp + 1)).2).1 = true := bz_0.mp c_139
        have hE_136 := chT_f hC_136
        have uu_136 := no_136 hC_136
        subst uu_136
        try dsimp only
        have OR : orT pl pad tp = (false, (nmT pl pad (tp + 1)).2) := by simp [orT, thn, hs_17_102, hC_127, hE_136]
        have FF := f_127
        have AA_ := a_127
        have KK := k_127
        refine g_iconst (v := 0) F dX3_readsOrder_169 (by decide) ?_
        refine g_iret F hr hlk rfl dX3_readsOrder_170 ?_
        rw [OR]
        exact ⟨(bz_0.mpr Bool.false_ne_true).symm, _, rfl, FF, AA_, KK.trans hs_17_102.symm, fun h => absurd h Bool.false_ne_true⟩
      · have hC_136 : (chT pl pad 44 (nmT pl pad (tp + 1)).2).1 = true := bz_n.mp c_139
        have uu_136 := ok_136 hC_136
        subst uu_136
        try dsimp only
        have hE_136 := chT_t hC_136
        have l_136 : (nmT pl pad (tp + 1)).2 < pl := (chT_ok hC_136 (by decide)).1
        have f_136 := f_127.tr (FP.at_ (j := 2) (v := nI ((nmT pl pad (tp + 1)).2 + 1)) (i := 0) (by decide))
        have a_136 := up3_s (I := ia_127) (K := 13) (i := 0) (j := 2) (v := nI ((nmT pl pad (tp + 1)).2 + 1))
        have n_136 := (up3_n (K := 13) (i := 0) (j := 2) (v := nI ((nmT pl pad (tp + 1)).2 + 1)) (by decide)).trans n_127
        have k_136 := (up3_n (K := 13) (i := 0) (j := 2) (v := nI ((nmT pl pad (tp + 1)).2 + 1)) (by decide)).trans k_127
        have P_136 := P.fp f_136
        refine g_aload_n F 0 dX3_readsOrder_142 rfl rfl ?_
        refine g_callIv (na := 0) F 13 _ (c_X3_readsNumber hj P_136 (by omega) a_136 (by decide) n_136) (by decide) rfl rfl lk_X3_59 rfl rfl (by decide +kernel) ⟨rfl, rfl, Nat.le_of_ble_eq_true rfl, Nat.le_of_ble_eq_true rfl, Nat.le_of_ble_eq_true rfl, Nat.le_of_ble_eq_true rfl, Nat.le_of_ble_eq_true rfl⟩ dX3_readsOrder_143 (fun r_143 u_143 h_143 => ?_)
        obtain ⟨rfl, ok_143, no_143⟩ := h_143
        refine g_if_eq F 169 dX3_readsOrder_146 (by decide) (fun c_146 => ?_) (fun c_146 => ?_)
        · have hC_143 : ¬ (nmT pl pad ((nmT pl pad (tp + 1)).2 + 1)).1 = true := bz_0.mp c_146
          have hE_143 := nmT_f hC_143
          have uu_143 := no_143 hC_143
          subst uu_143
          try dsimp only
          have OR : orT pl pad tp = (false, ((nmT pl pad (tp + 1)).2 + 1)) := by simp [orT, thn, hs_17_102, hC_127, hE_136, hE_143]
          have FF := f_136
          have AA_ := a_136
          have KK := k_136
          refine g_iconst (v := 0) F dX3_readsOrder_169 (by decide) ?_
          refine g_iret F hr hlk rfl dX3_readsOrder_170 ?_
          rw [OR]
          exact ⟨(bz_0.mpr Bool.false_ne_true).symm, _, rfl, FF, AA_, KK.trans hs_17_102.symm, fun h => absurd h Bool.false_ne_true⟩
        · have hC_143 : (nmT pl pad ((nmT pl pad (tp + 1)).2 + 1)).1 = true := bz_n.mp c_146
          obtain ⟨ia_143, rfl, g_143, a_143, n_143, v_143, o_143, j_143⟩ := ok_143 hC_143
          try dsimp only
          have f_143 := f_136.tr g_143
          have k_143 := j_143.trans k_136
          have l_143 : (nmT pl pad ((nmT pl pad (tp + 1)).2 + 1)).2 ≤ pl := (nmT_ok hC_143).2.2.1
          have P_143 := P.fp f_143
          refine g_aload_n F 0 dX3_readsOrder_149 rfl rfl ?_
          refine g_bipush (v := 44) F dX3_readsOrder_150 (by decide) ?_
          refine g_callIv (na := 1) F 13 _ (c_X3_reads hj P_143 (by omega) a_143) (by decide) rfl rfl lk_X3_45 rfl rfl (by decide +kernel) ⟨rfl, rfl, Nat.le_of_ble_eq_true rfl, Nat.le_of_ble_eq_true rfl, Nat.le_of_ble_eq_true rfl, Nat.le_of_ble_eq_true rfl, Nat.le_of_ble_eq_true rfl⟩ dX3_readsOrder_152 (fun r_152 u_152 h_152 => ?_)
          obtain ⟨rfl, ok_152, no_152⟩ := h_152
          refine g_if_eq F 169 dX3_readsOrder_155 (by decide) (fun c_155 => ?_) (fun c_155 => ?_)
          · have hC_152 : ¬ (chT pl pad 44 (nmT pl pad ((nmT pl pad (tp + 1)).2 + 1)).2).1 = true := bz_0.mp c_155
            have hE_152 := chT_f hC_152
            have uu_152 := no_152 hC_152
            subst uu_152
            try dsimp only
            have OR : orT pl pad tp = (false, (nmT pl pad ((nmT pl pad (tp + 1)).2 + 1)).2) := by simp [orT, thn, hs_17_102, hC_127, hE_136, hC_143, hE_152]
            have FF := f_143
            have AA_ := a_143
            have KK := k_143
            refine g_iconst (v := 0) F dX3_readsOrder_169 (by decide) ?_
            refine g_iret F hr hlk rfl dX3_readsOrder_170 ?_
            rw [OR]
            exact ⟨(bz_0.mpr Bool.false_ne_true).symm, _, rfl, FF, AA_, KK.trans hs_17_102.symm, fun h => absurd h Bool.false_ne_true⟩
          · have hC_152 : (chT pl pad 44 (nmT pl pad ((nmT pl pad (tp + 1)).2 + 1)).2).1 = true := bz_n.mp c_155
            have uu_152 := ok_152 hC_152
            subst uu_152
            try dsimp only
            have hE_152 := chT_t hC_152
            have l_152 : (nmT pl pad ((nmT pl pad (tp + 1)).2 + 1)).2 < pl := (chT_ok hC_152 (by decide)).1
            have f_152 := f_143.tr (FP.at_ (j := 2) (v := nI ((nmT pl pad ((nmT pl pad (tp + 1)).2 + 1)).2 + 1)) (i := 0) (by decide))
            have a_152 := up3_s (I := ia_143) (K := 13) (i := 0) (j := 2) (v := nI ((nmT pl pad ((nmT pl pad (tp + 1)).2 + 1)).2 + 1))
            have n_152 := (up3_n (K := 13) (i := 0) (j := 2) (v := nI ((nmT pl pad ((nmT pl pad (tp + 1)).2 + 1)).2 + 1)) (by decide)).trans n_143
            have k_152 := (up3_n (K := 13) (i := 0) (j := 2) (v := nI ((nmT pl pad ((nmT pl pad (tp + 1)).2 + 1)).2 + 1)) (by decide)).trans k_143
            have P_152 := P.fp f_152
            refine g_aload_n F 0 dX3_readsOrder_158 rfl rfl ?_
            refine g_callIv (na := 0) F 13 _ (c_X3_readsNumber hj P_152 (by omega) a_152 (by decide) n_152) (by decide) rfl rfl lk_X3_59 rfl rfl (by decide +kernel) ⟨rfl, rfl, Nat.le_of_ble_eq_true rfl, Nat.le_of_ble_eq_true rfl, Nat.le_of_ble_eq_true rfl, Nat.le_of_ble_eq_true rfl, Nat.le_of_ble_eq_true rfl⟩ dX3_readsOrder_159 (fun r_159 u_159 h_159 => ?_)
            obtain ⟨rfl, ok_159, no_159⟩ := h_159
            refine g_if_eq F 169 dX3_readsOrder_162 (by decide) (fun c_162 => ?_) (fun c_162 => ?_)
            · have hC_159 : ¬ (nmT pl pad ((nmT pl pad ((nmT pl pad (tp + 1)).2 + 1)).2 + 1)).1 = true := bz_0.mp c_162
              have hE_159 := nmT_f hC_159
              have uu_159 := no_159 hC_159
              subst uu_159
              try dsimp only
              have OR : orT pl pad tp = (false, ((nmT pl pad ((nmT pl pad (tp + 1)).2 + 1)).2 + 1)) := by simp [orT, thn, hs_17_102, hC_127, hE_136, hC_143, hE_152, hE_159]
              have FF := f_152
              have AA_ := a_152
              have KK := k_152
              refine g_iconst (v := 0) F dX3_readsOrder_169 (by decide) ?_
              refine g_iret F hr hlk rfl dX3_readsOrder_170 ?_
              rw [OR]
              exact ⟨(bz_0.mpr Bool.false_ne_true).symm, _, rfl, FF, AA_, KK.trans hs_17_102.symm, fun h => absurd h Bool.false_ne_true⟩
            · have hC_159 : (nmT pl pad ((nmT pl pad ((nmT pl pad (tp + 1)).2 + 1)).2 + 1)).1 = true := bz_n.mp c_162
              obtain ⟨ia_159, rfl, g_159, a_159, n_159, v_159, o_159, j_159⟩ := ok_159 hC_159
              try dsimp only
              have f_159 := f_152.tr g_159
              have k_159 := j_159.trans k_152
              have l_159 : (nmT pl pad ((nmT pl pad ((nmT pl pad (tp + 1)).2 + 1)).2 + 1)).2 ≤ pl := (nmT_ok hC_159).2.2.1
              have P_159 := P.fp f_159
              have OR : (orT pl pad tp).1 = true ∧ (orT pl pad tp).2 = (nmT pl pad ((nmT pl pad ((nmT pl pad (tp + 1)).2 + 1)).2 + 1)).2 := by simp [orT, thn, hs_17_102, hC_127, hE_136, hC_143, hE_152, hC_159]
              have VV := And.intro ((o_159 0 (by decide)).trans ((up3_k (by decide)).trans ((o_143 0 (by decide)).trans ((up3_k (by decide)).trans v_127)))) (And.intro ((o_159 1 (by decide)).trans ((up3_k (by decide)).trans v_143)) v_159)
              have NN : orN ia_159 pl pad tp := by
                unfold orN
                rw [hs_17_102]
                refine ⟨?_, fun _ => VV, ?_, ?_⟩
                all_goals exact fun h => absurd h (by decide)
              have FF := f_159
              have AA_ := a_159
              have KK := k_159
              refine g_iconst (v := 1) F dX3_readsOrder_165 (by decide) ?_
              refine g_goto F 170 dX3_readsOrder_166 (by decide) ?_
              refine g_iret F hr hlk rfl dX3_readsOrder_170 ?_
              exact ⟨(bz_1.mpr OR.1).symm, _, rfl, FF, AA_.trans (congrArg nI OR.2.symm), KK.trans hs_17_102.symm, fun _ => NN⟩
  by_cases hs_17_111 : (sgT pl pad tp) = 111
  · refine g_lookup F 60 dX3_readsOrder_17 (by decide) (by rw [hs_17_111] <;> rfl) (by decide) ?_
    refine g_aload_n F 0 dX3_readsOrder_60 rfl rfl ?_
    refine g_dup F dX3_readsOrder_61 rfl ?_
    refine gf_13_2 F (by decide) mFL_X3_35 dX3_readsOrder_62 ?_
    refine g_iconst (v := 1) F dX3_readsOrder_65 (by decide) ?_
    refine g_iadd F dX3_readsOrder_66 ?_
    refine gp_13_2 F (by decide) mFL_X3_35 dX3_readsOrder_67 ?_
    refine g_I (I' := rdI I 111 (tp + 1)) (by unfold rdI; rw [hs_17_111, show up3 (up3 I 13 0 3 111) 13 0 5 0 13 0 2 = nI tp from (up3_n (by decide)).trans ((up3_n (by decide)).trans ep)]; exact congrArg (fun z => up3 (up3 (up3 I 13 0 3 111) 13 0 5 0) 13 0 2 z) (nI_1 tp)) ?_
    obtain ⟨f_0, a_0, n_0, k_0⟩ := @rdI_ I 111 (tp + 1)
    have l_0 : tp + 1 ≤ pl := sg_in hs_17_111 (by decide)
    generalize rdI I 111 (tp + 1) = ib at *
    have P_0 := P.fp f_0
    refine g_aload_n F 0 dX3_readsOrder_70 rfl rfl ?_
    refine g_callIv (na := 0) F 13 _ (c_X3_readsNumber hj P_0 (by omega) a_0 (by decide) n_0) (by decide) rfl rfl lk_X3_59 rfl rfl (by decide +kernel) ⟨rfl, rfl, Nat.le_of_ble_eq_true rfl, Nat.le_of_ble_eq_true rfl, Nat.le_of_ble_eq_true rfl, Nat.le_of_ble_eq_true rfl, Nat.le_of_ble_eq_true rfl⟩ dX3_readsOrder_71 (fun r_71 u_71 h_71 => ?_)
    obtain ⟨rfl, ok_71, no_71⟩ := h_71
    refine g_if_eq F 114 dX3_readsOrder_74 (by decide) (fun c_74 => ?_) (fun c_74 => ?_)
    · have hC_71 : ¬ (nmT pl pad (tp + 1)).1 = true := bz_0.mp c_74
      have hE_71 := nmT_f hC_71
      have uu_71 := no_71 hC_71
      subst uu_71
      try dsimp only
      have OR : orT pl pad tp = (false, (tp + 1)) := by simp [orT, thn, hs_17_111, hE_71]
      have FF := f_0
      have AA_ := a_0
      have KK := k_0
      refine g_iconst (v := 0) F dX3_readsOrder_114 (by decide) ?_
      refine g_iret F hr hlk rfl dX3_readsOrder_115 ?_
      rw [OR]
      exact ⟨(bz_0.mpr Bool.false_ne_true).symm, _, rfl, FF, AA_, KK.trans hs_17_111.symm, fun h => absurd h Bool.false_ne_true⟩
    · have hC_71 : (nmT pl pad (tp + 1)).1 = true := bz_n.mp c_74
      obtain ⟨ia_71, rfl, g_71, a_71, n_71, v_71, o_71, j_71⟩ := ok_71 hC_71
      try dsimp only
      have f_71 := f_0.tr g_71
      have k_71 := j_71.trans k_0
      have l_71 : (nmT pl pad (tp + 1)).2 ≤ pl := (nmT_ok hC_71).2.2.1
      have P_71 := P.fp f_71
      refine g_aload_n F 0 dX3_readsOrder_77 rfl rfl ?_
      refine g_bipush (v := 58) F dX3_readsOrder_78 (by decide) ?_
      refine g_callIv (na := 1) F 13 _ (c_X3_reads hj P_71 (by omega) a_71) (by decide) rfl rfl lk_X3_45 rfl rfl (by decide +kernel) ⟨rfl, rfl, Nat.le_of_ble_eq_true rfl, Nat.le_of_ble_eq_true rfl, Nat.le_of_ble_eq_true rfl, Nat.le_of_ble_eq_true rfl, Nat.le_of_ble_eq_true rfl⟩ dX3_readsOrder_80 (fun r_80 u_80 h_80 => ?_)
      obtain ⟨rfl, ok_80, no_80⟩ := h_80
      refine g_if_eq F 114 dX3_readsOrder_83 (by decide) (fun c_83 => ?_) (fun c_83 => ?_)
      · have hC_80 : ¬ (chT pl pad 58 (nmT pl pad (tp + 1)).2).1 = true := bz_0.mp c_83
        have hE_80 := chT_f hC_80
        have uu_80 := no_80 hC_80
        subst uu_80
        try dsimp only
        have OR : orT pl pad tp = (false, (nmT pl pad (tp + 1)).2) := by simp [orT, thn, hs_17_111, hC_71, hE_80]
        have FF := f_71
        have AA_ := a_71
        have KK := k_71
        refine g_iconst (v := 0) F dX3_readsOrder_114 (by decide) ?_
        refine g_iret F hr hlk rfl dX3_readsOrder_115 ?_
        rw [OR]
        exact ⟨(bz_0.mpr Bool.false_ne_true).symm, _, rfl, FF, AA_, KK.trans hs_17_111.symm, fun h => absurd h Bool.false_ne_true⟩
      · have hC_80 : (chT pl pad 58 (nmT pl pad (tp + 1)).2).1 = true := bz_n.mp c_83
        have uu_80 := ok_80 hC_80
        subst uu_80
        try dsimp only
        have hE_80 := chT_t hC_80
        have l_80 : (nmT pl pad (tp + 1)).2 < pl := (chT_ok hC_80 (by decide)).1
        have f_80 := f_71.tr (FP.at_ (j := 2) (v := nI ((nmT pl pad (tp + 1)).2 + 1)) (i := 0) (by decide))
        have a_80 := up3_s (I := ia_71) (K := 13) (i := 0) (j := 2) (v := nI ((nmT pl pad (tp + 1)).2 + 1))
        have n_80 := (up3_n (K := 13) (i := 0) (j := 2) (v := nI ((nmT pl pad (tp + 1)).2 + 1)) (by decide)).trans n_71
        have k_80 := (up3_n (K := 13) (i := 0) (j := 2) (v := nI ((nmT pl pad (tp + 1)).2 + 1)) (by decide)).trans k_71
        have P_80 := P.fp f_80
        refine g_aload_n F 0 dX3_readsOrder_86 rfl rfl ?_
        refine g_callIv (na := 0) F 13 _ (c_X3_readsNumber hj P_80 (by omega) a_80 (by decide) n_80) (by decide) rfl rfl lk_X3_59 rfl rfl (by decide +kernel) ⟨rfl, rfl, Nat.le_of_ble_eq_true rfl, Nat.le_of_ble_eq_true rfl, Nat.le_of_ble_eq_true rfl, Nat.le_of_ble_eq_true rfl, Nat.le_of_ble_eq_true rfl⟩ dX3_readsOrder_87 (fun r_87 u_87 h_87 => ?_)
        obtain ⟨rfl, ok_87, no_87⟩ := h_87
        refine g_if_eq F 114 dX3_readsOrder_90 (by decide) (fun c_90 => ?_) (fun c_90 => ?_)
        · have hC_87 : ¬ (nmT pl pad ((nmT pl pad (tp + 1)).2 + 1)).1 = true := bz_0.mp c_90
          have hE_87 := nmT_f hC_87
          have uu_87 := no_87 hC_87
          subst uu_87
          try dsimp only
          have OR : orT pl pad tp = (false, ((nmT pl pad (tp + 1)).2 + 1)) := by simp [orT, thn, hs_17_111, hC_71, hE_80, hE_87]
          have FF := f_80
          have AA_ := a_80
          have KK := k_80
          refine g_iconst (v := 0) F dX3_readsOrder_114 (by decide) ?_
          refine g_iret F hr hlk rfl dX3_readsOrder_115 ?_
          rw [OR]
          exact ⟨(bz_0.mpr Bool.false_ne_true).symm, _, rfl, FF, AA_, KK.trans hs_17_111.symm, fun h => absurd h Bool.false_ne_true⟩
        · have hC_87 : (nmT pl pad ((nmT pl pad (tp + 1)).2 + 1)).1 = true := bz_n.mp c_90
          obtain ⟨ia_87, rfl, g_87, a_87, n_87, v_87, o_87, j_87⟩ := ok_87 hC_87
          try dsimp only
          have f_87 := f_80.tr g_87
          have k_87 := j_87.trans k_80
          have l_87 : (nmT pl pad ((nmT pl pad (tp + 1)).2 + 1)).2 ≤ pl := (nmT_ok hC_87).2.2.1
          have P_87 := P.fp f_87
          refine g_aload_n F 0 dX3_readsOrder_93 rfl rfl ?_
          refine g_bipush (v := 33) F dX3_readsOrder_94 (by decide) ?_
          refine g_callIv (na := 1) F 13 _ (c_X3_reads hj P_87 (by omega) a_87) (by decide) rfl rfl lk_X3_45 rfl rfl (by decide +kernel) ⟨rfl, rfl, Nat.le_of_ble_eq_true rfl, Nat.le_of_ble_eq_true rfl, Nat.le_of_ble_eq_true rfl, Nat.le_of_ble_eq_true rfl, Nat.le_of_ble_eq_true rfl⟩ dX3_readsOrder_96 (fun r_96 u_96 h_96 => ?_)
          obtain ⟨rfl, ok_96, no_96⟩ := h_96
          refine g_if_eq F 114 dX3_readsOrder_99 (by decide) (fun c_99 => ?_) (fun c_99 => ?_)
          · have hC_96 : ¬ (chT pl pad 33 (nmT pl pad ((nmT pl pad (tp + 1)).2 + 1)).2).1 = true := bz_0.mp c_99
            have hE_96 := chT_f hC_96
            have uu_96 := no_96 hC_96
            subst uu_96
            try dsimp only
            have OR : orT pl pad tp = (false, (nmT pl pad ((nmT pl pad (tp + 1)).2 + 1)).2) := by simp [orT, thn, hs_17_111, hC_71, hE_80, hC_87, hE_96]
            have FF := f_87
            have AA_ := a_87
            have KK := k_87
            refine g_iconst (v := 0) F dX3_readsOrder_114 (by decide) ?_
            refine g_iret F hr hlk rfl dX3_readsOrder_115 ?_
            rw [OR]
            exact ⟨(bz_0.mpr Bool.false_ne_true).symm, _, rfl, FF, AA_, KK.trans hs_17_111.symm, fun h => absurd h Bool.false_ne_true⟩
          · have hC_96 : (chT pl pad 33 (nmT pl pad ((nmT pl pad (tp + 1)).2 + 1)).2).1 = true := bz_n.mp c_99
            have uu_96 := ok_96 hC_96
            subst uu_96
            try dsimp only
            have hE_96 := chT_t hC_96
            have l_96 : (nmT pl pad ((nmT pl pad (tp + 1)).2 + 1)).2 < pl := (chT_ok hC_96 (by decide)).1
            have f_96 := f_87.tr (FP.at_ (j := 2) (v := nI ((nmT pl pad ((nmT pl pad (tp + 1)).2 + 1)).2 + 1)) (i := 0) (by decide))
            have a_96 := up3_s (I := ia_87) (K := 13) (i := 0) (j := 2) (v := nI ((nmT pl pad ((nmT pl pad (tp + 1)).2 + 1)).2 + 1))
            have n_96 := (up3_n (K := 13) (i := 0) (j := 2) (v := nI ((nmT pl pad ((nmT pl pad (tp + 1)).2 + 1)).2 + 1)) (by decide)).trans n_87
            have k_96 := (up3_n (K := 13) (i := 0) (j := 2) (v := nI ((nmT pl pad ((nmT pl pad (tp + 1)).2 + 1)).2 + 1)) (by decide)).trans k_87
            have P_96 := P.fp f_96
            refine g_aload_n F 0 dX3_readsOrder_102 rfl rfl ?_
            refine g_iconst (v := 3) F dX3_readsOrder_103 (by decide) ?_
            refine g_callIv (na := 1) F 13 _ (c_X3_readsDigit hj P_96 (by omega) a_96 (by decide) n_96) (by decide) rfl rfl lk_X3_62 rfl rfl (by decide +kernel) ⟨rfl, rfl, Nat.le_of_ble_eq_true rfl, Nat.le_of_ble_eq_true rfl, Nat.le_of_ble_eq_true rfl, Nat.le_of_ble_eq_true rfl, Nat.le_of_ble_eq_true rfl⟩ dX3_readsOrder_104 (fun r_104 u_104 h_104 => ?_)
            obtain ⟨rfl, ok_104, no_104⟩ := h_104
            refine g_if_eq F 114 dX3_readsOrder_107 (by decide) (fun c_107 => ?_) (fun c_107 => ?_)
            · have hC_104 : ¬ (dgT pl pad 3 ((nmT pl pad ((nmT pl pad (tp + 1)).2 + 1)).2 + 1)).1 = true := bz_0.mp c_107
              have hE_104 := dgT_f hC_104
              have uu_104 := no_104 hC_104
              subst uu_104
              try dsimp only
              have OR : orT pl pad tp = (false, ((nmT pl pad ((nmT pl pad (tp + 1)).2 + 1)).2 + 1)) := by simp [orT, thn, hs_17_111, hC_71, hE_80, hC_87, hE_96, hE_104]
              have FF := f_96
              have AA_ := a_96
              have KK := k_96
              refine g_iconst (v := 0) F dX3_readsOrder_114 (by decide) ?_
              refine g_iret F hr hlk rfl dX3_readsOrder_115 ?_
              rw [OR]
              exact ⟨(bz_0.mpr Bool.false_ne_true).symm, _, rfl, FF, AA_, KK.trans hs_17_111.symm, fun h => absurd h Bool.false_ne_true⟩
            · have hC_104 : (dgT pl pad 3 ((nmT pl pad ((nmT pl pad (tp + 1)).2 + 1)).2 + 1)).1 = true := bz_n.mp c_107
              obtain ⟨ia_104, rfl, g_104, a_104, n_104, v_104, o_104, j_104⟩ := ok_104 hC_104
              try dsimp only
              have f_104 := f_96.tr g_104
              have k_104 := j_104.trans k_96
              have hE_104 := dgT_t hC_104
              have l_104 : ((nmT pl pad ((nmT pl pad (tp + 1)).2 + 1)).2 + 1) < pl := (dgT_ok hC_104).1
              have P_104 := P.fp f_104
              have OR : (orT pl pad tp).1 = true ∧ (orT pl pad tp).2 = ((nmT pl pad ((nmT pl pad (tp + 1)).2 + 1)).2 + 1) + 1 := by simp [orT, thn, hs_17_111, hC_71, hE_80, hC_87, hE_96, hE_104]
              have VV := And.intro ((o_104 0 (by decide)).trans ((up3_k (by decide)).trans ((o_87 0 (by decide)).trans ((up3_k (by decide)).trans v_71)))) (And.intro ((o_104 1 (by decide)).trans ((up3_k (by decide)).trans v_87)) v_104)
              have NN : orN ia_104 pl pad tp := by
                unfold orN
                rw [hs_17_111]
                refine ⟨fun _ => VV, ?_, ?_, ?_⟩
                all_goals exact fun h => absurd h (by decide)
              have FF := f_104
              have AA_ := a_104
              have KK := k_104
              refine g_iconst (v := 1) F dX3_readsOrder_110 (by decide) ?_
              refine g_goto F 115 dX3_readsOrder_111 (by decide) ?_
              refine g_iret F hr hlk rfl dX3_readsOrder_115 ?_
              exact ⟨(bz_1.mpr OR.1).symm, _, rfl, FF, AA_.trans (congrArg nI OR.2.symm), KK.trans hs_17_111.symm, fun _ => NN⟩
  by_cases hs_17_115 : (sgT pl pad tp) = 115
  · refine g_lookup F 171 dX3_readsOrder_17 (by decide) (by rw [hs_17_115] <;> rfl) (by decide) ?_
    refine g_aload_n F 0 dX3_readsOrder_171 rfl rfl ?_
    refine g_dup F dX3_readsOrder_172 rfl ?_
    refine gf_13_2 F (by decide) mFL_X3_35 dX3_readsOrder_173 ?_
    refine g_iconst (v := 1) F dX3_readsOrder_176 (by decide) ?_
    refine g_iadd F dX3_readsOrder_177 ?_
    refine gp_13_2 F (by decide) mFL_X3_35 dX3_readsOrder_178 ?_
    refine g_I (I' := rdI I 115 (tp + 1)) (by unfold rdI; rw [hs_17_115, show up3 (up3 I 13 0 3 115) 13 0 5 0 13 0 2 = nI tp from (up3_n (by decide)).trans ((up3_n (by decide)).trans ep)]; exact congrArg (fun z => up3 (up3 (up3 I 13 0 3 115) 13 0 5 0) 13 0 2 z) (nI_1 tp)) ?_
    obtain ⟨f_0, a_0, n_0, k_0⟩ := @rdI_ I 115 (tp + 1)
    have l_0 : tp + 1 ≤ pl := sg_in hs_17_115 (by decide)
    generalize rdI I 115 (tp + 1) = ib at *
    have P_0 := P.fp f_0
    refine g_aload_n F 0 dX3_readsOrder_181 rfl rfl ?_
    refine g_bipush (v := 7) F dX3_readsOrder_182 (by decide) ?_
    refine g_callIv (na := 1) F 13 _ (c_X3_readsDigit hj P_0 (by omega) a_0 (by decide) n_0) (by decide) rfl rfl lk_X3_62 rfl rfl (by decide +kernel) ⟨rfl, rfl, Nat.le_of_ble_eq_true rfl, Nat.le_of_ble_eq_true rfl, Nat.le_of_ble_eq_true rfl, Nat.le_of_ble_eq_true rfl, Nat.le_of_ble_eq_true rfl⟩ dX3_readsOrder_184 (fun r_184 u_184 h_184 => ?_)
    obtain ⟨rfl, ok_184, no_184⟩ := h_184
    refine g_if_eq F 210 dX3_readsOrder_187 (by decide) (fun c_187 => ?_) (fun c_187 => ?_)
    · have hC_184 : ¬ (dgT pl pad 7 (tp + 1)).1 = true := bz_0.mp c_187
      have hE_184 := dgT_f hC_184
      have uu_184 := no_184 hC_184
      subst uu_184
      try dsimp only
      have OR : orT pl pad tp = (false, (tp + 1)) := by simp [orT, thn, hs_17_115, hE_184]
      have FF := f_0
      have AA_ := a_0
      have KK := k_0
      refine g_iconst (v := 0) F dX3_readsOrder_210 (by decide) ?_
      refine g_iret F hr hlk rfl dX3_readsOrder_211 ?_
      rw [OR]
      exact ⟨(bz_0.mpr Bool.false_ne_true).symm, _, rfl, FF, AA_, KK.trans hs_17_115.symm, fun h => absurd h Bool.false_ne_true⟩
    · have hC_184 : (dgT pl pad 7 (tp + 1)).1 = true := bz_n.mp c_187
      obtain ⟨ia_184, rfl, g_184, a_184, n_184, v_184, o_184, j_184⟩ := ok_184 hC_184
      try dsimp only
      have f_184 := f_0.tr g_184
      have k_184 := j_184.trans k_0
      have hE_184 := dgT_t hC_184
      have l_184 : (tp + 1) < pl := (dgT_ok hC_184).1
      have P_184 := P.fp f_184
      refine g_aload_n F 0 dX3_readsOrder_190 rfl rfl ?_
      refine g_bipush (v := 42) F dX3_readsOrder_191 (by decide) ?_
      refine g_callIv (na := 1) F 13 _ (c_X3_reads hj P_184 (by omega) a_184) (by decide) rfl rfl lk_X3_45 rfl rfl (by decide +kernel) ⟨rfl, rfl, Nat.le_of_ble_eq_true rfl, Nat.le_of_ble_eq_true rfl, Nat.le_of_ble_eq_true rfl, Nat.le_of_ble_eq_true rfl, Nat.le_of_ble_eq_true rfl⟩ dX3_readsOrder_193 (fun r_193 u_193 h_193 => ?_)
      obtain ⟨rfl, ok_193, no_193⟩ := h_193
      refine g_if_eq F 210 dX3_readsOrder_196 (by decide) (fun c_196 => ?_) (fun c_196 => ?_)
      · have hC_193 : ¬ (chT pl pad 42 (tp + 2)).1 = true := bz_0.mp c_196
        have hE_193 := chT_f hC_193
        have uu_193 := no_193 hC_193
        subst uu_193
        try dsimp only
        have OR : orT pl pad tp = (false, (tp + 2)) := by simp [orT, thn, hs_17_115, hE_184, hE_193]
        have FF := f_184
        have AA_ := a_184
        have KK := k_184
        refine g_iconst (v := 0) F dX3_readsOrder_210 (by decide) ?_
        refine g_iret F hr hlk rfl dX3_readsOrder_211 ?_
        rw [OR]
        exact ⟨(bz_0.mpr Bool.false_ne_true).symm, _, rfl, FF, AA_, KK.trans hs_17_115.symm, fun h => absurd h Bool.false_ne_true⟩
      · have hC_193 : (chT pl pad 42 (tp + 2)).1 = true := bz_n.mp c_196
        have uu_193 := ok_193 hC_193
        subst uu_193
        try dsimp only
        have hE_193 := chT_t hC_193
        have l_193 : (tp + 2) < pl := (chT_ok hC_193 (by decide)).1
        have f_193 := f_184.tr (FP.at_ (j := 2) (v := nI ((tp + 2) + 1)) (i := 0) (by decide))
        have a_193 := up3_s (I := ia_184) (K := 13) (i := 0) (j := 2) (v := nI ((tp + 2) + 1))
        have n_193 := (up3_n (K := 13) (i := 0) (j := 2) (v := nI ((tp + 2) + 1)) (by decide)).trans n_184
        have k_193 := (up3_n (K := 13) (i := 0) (j := 2) (v := nI ((tp + 2) + 1)) (by decide)).trans k_184
        have P_193 := P.fp f_193
        refine g_aload_n F 0 dX3_readsOrder_199 rfl rfl ?_
        refine g_callIv (na := 0) F 13 _ (c_X3_readsNumber hj P_193 (by omega) a_193 (by decide) n_193) (by decide) rfl rfl lk_X3_59 rfl rfl (by decide +kernel) ⟨rfl, rfl, Nat.le_of_ble_eq_true rfl, Nat.le_of_ble_eq_true rfl, Nat.le_of_ble_eq_true rfl, Nat.le_of_ble_eq_true rfl, Nat.le_of_ble_eq_true rfl⟩ dX3_readsOrder_200 (fun r_200 u_200 h_200 => ?_)
        obtain ⟨rfl, ok_200, no_200⟩ := h_200
        refine g_if_eq F 210 dX3_readsOrder_203 (by decide) (fun c_203 => ?_) (fun c_203 => ?_)
        · have hC_200 : ¬ (nmT pl pad (tp + 3)).1 = true := bz_0.mp c_203
          have hE_200 := nmT_f hC_200
          have uu_200 := no_200 hC_200
          subst uu_200
          try dsimp only
          have OR : orT pl pad tp = (false, (tp + 3)) := by simp [orT, thn, hs_17_115, hE_184, hE_193, hE_200]
          have FF := f_193
          have AA_ := a_193
          have KK := k_193
          refine g_iconst (v := 0) F dX3_readsOrder_210 (by decide) ?_
          refine g_iret F hr hlk rfl dX3_readsOrder_211 ?_
          rw [OR]
          exact ⟨(bz_0.mpr Bool.false_ne_true).symm, _, rfl, FF, AA_, KK.trans hs_17_115.symm, fun h => absurd h Bool.false_ne_true⟩
        · have hC_200 : (nmT pl pad (tp + 3)).1 = true := bz_n.mp c_203
          obtain ⟨ia_200, rfl, g_200, a_200, n_200, v_200, o_200, j_200⟩ := ok_200 hC_200
          try dsimp only
          have f_200 := f_193.tr g_200
          have k_200 := j_200.trans k_193
          have l_200 : (nmT pl pad (tp + 3)).2 ≤ pl := (nmT_ok hC_200).2.2.1
          have P_200 := P.fp f_200
          have OR : (orT pl pad tp).1 = true ∧ (orT pl pad tp).2 = (nmT pl pad (tp + 3)).2 := by simp [orT, thn, hs_17_115, hE_184, hE_193, hC_200]
          have VV := And.intro ((o_200 0 (by decide)).trans ((up3_k (by decide)).trans v_184)) v_200
          have NN : orN ia_200 pl pad tp := by
            unfold orN
            rw [hs_17_115]
            refine ⟨?_, ?_, fun _ => VV, ?_⟩
            all_goals exact fun h => absurd h (by decide)
          have FF := f_200
          have AA_ := a_200
          have KK := k_200
          refine g_iconst (v := 1) F dX3_readsOrder_206 (by decide) ?_
          refine g_goto F 211 dX3_readsOrder_207 (by decide) ?_
          refine g_iret F hr hlk rfl dX3_readsOrder_211 ?_
          exact ⟨(bz_1.mpr OR.1).symm, _, rfl, FF, AA_.trans (congrArg nI OR.2.symm), KK.trans hs_17_115.symm, fun _ => NN⟩
  by_cases hs_17_116 : (sgT pl pad tp) = 116
  · refine g_lookup F 212 dX3_readsOrder_17 (by decide) (by rw [hs_17_116] <;> rfl) (by decide) ?_
    refine g_aload_n F 0 dX3_readsOrder_212 rfl rfl ?_
    refine g_dup F dX3_readsOrder_213 rfl ?_
    refine gf_13_2 F (by decide) mFL_X3_35 dX3_readsOrder_214 ?_
    refine g_iconst (v := 1) F dX3_readsOrder_217 (by decide) ?_
    refine g_iadd F dX3_readsOrder_218 ?_
    refine gp_13_2 F (by decide) mFL_X3_35 dX3_readsOrder_219 ?_
    refine g_I (I' := rdI I 116 (tp + 1)) (by unfold rdI; rw [hs_17_116, show up3 (up3 I 13 0 3 116) 13 0 5 0 13 0 2 = nI tp from (up3_n (by decide)).trans ((up3_n (by decide)).trans ep)]; exact congrArg (fun z => up3 (up3 (up3 I 13 0 3 116) 13 0 5 0) 13 0 2 z) (nI_1 tp)) ?_
    obtain ⟨f_0, a_0, n_0, k_0⟩ := @rdI_ I 116 (tp + 1)
    have l_0 : tp + 1 ≤ pl := sg_in hs_17_116 (by decide)
    generalize rdI I 116 (tp + 1) = ib at *
    have P_0 := P.fp f_0
    refine g_aload_n F 0 dX3_readsOrder_222 rfl rfl ?_
    refine g_callIv (na := 0) F 13 _ (c_X3_readsNumber hj P_0 (by omega) a_0 (by decide) n_0) (by decide) rfl rfl lk_X3_59 rfl rfl (by decide +kernel) ⟨rfl, rfl, Nat.le_of_ble_eq_true rfl, Nat.le_of_ble_eq_true rfl, Nat.le_of_ble_eq_true rfl, Nat.le_of_ble_eq_true rfl, Nat.le_of_ble_eq_true rfl⟩ dX3_readsOrder_223 (fun r_223 u_223 h_223 => ?_)
    obtain ⟨rfl, ok_223, no_223⟩ := h_223
    refine g_iret F hr hlk nar_b dX3_readsOrder_226 ?_
    refine ?_
    by_cases hC_223 : (nmT pl pad (tp + 1)).1 = true
    · obtain ⟨ia_223, rfl, g_223, a_223, n_223, v_223, o_223, j_223⟩ := ok_223 hC_223
      have OR : orT pl pad tp = nmT pl pad (tp + 1) := by simp [orT, thn, hs_17_116]
      rw [OR]
      exact ⟨rfl, _, rfl, f_0.tr g_223, a_223, j_223.trans (k_0.trans hs_17_116.symm), fun _ => ⟨fun h => absurd (hs_17_116.symm.trans h) (by decide), fun h => absurd (hs_17_116.symm.trans h) (by decide), fun h => absurd (hs_17_116.symm.trans h) (by decide), fun _ => v_223⟩⟩
    · have uu := no_223 hC_223
      subst uu
      have OR : orT pl pad tp = nmT pl pad (tp + 1) := by simp [orT, thn, hs_17_116]
      rw [OR]
      refine ⟨rfl, _, rfl, f_0, ?_, k_0.trans hs_17_116.symm, fun h => absurd h hC_223⟩
      rw [nmT_f hC_223]
      exact a_0
  refine g_lookup (off := 210) F 227 dX3_readsOrder_17 (by decide) ((lv_osw hs_17_102 rfl).trans <| (lv_osw hs_17_111 rfl).trans <| (lv_osw hs_17_115 rfl).trans <| (lv_osw hs_17_116 rfl).trans <| rfl) (by decide) ?_
  refine g_iconst (v := 0) F dX3_readsOrder_227 (by decide) ?_
  refine g_iret F hr hlk rfl dX3_readsOrder_228 ?_
  have OR : orT pl pad tp = (false, tp) := by simp [orT, hs_17_102, hs_17_111, hs_17_115, hs_17_116]
  rw [OR]
  exact ⟨(bz_0.mpr Bool.false_ne_true).symm, _, rfl, (FP.at_ (by decide)).tr (FP.at_ (by decide)), (up3_n (by decide)).trans ((up3_n (by decide)).trans ep), (up3_n (by decide)).trans up3_s, fun h => absurd h Bool.false_ne_true⟩
set_option maxHeartbeats 4000000 in
set_option maxRecDepth 100000 in
theorem c_X3_rewind {l : Launch} {G : Gm} (hj : Aj G) {I : Ii} {pm : Pm}  : CV l G yX3_rewind (wz yX3_rewind cX3_rewind 1 none) (rmL 0) [.ref (G.2.2 13 0)] I pm (fun u => u = (up3 I 13 0 2 0, pm)) := by
  refine CV.walk hj (by decide +kernel) (by show _ ≤ 1; exact Nat.le_of_ble_eq_true rfl) ?_
  intro p e s m args below meth c F hr hlk
  refine g_aload_n F 0 dX3_rewind_0 rfl rfl ?_
  refine g_iconst (v := 0) F dX3_rewind_1 (by decide) ?_
  refine gp_13_2 F (by decide) mFL_X3_35 dX3_rewind_2 ?_
  refine g_vret F hr hlk dX3_rewind_5 ?_
  exact rfl
set_option maxHeartbeats 4000000 in
set_option maxRecDepth 100000 in
theorem c_X3_clear {l : Launch} {G : Gm} (hj : Aj G) {I : Ii} {pm : Pm}  : CI l G yX3_clear (wz yX3_clear cX3_clear 2 (some .int)) (rmL 0) [.ref (G.2.2 13 0)] I pm (fun r u => r = I 13 0 1 ∧ u = (up3 I 13 0 1 0, pm)) := by
  refine CI.walk hj (by decide +kernel) (by show _ ≤ 2; exact Nat.le_of_ble_eq_true rfl) ?_
  intro p e s m args below meth c F hr hlk
  refine g_aload_n F 0 dX3_clear_0 rfl rfl ?_
  refine gf_13_1 F (by decide) mFL_X3_23 dX3_clear_1 ?_
  refine g_topi (fun x1_4 ex1_4 => ?_)
  refine g_istore_n (L' := [(1, _), (0, _)]) F dX3_clear_4 rfl (by decide) rfl ?_
  refine g_aload_n F 1 dX3_clear_5 rfl rfl ?_
  refine g_iconst (v := 0) F dX3_clear_6 (by decide) ?_
  refine gp_13_1 F (by decide) mFL_X3_23 dX3_clear_7 ?_
  refine g_iload_n F 0 dX3_clear_10 rfl rfl ?_
  refine g_iret F hr hlk rfl dX3_clear_11 ?_
  exact ⟨by first | rfl | assumption, rfl⟩
