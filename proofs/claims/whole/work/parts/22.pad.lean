/-! PART 22: the pad: a text is read from left to right -/
def sgT (pl : Nat) (pad : Sg) (i : Nat) : Int32 := if i < pl then pad i else 0
def chT (pl : Nat) (pad : Sg) (x : Int32) (p : Nat) : Bool × Nat := if sgT pl pad p = x then (true, p + 1) else (false, p)
def dgT (pl : Nat) (pad : Sg) (m : Int32) (p : Nat) : Bool × Nat := if 48 ≤ sgT pl pad p ∧ sgT pl pad p ≤ 48 + m then (true, p + 1) else (false, p)
def nmI (pl : Nat) (pad : Sg) : Nat → Int32 × Nat → Int32 × Nat
  | 0, q => q
  | t + 1, q => if 0 < q.1 ∧ (48 ≤ sgT pl pad q.2 ∧ sgT pl pad q.2 ≤ 57) then nmI pl pad t (10 * q.1 + sgT pl pad q.2 - 48, q.2 + 1) else q
def nmT (pl : Nat) (pad : Sg) (p : Nat) : Bool × Nat := if 48 ≤ sgT pl pad p ∧ sgT pl pad p ≤ 57 then (true, (nmI pl pad 2 (sgT pl pad p - 48, p + 1)).2) else (false, p)
def nmV (pl : Nat) (pad : Sg) (p : Nat) : Int32 := (nmI pl pad 2 (sgT pl pad p - 48, p + 1)).1
def thn (r : Bool × Nat) (f : Nat → Bool × Nat) : Bool × Nat := if r.1 = true then f r.2 else r
def orT (pl : Nat) (pad : Sg) (p : Nat) : Bool × Nat :=
  if sgT pl pad p = 111 then thn (thn (thn (thn (nmT pl pad (p + 1)) (chT pl pad 58)) (nmT pl pad)) (chT pl pad 33)) (dgT pl pad 3)
  else if sgT pl pad p = 102 then thn (thn (thn (thn (nmT pl pad (p + 1)) (chT pl pad 44)) (nmT pl pad)) (chT pl pad 44)) (nmT pl pad)
  else if sgT pl pad p = 115 then thn (thn (dgT pl pad 7 (p + 1)) (chT pl pad 42)) (nmT pl pad)
  else if sgT pl pad p = 116 then nmT pl pad (p + 1)
  else (false, p)
/-- where the second and the third number begin -/
def p2T (pl : Nat) (pad : Sg) (p : Nat) : Nat := (nmT pl pad (p + 1)).2 + 1
def p3T (pl : Nat) (pad : Sg) (p : Nat) : Nat := (nmT pl pad (p2T pl pad p)).2 + 1
def PD (I : Ii) (pl : Nat) (pad : Sg) : Prop := I 13 0 1 = nI pl ∧ pl ≤ 80 ∧ ∀ i, i < pl → I 14 0 i = pad i
def FP (I I' : Ii) : Prop := ∀ K i c, ¬ (K = 13 ∧ (c = 2 ∨ c = 3 ∨ c = 5)) → K ≠ 15 → I' K i c = I K i c
theorem FP.rf {I : Ii} : FP I I := fun _ _ _ _ _ => rfl
theorem FP.tr {I I1 I2 : Ii} (h1 : FP I I1) (h2 : FP I1 I2) : FP I I2 := fun K i c h h' => (h2 K i c h h').trans (h1 K i c h h')
theorem FP.at_ {I : Ii} {i j : Nat} {v : Int32} (h : j = 2 ∨ j = 3 ∨ j = 5) : FP I (up3 I 13 i j v) := fun K a c q _ => up3_n (fun e => q ⟨e.1, by rw [e.2.2]; exact h⟩)
theorem FP.nu {I : Ii} {i j : Nat} {v : Int32} : FP I (up3 I 15 i j v) := fun K a c _ q => up3_k q
theorem PD.fp {I I' : Ii} {pl : Nat} {pad : Sg} (h : PD I pl pad) (f : FP I I') : PD I' pl pad := ⟨by rw [f 13 0 1 (by decide) (by decide)]; exact h.1, h.2.1, fun i hi => by rw [f 14 0 i (by omega) (by decide)]; exact h.2.2 i hi⟩
theorem nmI_ge (pl : Nat) (pad : Sg) : ∀ t q, q.2 ≤ (nmI pl pad t q).2 := by
  intro t
  induction t with
  | zero => exact fun q => Nat.le_refl _
  | succ t ih =>
    intro q
    unfold nmI
    split
    · exact Nat.le_trans (Nat.le_succ _) (ih (_, q.2 + 1))
    · exact Nat.le_refl _
theorem dig_in {pl : Nat} {pad : Sg} {p : Nat} (h : 48 ≤ sgT pl pad p) : p < pl := by
  unfold sgT at h
  by_cases c : p < pl
  · exact c
  · rw [if_neg c] at h
    exact absurd h Bool.false_ne_true
theorem nmI_le (pl : Nat) (pad : Sg) : ∀ t q, q.2 ≤ pl → (nmI pl pad t q).2 ≤ pl := by
  intro t
  induction t with
  | zero => exact fun q h => h
  | succ t ih =>
    intro q h
    unfold nmI
    split
    · rename_i c
      exact ih (_, q.2 + 1) (dig_in c.2.1)
    · exact h
theorem sg_in {pl : Nat} {pad : Sg} {p : Nat} {x : Int32} (h : sgT pl pad p = x) (hx : x ≠ 0) : p < pl := by
  unfold sgT at h
  by_cases c : p < pl
  · exact c
  · rw [if_neg c] at h
    exact absurd h.symm hx
theorem nmT_ok {pl : Nat} {pad : Sg} {p : Nat} (h : (nmT pl pad p).1 = true) : p < pl ∧ p + 1 ≤ (nmT pl pad p).2 ∧ (nmT pl pad p).2 ≤ pl ∧ (nmT pl pad p).2 = (nmI pl pad 2 (sgT pl pad p - 48, p + 1)).2 ∧ (48 ≤ sgT pl pad p ∧ sgT pl pad p ≤ 57) := by
  unfold nmT at h ⊢
  by_cases c : 48 ≤ sgT pl pad p ∧ sgT pl pad p ≤ 57
  · rw [if_pos c]
    exact ⟨dig_in c.1, nmI_ge pl pad 2 (sgT pl pad p - 48, p + 1), nmI_le pl pad 2 (sgT pl pad p - 48, p + 1) (dig_in c.1), rfl, c⟩
  · rw [if_neg c] at h
    exact absurd h Bool.false_ne_true
theorem chT_ok {pl : Nat} {pad : Sg} {p : Nat} {x : Int32} (h : (chT pl pad x p).1 = true) (hx : x ≠ 0) : p < pl ∧ (chT pl pad x p).2 = p + 1 ∧ sgT pl pad p = x := by
  unfold chT at h ⊢
  by_cases c : sgT pl pad p = x
  · rw [if_pos c]
    exact ⟨sg_in c hx, rfl, c⟩
  · rw [if_neg c] at h
    exact absurd h Bool.false_ne_true
theorem dgT_ok {pl : Nat} {pad : Sg} {p : Nat} {m : Int32} (h : (dgT pl pad m p).1 = true) : p < pl ∧ (dgT pl pad m p).2 = p + 1 ∧ (48 ≤ sgT pl pad p ∧ sgT pl pad p ≤ 48 + m) := by
  unfold dgT at h ⊢
  by_cases c : 48 ≤ sgT pl pad p ∧ sgT pl pad p ≤ 48 + m
  · rw [if_pos c]
    exact ⟨dig_in c.1, rfl, c⟩
  · rw [if_neg c] at h
    exact absurd h Bool.false_ne_true
theorem thn_t {r : Bool × Nat} {f : Nat → Bool × Nat} (h : r.1 = true) : thn r f = f r.2 := if_pos h
theorem thn_f {r : Bool × Nat} {f : Nat → Bool × Nat} (h : ¬ r.1 = true) : thn r f = r := if_neg h
theorem thn_ok {r : Bool × Nat} {f : Nat → Bool × Nat} (h : (thn r f).1 = true) : r.1 = true ∧ (f r.2).1 = true ∧ thn r f = f r.2 := by
  by_cases c : r.1 = true
  · rw [thn_t c] at h
    exact ⟨c, h, thn_t c⟩
  · rw [thn_f c] at h
    exact absurd h c
theorem nmT_f {pl : Nat} {pad : Sg} {p : Nat} (h : ¬ (nmT pl pad p).1 = true) : nmT pl pad p = (false, p) := by
  unfold nmT at h ⊢
  split
  · rename_i c
    rw [if_pos c] at h
    exact absurd rfl h
  · rfl
theorem chT_f {pl : Nat} {pad : Sg} {p : Nat} {x : Int32} (h : ¬ (chT pl pad x p).1 = true) : chT pl pad x p = (false, p) := by
  unfold chT at h ⊢
  split
  · rename_i c
    rw [if_pos c] at h
    exact absurd rfl h
  · rfl
theorem dgT_f {pl : Nat} {pad : Sg} {p : Nat} {m : Int32} (h : ¬ (dgT pl pad m p).1 = true) : dgT pl pad m p = (false, p) := by
  unfold dgT at h ⊢
  split
  · rename_i c
    rw [if_pos c] at h
    exact absurd rfl h
  · rfl
theorem orT_ok {pl : Nat} {pad : Sg} {p : Nat} (h : (orT pl pad p).1 = true) : p + 2 ≤ (orT pl pad p).2 ∧ (orT pl pad p).2 ≤ pl := by
  unfold orT at h ⊢
  by_cases c1 : sgT pl pad p = 111
  · rw [if_pos c1] at h ⊢
    obtain ⟨h4, g5, e5⟩ := thn_ok h
    obtain ⟨h3, g4, e4⟩ := thn_ok h4
    obtain ⟨h2, g3, e3⟩ := thn_ok h3
    obtain ⟨h1, g2, e2⟩ := thn_ok h2
    rw [e5]
    have k5 := dgT_ok g5
    rw [e4] at k5 ⊢
    have k4 := chT_ok g4 (by decide)
    rw [e3] at k5 k4 ⊢
    have k3 := nmT_ok g3
    rw [e2] at k5 k4 k3 ⊢
    have k2 := chT_ok g2 (by decide)
    have k1 := nmT_ok h1
    omega
  · rw [if_neg c1] at h ⊢
    by_cases c2 : sgT pl pad p = 102
    · rw [if_pos c2] at h ⊢
      obtain ⟨h4, g5, e5⟩ := thn_ok h
      obtain ⟨h3, g4, e4⟩ := thn_ok h4
      obtain ⟨h2, g3, e3⟩ := thn_ok h3
      obtain ⟨h1, g2, e2⟩ := thn_ok h2
      rw [e5]
      have k5 := nmT_ok g5
      rw [e4] at k5 ⊢
      have k4 := chT_ok g4 (by decide)
      rw [e3] at k5 k4 ⊢
      have k3 := nmT_ok g3
      rw [e2] at k5 k4 k3 ⊢
      have k2 := chT_ok g2 (by decide)
      have k1 := nmT_ok h1
      omega
    · rw [if_neg c2] at h ⊢
      by_cases c3 : sgT pl pad p = 115
      · rw [if_pos c3] at h ⊢
        obtain ⟨h2, g3, e3⟩ := thn_ok h
        obtain ⟨h1, g2, e2⟩ := thn_ok h2
        rw [e3]
        have k3 := nmT_ok g3
        rw [e2] at k3 ⊢
        have k2 := chT_ok g2 (by decide)
        have k1 := dgT_ok h1
        omega
      · rw [if_neg c3] at h ⊢
        by_cases c4 : sgT pl pad p = 116
        · rw [if_pos c4] at h ⊢
          have k1 := nmT_ok h
          omega
        · rw [if_neg c4] at h
          exact absurd h Bool.false_ne_true
set_option maxHeartbeats 4000000 in
set_option maxRecDepth 100000 in
theorem c_X3_here {l : Launch} {G : Gm} (hj : Aj G) {I : Ii} {pm : Pm} {pl : Nat} {pad : Sg} (P : PD I pl pad) {tp : Nat} (hp : tp ≤ 80) (ep : I 13 0 2 = nI tp) : CI l G yX3_here (wz yX3_here cX3_here 1 (some .int)) (rmL 0) [.ref (G.2.2 13 0)] I pm (fun r u => r = sgT pl pad tp ∧ u = (I, pm)) := by
  have h80 := P.2.1
  refine CI.walk hj (by decide +kernel) (by show _ ≤ 1; exact Nat.le_of_ble_eq_true rfl) ?_
  intro p e s m args below meth c F hr hlk
  refine g_aload_n F 0 dX3_here_0 rfl rfl ?_
  refine gf_13_2 F (by decide) mFL_X3_35 dX3_here_1 ?_
  refine g_aload_n F 0 dX3_here_4 rfl rfl ?_
  refine gf_13_1 F (by decide) mFL_X3_23 dX3_here_5 ?_
  refine g_icmp_ge F 32 dX3_here_8 (by decide) (fun c_8 => ?_) (fun c_8 => ?_)
  · have n_8 := nx_get (a := tp) (b := pl) ep P.1 (by omega) (by omega) c_8
    refine g_iconst (v := 0) F dX3_here_32 (by decide) ?_
    refine g_iret F hr hlk rfl dX3_here_33 ?_
    exact ⟨by unfold sgT; rw [if_neg (by omega)], rfl⟩
  · have n_8 := nx_gef (a := tp) (b := pl) ep P.1 (by omega) (by omega) c_8
    refine g_aload_n F 0 dX3_here_11 rfl rfl ?_
    refine gf_13_2 F (by decide) mFL_X3_35 dX3_here_12 ?_
    refine g_bipush (v := 80) F dX3_here_15 (by decide) ?_
    refine g_icmp_ge F 32 dX3_here_17 (by decide) (fun c_17 => ?_) (fun c_17 => ?_)
    · have n_17 := nx_get (a := tp) (b := 80) ep rfl (by omega) (by omega) c_17
      refine g_iconst (v := 0) F dX3_here_32 (by decide) ?_
      refine g_iret F hr hlk rfl dX3_here_33 ?_
      exact ⟨by unfold sgT; rw [if_neg (by omega)], rfl⟩
    · have n_17 := nx_gef (a := tp) (b := 80) ep rfl (by omega) (by omega) c_17
      refine g_aload_n F 0 dX3_here_20 rfl rfl ?_
      refine gf_13_0 F (by decide) mFL_X3_9 dX3_here_21 ?_
      refine g_aload_n F 0 dX3_here_24 rfl rfl ?_
      refine gf_13_2 F (by decide) mFL_X3_35 dX3_here_25 ?_
      refine ga_14 (j := tp) F (by decide) ep (by omega) dX3_here_28 ?_
      refine g_goto F 33 dX3_here_29 (by decide) ?_
      refine g_iret F hr hlk rfl dX3_here_33 ?_
      exact ⟨by unfold sgT; rw [if_pos (by omega)]; exact P.2.2 tp (by omega), rfl⟩
set_option maxHeartbeats 4000000 in
set_option maxRecDepth 100000 in
theorem c_X3_reads {l : Launch} {G : Gm} (hj : Aj G) {I : Ii} {pm : Pm} {pl : Nat} {pad : Sg} (P : PD I pl pad) {tp : Nat} (hp : tp ≤ 80) (ep : I 13 0 2 = nI tp) {x : Int32} : CI l G yX3_reads (wz yX3_reads cX3_reads 2 (some .boolean)) (rmL 1) [.ref (G.2.2 13 0), .int x] I pm (fun r u => r = bz ((chT pl pad x tp).1 = true) ∧ ((chT pl pad x tp).1 = true → u = (up3 I 13 0 2 (nI (tp + 1)), pm)) ∧ (¬ (chT pl pad x tp).1 = true → u = (I, pm))) := by
  have h80 := P.2.1
  refine CI.walk hj (by decide +kernel) (by show _ ≤ 2; exact Nat.le_of_ble_eq_true rfl) ?_
  intro p e s m args below meth c F hr hlk
  refine g_aload_n F 0 dX3_reads_0 rfl rfl ?_
  refine g_callIv (na := 0) F 13 _ (c_X3_here hj P hp ep) (by decide) rfl rfl lk_X3_49 rfl rfl (by decide +kernel) ⟨rfl, rfl, Nat.le_of_ble_eq_true rfl, Nat.le_of_ble_eq_true rfl, Nat.le_of_ble_eq_true rfl, Nat.le_of_ble_eq_true rfl, Nat.le_of_ble_eq_true rfl⟩ dX3_reads_1 (fun r_1 u_1 h_1 => ?_)
  obtain ⟨rfl, rfl⟩ := h_1
  try dsimp only
  refine g_iload_n F 1 dX3_reads_4 rfl rfl ?_
  refine g_icmp_eq F 10 dX3_reads_5 (by decide) (fun c_5 => ?_) (fun c_5 => ?_)
  · have CC : (chT pl pad x tp).1 = true := by unfold chT; rw [if_pos c_5]
    refine g_aload_n F 0 dX3_reads_10 rfl rfl ?_
    refine g_dup F dX3_reads_11 rfl ?_
    refine gf_13_2 F (by decide) mFL_X3_35 dX3_reads_12 ?_
    refine g_iconst (v := 1) F dX3_reads_15 (by decide) ?_
    refine g_iadd F dX3_reads_16 ?_
    refine gp_13_2 F (by decide) mFL_X3_35 dX3_reads_17 ?_
    refine g_iconst (v := 1) F dX3_reads_20 (by decide) ?_
    refine g_iret F hr hlk rfl dX3_reads_21 ?_
    exact ⟨(bz_1.mpr CC).symm, fun _ => by rw [ep]; exact congrArg (fun z => (up3 I 13 0 2 z, pm)) (nI_1 tp), fun q => absurd CC q⟩
  · have CC : ¬ (chT pl pad x tp).1 = true := by unfold chT; rw [if_neg c_5]; exact Bool.false_ne_true
    refine g_iconst (v := 0) F dX3_reads_8 (by decide) ?_
    refine g_iret F hr hlk rfl dX3_reads_9 ?_
    exact ⟨(bz_0.mpr CC).symm, fun q => absurd q CC, fun _ => rfl⟩
set_option maxHeartbeats 4000000 in
set_option maxRecDepth 100000 in
theorem c_X3_hold {l : Launch} {G : Gm} (hj : Aj G) {I : Ii} {pm : Pm} {nr : Nat} (hn : nr < 3) (en : I 13 0 5 = nI nr) {x : Int32} : CV l G yX3_hold (wz yX3_hold cX3_hold 2 none) (rmL 0) [.ref (G.2.2 13 0), .int x] I pm (fun u => u = (up3 (up3 I 15 0 nr x) 13 0 5 (nI (nr + 1)), pm)) := by
  refine CV.walk hj (by decide +kernel) (by show _ ≤ 2; exact Nat.le_of_ble_eq_true rfl) ?_
  intro p e s m args below meth c F hr hlk
  refine g_aload_n F 0 dX3_hold_0 rfl rfl ?_
  refine gf_13_5 F (by decide) mFL_X3_56 dX3_hold_1 ?_
  refine g_iconst (v := 3) F dX3_hold_4 (by decide) ?_
  refine g_icmp_ge F 28 dX3_hold_5 (by decide) (fun c_5 => ?_) (fun c_5 => ?_)
  · have n_5 := nx_get (a := nr) (b := 3) en rfl (by omega) (by omega) c_5
    omega
  · have n_5 := nx_gef (a := nr) (b := 3) en rfl (by omega) (by omega) c_5
    refine g_aload_n F 0 dX3_hold_8 rfl rfl ?_
    refine gf_13_4 F (by decide) mFL_X3_15 dX3_hold_9 ?_
    refine g_aload_n F 0 dX3_hold_12 rfl rfl ?_
    refine gf_13_5 F (by decide) mFL_X3_56 dX3_hold_13 ?_
    refine g_iload_n F 1 dX3_hold_16 rfl rfl ?_
    refine gs_15 (j := nr) F (by decide) en (by omega) dX3_hold_17 ?_
    refine g_aload_n F 0 dX3_hold_18 rfl rfl ?_
    refine g_dup F dX3_hold_19 rfl ?_
    refine gf_13_5 F (by decide) mFL_X3_56 dX3_hold_20 ?_
    refine g_iconst (v := 1) F dX3_hold_23 (by decide) ?_
    refine g_iadd F dX3_hold_24 ?_
    refine gp_13_5 F (by decide) mFL_X3_56 dX3_hold_25 ?_
    refine g_vret F hr hlk dX3_hold_28 ?_
    have e5 : up3 I 15 0 nr x 13 0 5 = nI nr := (up3_k (by decide)).trans en
    rw [e5]
    exact congrArg (fun z => (up3 (up3 I 15 0 nr x) 13 0 5 z, pm)) (nI_1 nr)
set_option maxHeartbeats 4000000 in
set_option maxRecDepth 100000 in
theorem c_X3_readsDigit {l : Launch} {G : Gm} (hj : Aj G) {I : Ii} {pm : Pm} {pl : Nat} {pad : Sg} (P : PD I pl pad) {tp : Nat} (hp : tp ≤ 80) (ep : I 13 0 2 = nI tp) {nr : Nat} (hn : nr < 3) (en : I 13 0 5 = nI nr) {x : Int32} : CI l G yX3_readsDigit (wz yX3_readsDigit cX3_readsDigit 2 (some .boolean)) (rmL 2) [.ref (G.2.2 13 0), .int x] I pm (fun r u => r = bz ((dgT pl pad x tp).1 = true) ∧ ((dgT pl pad x tp).1 = true → u.2 = pm ∧ FP I u.1 ∧ u.1 13 0 2 = nI (tp + 1) ∧ u.1 13 0 5 = nI (nr + 1) ∧ u.1 15 0 nr = sgT pl pad tp - 48 ∧ (∀ j, j < nr → u.1 15 0 j = I 15 0 j) ∧ u.1 13 0 3 = I 13 0 3) ∧ (¬ (dgT pl pad x tp).1 = true → u = (I, pm))) := by
  have h80 := P.2.1
  refine CI.walk hj (by decide +kernel) (by show _ ≤ 2; exact Nat.le_of_ble_eq_true rfl) ?_
  intro p e s m args below meth c F hr hlk
  refine g_aload_n F 0 dX3_readsDigit_0 rfl rfl ?_
  refine g_callIv (na := 0) F 13 _ (c_X3_here hj P hp ep) (by decide) rfl rfl lk_X3_49 rfl rfl (by decide +kernel) ⟨rfl, rfl, Nat.le_of_ble_eq_true rfl, Nat.le_of_ble_eq_true rfl, Nat.le_of_ble_eq_true rfl, Nat.le_of_ble_eq_true rfl, Nat.le_of_ble_eq_true rfl⟩ dX3_readsDigit_1 (fun r_1 u_1 h_1 => ?_)
  obtain ⟨rfl, rfl⟩ := h_1
  try dsimp only
  refine g_bipush (v := 48) F dX3_readsDigit_4 (by decide) ?_
  refine g_bipush (v := 48) F dX3_readsDigit_6 (by decide) ?_
  refine g_iload_n F 1 dX3_readsDigit_8 rfl rfl ?_
  refine g_iadd F dX3_readsDigit_9 ?_
  refine g_callIn (na := 3) F (c_X5_within hj) (gw mCO_yX5_within) F.2.2.1.2.2.2.2 mST_yX5_within mIN_RX5 rfl rfl (by decide +kernel) ⟨rfl, rfl, Nat.le_of_ble_eq_true rfl, Nat.le_of_ble_eq_true rfl, Nat.le_of_ble_eq_true rfl, Nat.le_of_ble_eq_true rfl, Nat.le_of_ble_eq_true rfl⟩ dX3_readsDigit_10 (fun r_10 u_10 h_10 => ?_)
  obtain ⟨rfl, rfl⟩ := h_10
  try dsimp only
  refine g_if_ne F 18 dX3_readsDigit_13 (by decide) (fun c_13 => ?_) (fun c_13 => ?_)
  · have CC : (dgT pl pad x tp).1 = true := by unfold dgT; rw [if_pos (bz_n.mp c_13)]
    refine g_aload_n F 0 dX3_readsDigit_18 rfl rfl ?_
    refine g_aload_n F 0 dX3_readsDigit_19 rfl rfl ?_
    refine g_callIv (na := 0) F 13 _ (c_X3_here hj P hp ep) (by decide) rfl rfl lk_X3_49 rfl rfl (by decide +kernel) ⟨rfl, rfl, Nat.le_of_ble_eq_true rfl, Nat.le_of_ble_eq_true rfl, Nat.le_of_ble_eq_true rfl, Nat.le_of_ble_eq_true rfl, Nat.le_of_ble_eq_true rfl⟩ dX3_readsDigit_20 (fun r_20 u_20 h_20 => ?_)
    obtain ⟨rfl, rfl⟩ := h_20
    try dsimp only
    refine g_bipush (v := 48) F dX3_readsDigit_23 (by decide) ?_
    refine g_isub F dX3_readsDigit_25 ?_
    refine g_callVv (na := 1) F 13 _ (c_X3_hold hj hn en) (by decide) rfl rfl lk_X3_65 rfl rfl (by decide +kernel) ⟨rfl, rfl, Nat.le_of_ble_eq_true rfl, Nat.le_of_ble_eq_true rfl, Nat.le_of_ble_eq_true rfl, Nat.le_of_ble_eq_true rfl, Nat.le_of_ble_eq_true rfl⟩ dX3_readsDigit_26 (fun u_26 h_26 => ?_)
    subst h_26
    try dsimp only
    refine g_aload_n F 0 dX3_readsDigit_29 rfl rfl ?_
    refine g_dup F dX3_readsDigit_30 rfl ?_
    refine gf_13_2 F (by decide) mFL_X3_35 dX3_readsDigit_31 ?_
    refine g_iconst (v := 1) F dX3_readsDigit_34 (by decide) ?_
    refine g_iadd F dX3_readsDigit_35 ?_
    refine gp_13_2 F (by decide) mFL_X3_35 dX3_readsDigit_36 ?_
    refine g_iconst (v := 1) F dX3_readsDigit_39 (by decide) ?_
    refine g_iret F hr hlk rfl dX3_readsDigit_40 ?_
    refine ⟨(bz_1.mpr CC).symm, fun _ => ⟨rfl, (FP.nu.tr (FP.at_ (by decide))).tr (FP.at_ (by decide)), ?_, ?_, ?_, fun j hj2 => ?_, ?_⟩, fun q => absurd CC q⟩
    · simp [up3, ep]; exact nI_1 tp
    · simp [up3]
    · simp [up3]
    · simp [up3, show ¬ j = nr by omega]
    · simp [up3]
  · have CC : ¬ (dgT pl pad x tp).1 = true := by unfold dgT; rw [if_neg (bz_0.mp c_13)]; exact Bool.false_ne_true
    refine g_iconst (v := 0) F dX3_readsDigit_16 (by decide) ?_
    refine g_iret F hr hlk rfl dX3_readsDigit_17 ?_
    exact ⟨(bz_0.mpr CC).symm, fun q => absurd q CC, fun _ => rfl⟩
set_option maxHeartbeats 4000000 in
set_option maxRecDepth 100000 in
theorem c_X3_readsNumber {l : Launch} {G : Gm} (hj : Aj G) {I : Ii} {pm : Pm} {pl : Nat} {pad : Sg} (P : PD I pl pad) {tp : Nat} (hp : tp ≤ 80) (ep : I 13 0 2 = nI tp) {nr : Nat} (hn : nr < 3) (en : I 13 0 5 = nI nr) : CI l G yX3_readsNumber (wz yX3_readsNumber cX3_readsNumber 3 (some .boolean)) (rmL 1) [.ref (G.2.2 13 0)] I pm (fun r u => r = bz ((nmT pl pad tp).1 = true) ∧ ((nmT pl pad tp).1 = true → u.2 = pm ∧ FP I u.1 ∧ u.1 13 0 2 = nI (nmT pl pad tp).2 ∧ u.1 13 0 5 = nI (nr + 1) ∧ u.1 15 0 nr = nmV pl pad tp ∧ (∀ j, j < nr → u.1 15 0 j = I 15 0 j) ∧ u.1 13 0 3 = I 13 0 3) ∧ (¬ (nmT pl pad tp).1 = true → u = (I, pm))) := by
  refine CI.walk hj (by decide +kernel) (by show _ ≤ 3; exact Nat.le_of_ble_eq_true rfl) ?_
  intro p e s m args below meth c F hr hlk
  have h80 := P.2.1
  have LOOP : ∀ j, j ≤ 2 → (nmT pl pad tp).1 = true → ∀ (v xj : Int32) (q : Nat), xj = nI j → q ≤ pl → nmI pl pad 2 (sgT pl pad tp - 48, tp + 1) = nmI pl pad (2 - j) (v, q) → GG p l e (rmL 1) s m args below meth c G (AA G) 3 0 0 (MQ below (va_Qi (fun (r : Int32) (u : Ii × Pm) => r = bz ((nmT pl pad tp).1 = true) ∧ ((nmT pl pad tp).1 = true → u.2 = pm ∧ FP I u.1 ∧ u.1 13 0 2 = nI (nmT pl pad tp).2 ∧ u.1 13 0 5 = nI (nr + 1) ∧ u.1 15 0 nr = nmV pl pad tp ∧ (∀ j, j < nr → u.1 15 0 j = I 15 0 j) ∧ u.1 13 0 3 = I 13 0 3) ∧ (¬ (nmT pl pad tp).1 = true → u = (I, pm))) (fun (u : Ii × Pm) t => Wd G u.1 u.2 t.heap) (AA G)) args s 0 0 (AA G)) (up3 I 13 0 2 (nI q)) pm [(0, .ref (G.2.2 13 0)), (1, .int v), (2, .int xj)] 36 [] := by
    refine dn_ind ?_
    intro j hjl ih hok v xj q ej hq hI
    have P2 : PD (up3 I 13 0 2 (nI q)) pl pad := P.fp (FP.at_ (by decide))
    have e2 : up3 I 13 0 2 (nI q) 13 0 2 = nI q := up3_s
    have en2 : up3 I 13 0 2 (nI q) 13 0 5 = nI nr := (up3_n (by decide)).trans en
    refine g_iload_n F 2 dX3_readsNumber_36 rfl rfl ?_
    refine g_iconst (v := 2) F dX3_readsNumber_37 (by decide) ?_
    refine g_icmp_ge F 88 dX3_readsNumber_38 (by decide) (fun c_38 => ?_) (fun c_38 => ?_)
    · have n_38 := nx_get (a := j) (b := 2) ej rfl (by omega) (by omega) c_38
      have EE : nmI pl pad (2 - j) (v, q) = (v, q) := by rw [show 2 - j = 0 by omega]; rfl
      refine g_aload_n F 0 dX3_readsNumber_88 rfl rfl ?_
      refine g_iload_n F 1 dX3_readsNumber_89 rfl rfl ?_
      refine g_callVv (na := 1) F 13 _ (c_X3_hold hj hn en2) (by decide) rfl rfl lk_X3_65 rfl rfl (by decide +kernel) ⟨rfl, rfl, Nat.le_of_ble_eq_true rfl, Nat.le_of_ble_eq_true rfl, Nat.le_of_ble_eq_true rfl, Nat.le_of_ble_eq_true rfl, Nat.le_of_ble_eq_true rfl⟩ dX3_readsNumber_90 (fun u_90 h_90 => ?_)
      subst h_90
      try dsimp only
      refine g_iconst (v := 1) F dX3_readsNumber_93 (by decide) ?_
      refine g_iret F hr hlk rfl dX3_readsNumber_94 ?_
      have HH := hI.trans EE
      have kk := nmT_ok hok
      have ev : nmV pl pad tp = v := by unfold nmV; rw [HH]
      have ex : (nmT pl pad tp).2 = q := by rw [kk.2.2.2.1, HH]
      refine ⟨(bz_1.mpr hok).symm, fun _ => ⟨rfl, ((FP.at_ (by decide)).tr FP.nu).tr (FP.at_ (by decide)), ?_, ?_, ?_, fun i hi => ?_, ?_⟩, fun z => absurd hok z⟩
      · simp [up3, ex]
      · simp [up3]
      · simp [up3, ev]
      · simp [up3, show ¬ i = nr by omega]
      · simp [up3]
    · have n_38 := nx_gef (a := j) (b := 2) ej rfl (by omega) (by omega) c_38
      refine g_iload_n F 1 dX3_readsNumber_41 rfl rfl ?_
      refine g_if_le F 88 dX3_readsNumber_42 (by decide) (fun c_42 => ?_) (fun c_42 => ?_)
      · have EE : nmI pl pad (2 - j) (v, q) = (v, q) := by rw [show 2 - j = (1 - j) + 1 by omega]; exact if_neg (fun z => absurd z.1 (Int32.not_lt.mpr c_42))
        refine g_aload_n F 0 dX3_readsNumber_88 rfl rfl ?_
        refine g_iload_n F 1 dX3_readsNumber_89 rfl rfl ?_
        refine g_callVv (na := 1) F 13 _ (c_X3_hold hj hn en2) (by decide) rfl rfl lk_X3_65 rfl rfl (by decide +kernel) ⟨rfl, rfl, Nat.le_of_ble_eq_true rfl, Nat.le_of_ble_eq_true rfl, Nat.le_of_ble_eq_true rfl, Nat.le_of_ble_eq_true rfl, Nat.le_of_ble_eq_true rfl⟩ dX3_readsNumber_90 (fun u_90 h_90 => ?_)
        subst h_90
        try dsimp only
        refine g_iconst (v := 1) F dX3_readsNumber_93 (by decide) ?_
        refine g_iret F hr hlk rfl dX3_readsNumber_94 ?_
        have HH := hI.trans EE
        have kk := nmT_ok hok
        have ev : nmV pl pad tp = v := by unfold nmV; rw [HH]
        have ex : (nmT pl pad tp).2 = q := by rw [kk.2.2.2.1, HH]
        refine ⟨(bz_1.mpr hok).symm, fun _ => ⟨rfl, ((FP.at_ (by decide)).tr FP.nu).tr (FP.at_ (by decide)), ?_, ?_, ?_, fun i hi => ?_, ?_⟩, fun z => absurd hok z⟩
        · simp [up3, ex]
        · simp [up3]
        · simp [up3, ev]
        · simp [up3, show ¬ i = nr by omega]
        · simp [up3]
      · refine g_aload_n F 0 dX3_readsNumber_45 rfl rfl ?_
        refine g_callIv (na := 0) F 13 _ (c_X3_here hj P2 (by omega) e2) (by decide) rfl rfl lk_X3_49 rfl rfl (by decide +kernel) ⟨rfl, rfl, Nat.le_of_ble_eq_true rfl, Nat.le_of_ble_eq_true rfl, Nat.le_of_ble_eq_true rfl, Nat.le_of_ble_eq_true rfl, Nat.le_of_ble_eq_true rfl⟩ dX3_readsNumber_46 (fun r_46 u_46 h_46 => ?_)
        obtain ⟨rfl, rfl⟩ := h_46
        try dsimp only
        refine g_bipush (v := 48) F dX3_readsNumber_49 (by decide) ?_
        refine g_bipush (v := 57) F dX3_readsNumber_51 (by decide) ?_
        refine g_callIn (na := 3) F (c_X5_within hj) (gw mCO_yX5_within) F.2.2.1.2.2.2.2 mST_yX5_within mIN_RX5 rfl rfl (by decide +kernel) ⟨rfl, rfl, Nat.le_of_ble_eq_true rfl, Nat.le_of_ble_eq_true rfl, Nat.le_of_ble_eq_true rfl, Nat.le_of_ble_eq_true rfl, Nat.le_of_ble_eq_true rfl⟩ dX3_readsNumber_53 (fun r_53 u_53 h_53 => ?_)
        obtain ⟨rfl, rfl⟩ := h_53
        try dsimp only
        refine g_if_eq F 88 dX3_readsNumber_56 (by decide) (fun c_56 => ?_) (fun c_56 => ?_)
        · have EE : nmI pl pad (2 - j) (v, q) = (v, q) := by rw [show 2 - j = (1 - j) + 1 by omega]; exact if_neg (fun z => bz_0.mp c_56 z.2)
          refine g_aload_n F 0 dX3_readsNumber_88 rfl rfl ?_
          refine g_iload_n F 1 dX3_readsNumber_89 rfl rfl ?_
          refine g_callVv (na := 1) F 13 _ (c_X3_hold hj hn en2) (by decide) rfl rfl lk_X3_65 rfl rfl (by decide +kernel) ⟨rfl, rfl, Nat.le_of_ble_eq_true rfl, Nat.le_of_ble_eq_true rfl, Nat.le_of_ble_eq_true rfl, Nat.le_of_ble_eq_true rfl, Nat.le_of_ble_eq_true rfl⟩ dX3_readsNumber_90 (fun u_90 h_90 => ?_)
          subst h_90
          try dsimp only
          refine g_iconst (v := 1) F dX3_readsNumber_93 (by decide) ?_
          refine g_iret F hr hlk rfl dX3_readsNumber_94 ?_
          have HH := hI.trans EE
          have kk := nmT_ok hok
          have ev : nmV pl pad tp = v := by unfold nmV; rw [HH]
          have ex : (nmT pl pad tp).2 = q := by rw [kk.2.2.2.1, HH]
          refine ⟨(bz_1.mpr hok).symm, fun _ => ⟨rfl, ((FP.at_ (by decide)).tr FP.nu).tr (FP.at_ (by decide)), ?_, ?_, ?_, fun i hi => ?_, ?_⟩, fun z => absurd hok z⟩
          · simp [up3, ex]
          · simp [up3]
          · simp [up3, ev]
          · simp [up3, show ¬ i = nr by omega]
          · simp [up3]
        · have E2 : nmI pl pad (2 - j) (v, q) = nmI pl pad (1 - j) (10 * v + sgT pl pad q - 48, q + 1) := by rw [show 2 - j = (1 - j) + 1 by omega]; exact if_pos ⟨Int32.not_le.mp c_42, bz_n.mp c_56⟩
          have hq2 : q < pl := dig_in (bz_n.mp c_56).1
          refine g_iload_n F 1 dX3_readsNumber_59 rfl rfl ?_
          refine g_bipush (v := 10) F dX3_readsNumber_60 (by decide) ?_
          refine g_imul F dX3_readsNumber_62 ?_
          refine g_aload_n F 0 dX3_readsNumber_63 rfl rfl ?_
          refine g_callIv (na := 0) F 13 _ (c_X3_here hj P2 (by omega) e2) (by decide) rfl rfl lk_X3_49 rfl rfl (by decide +kernel) ⟨rfl, rfl, Nat.le_of_ble_eq_true rfl, Nat.le_of_ble_eq_true rfl, Nat.le_of_ble_eq_true rfl, Nat.le_of_ble_eq_true rfl, Nat.le_of_ble_eq_true rfl⟩ dX3_readsNumber_64 (fun r_64 u_64 h_64 => ?_)
          obtain ⟨rfl, rfl⟩ := h_64
          try dsimp only
          refine g_iadd F dX3_readsNumber_67 ?_
          refine g_bipush (v := 48) F dX3_readsNumber_68 (by decide) ?_
          refine g_isub F dX3_readsNumber_70 ?_
          refine g_topi (fun x1_71 ex1_71 => ?_)
          refine g_istore_n (L' := [(1, _), (0, _), (2, _)]) F dX3_readsNumber_71 rfl (by decide) rfl ?_
          refine g_aload_n F 1 dX3_readsNumber_72 rfl rfl ?_
          refine g_dup F dX3_readsNumber_73 rfl ?_
          refine gf_13_2 F (by decide) mFL_X3_35 dX3_readsNumber_74 ?_
          refine g_iconst (v := 1) F dX3_readsNumber_77 (by decide) ?_
          refine g_iadd F dX3_readsNumber_78 ?_
          refine gp_13_2 F (by decide) mFL_X3_35 dX3_readsNumber_79 ?_
          refine g_iincC (q := 1) (L' := [(2, _), (1, _), (0, _)]) F 2 dX3_readsNumber_82 (by decide) rfl (by decide) rfl ?_
          refine g_goto F 36 dX3_readsNumber_85 (by decide) ?_
          refine g_sub [2, 1, 0] rfl ?_
          refine g_I (I' := up3 I 13 0 2 (nI (q + 1))) ?_ ?_
          · rw [up3_s]
            funext a b cc
            by_cases z : a = 13 ∧ b = 0 ∧ cc = 2
            · obtain ⟨rfl, rfl, rfl⟩ := z
              rw [up3_s, up3_s]
              exact nI_1 q
            · rw [up3_n z, up3_n z, up3_n z]
          · exact ih (by omega) hok _ _ (q + 1) (nx_add ej rfl) hq2 (by rw [hI, E2, ex1_71, Int32.mul_comm, show 2 - (j + 1) = 1 - j by omega])
  refine g_aload_n F 0 dX3_readsNumber_0 rfl rfl ?_
  refine g_callIv (na := 0) F 13 _ (c_X3_here hj P hp ep) (by decide) rfl rfl lk_X3_49 rfl rfl (by decide +kernel) ⟨rfl, rfl, Nat.le_of_ble_eq_true rfl, Nat.le_of_ble_eq_true rfl, Nat.le_of_ble_eq_true rfl, Nat.le_of_ble_eq_true rfl, Nat.le_of_ble_eq_true rfl⟩ dX3_readsNumber_1 (fun r_1 u_1 h_1 => ?_)
  obtain ⟨rfl, rfl⟩ := h_1
  try dsimp only
  refine g_bipush (v := 48) F dX3_readsNumber_4 (by decide) ?_
  refine g_bipush (v := 57) F dX3_readsNumber_6 (by decide) ?_
  refine g_callIn (na := 3) F (c_X5_within hj) (gw mCO_yX5_within) F.2.2.1.2.2.2.2 mST_yX5_within mIN_RX5 rfl rfl (by decide +kernel) ⟨rfl, rfl, Nat.le_of_ble_eq_true rfl, Nat.le_of_ble_eq_true rfl, Nat.le_of_ble_eq_true rfl, Nat.le_of_ble_eq_true rfl, Nat.le_of_ble_eq_true rfl⟩ dX3_readsNumber_8 (fun r_8 u_8 h_8 => ?_)
  obtain ⟨rfl, rfl⟩ := h_8
  try dsimp only
  refine g_if_ne F 16 dX3_readsNumber_11 (by decide) (fun c_11 => ?_) (fun c_11 => ?_)
  · have CC : (nmT pl pad tp).1 = true := by unfold nmT; rw [if_pos (bz_n.mp c_11)]
    refine g_aload_n F 0 dX3_readsNumber_16 rfl rfl ?_
    refine g_callIv (na := 0) F 13 _ (c_X3_here hj P hp ep) (by decide) rfl rfl lk_X3_49 rfl rfl (by decide +kernel) ⟨rfl, rfl, Nat.le_of_ble_eq_true rfl, Nat.le_of_ble_eq_true rfl, Nat.le_of_ble_eq_true rfl, Nat.le_of_ble_eq_true rfl, Nat.le_of_ble_eq_true rfl⟩ dX3_readsNumber_17 (fun r_17 u_17 h_17 => ?_)
    obtain ⟨rfl, rfl⟩ := h_17
    try dsimp only
    refine g_bipush (v := 48) F dX3_readsNumber_20 (by decide) ?_
    refine g_isub F dX3_readsNumber_22 ?_
    refine g_topi (fun x1_23 ex1_23 => ?_)
    refine g_istore_n (L' := [(1, _), (0, _)]) F dX3_readsNumber_23 rfl (by decide) rfl ?_
    refine g_aload_n F 1 dX3_readsNumber_24 rfl rfl ?_
    refine g_dup F dX3_readsNumber_25 rfl ?_
    refine gf_13_2 F (by decide) mFL_X3_35 dX3_readsNumber_26 ?_
    refine g_iconst (v := 1) F dX3_readsNumber_29 (by decide) ?_
    refine g_iadd F dX3_readsNumber_30 ?_
    refine gp_13_2 F (by decide) mFL_X3_35 dX3_readsNumber_31 ?_
    refine g_iconst (v := 0) F dX3_readsNumber_34 (by decide) ?_
    refine g_istore_n (L' := [(2, _), (1, _), (0, _)]) F dX3_readsNumber_35 rfl (by decide) rfl ?_
    refine g_sub [2, 1, 0] rfl ?_
    refine g_I (I' := up3 I 13 0 2 (nI (tp + 1))) (by rw [ep]; exact congrArg (fun z => up3 I 13 0 2 z) (nI_1 tp)) ?_
    exact LOOP 0 (by decide) CC _ _ (tp + 1) rfl (nmT_ok CC).1 (by rw [ex1_23])
  · have CC : ¬ (nmT pl pad tp).1 = true := by unfold nmT; rw [if_neg (bz_0.mp c_11)]; exact Bool.false_ne_true
    refine g_iconst (v := 0) F dX3_readsNumber_14 (by decide) ?_
    refine g_iret F hr hlk rfl dX3_readsNumber_15 ?_
    exact ⟨(bz_0.mpr CC).symm, fun q => absurd q CC, fun _ => rfl⟩
