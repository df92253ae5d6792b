/-! PART 21: the class's answers, slots, and what if -/
def tldS (σ : Sg) (r : Nat) (w : Int32) : Int32 := if w = 0 then σ (16 + 11 * r + 1) else if w = 1 then σ (16 + 11 * r + 2) else if w = 2 then σ (16 + 11 * r + 3) else if w = 3 then σ (16 + 11 * r + 4) else if w = 4 then σ (16 + 11 * r + 5) + 1000 else if w = 5 then dueS σ r + 1000 else if w = 6 then σ (16 + 11 * r + 6) else if w = 7 then σ (16 + 11 * r + 7) else if w = 8 then σ (16 + 11 * r + 8) else if w = 9 then σ (16 + 11 * r + 3) / 100 else if w = 10 then σ (16 + 11 * r + 9) else if w = 11 then σ (16 + 11 * r + 10) + 1000 else -2
def ofS (σ : Sg) (a w : Int32) : Int32 := if rkS σ a (nof σ) < nof σ then tldS σ (rkS σ a (nof σ)) w else -1
def adrS (σ : Sg) (x : Int32) : Int32 := if 0 ≤ x ∧ x ≤ nI (nof σ) - 1 then σ (16 + 11 * x.toInt.toNat) else -1
def blockS (σ : Sg) (b w : Int32) : Int32 := if 0 ≤ b ∧ b ≤ 7 then (if w = 0 then σ (8 + b.toInt.toNat) else if w = 1 then lcS σ b (nof σ) else -2) else -1
def cntS (σ : Sg) (hn pl : Nat) (w : Int32) : Int32 := if w = 0 then σ 0 else if w = 1 then σ 6 else if w = 2 then σ 7 else if w = 3 then σ 1 else if w = 4 then σ 3 else if w = 5 then σ 4 else if w = 6 then σ 5 else if w = 7 then bwS σ 8 else if w = 8 then cbS σ (nof σ) 8 else if w = 9 then ssS σ (nof σ) + 10000 else if w = 10 then nI pl else if w = 11 then nI hn else -2
def stlS (σ : Sg) (r : Nat) : Int32 := ((if dueS σ r - σ (16 + 11 * r + 5) < 0 then -(dueS σ r - σ (16 + 11 * r + 5)) else dueS σ r - σ (16 + 11 * r + 5)) + 60 / σ (16 + 11 * r + 1) - 1) / (60 / σ (16 + 11 * r + 1))
def settS (σ : Sg) (a : Int32) : Int32 := if rkS σ a (nof σ) < nof σ then stlS σ (rkS σ a (nof σ)) else -1
def fstB (P : Nat → Bool) : Nat → Nat
  | 0 => 0
  | j + 1 => if fstB P j < j then fstB P j else if P j = true then j else j + 1
theorem fst_none {P : Nat → Bool} : ∀ j, (∀ r, r < j → P r = false) → fstB P j = j := by
  intro j
  induction j with
  | zero => exact fun _ => rfl
  | succ j ih =>
    intro h
    have h1 := ih (fun r hr => h r (by omega))
    unfold fstB
    rw [h1, if_neg (Nat.lt_irrefl _), if_neg (by rw [h j (by omega)]; decide)]
theorem fst_some {P : Nat → Bool} {p : Nat} (h0 : ∀ r, r < p → P r = false) (h1 : P p = true) : ∀ n, p < n → fstB P n = p := by
  intro n
  induction n with
  | zero => exact fun h => absurd h (by omega)
  | succ n ih =>
    intro h
    unfold fstB
    by_cases hp : p < n
    · rw [ih hp, if_pos hp]
    · have e : p = n := by omega
      subst e
      rw [fst_none p h0, if_neg (Nat.lt_irrefl _), if_pos h1]
def rchP (n h : Nat) (σ : Sg) (r : Nat) (b : Int32) (m : Nat) : Bool := decide ((itS n h σ m).1 (16 + 11 * r + 3) / 100 = b)
def mtP (n h : Nat) (σ : Sg) (r r2 : Nat) (m : Nat) : Bool := decide ((itS n h σ m).1 (16 + 11 * r + 3) / 100 = (itS n h σ m).1 (16 + 11 * r2 + 3) / 100)
def untS (P : Nat → Bool) : Int32 := if fstB P 1001 ≤ 1000 then nI (fstB P 1001) else -6
def reachS (σ : Sg) (a b : Int32) : Int32 := if rkS σ a (nof σ) < nof σ ∧ (0 ≤ b ∧ b ≤ 7) then untS (rchP (nof σ) (hof σ) σ (rkS σ a (nof σ)) b) else -1
def meetS (σ : Sg) (a b : Int32) : Int32 := if rkS σ a (nof σ) < nof σ ∧ rkS σ b (nof σ) < nof σ then (if a = b then -2 else untS (mtP (nof σ) (hof σ) σ (rkS σ a (nof σ)) (rkS σ b (nof σ)))) else -1
def stpP (c t : Int32) (s : Nat) : Bool := decide (¬ byC c (nI s) < t)
def stepS (σ : Sg) (a t : Int32) : Int32 := if rkS σ a (nof σ) < nof σ then (if 0 ≤ t ∧ t ≤ 280 then nI (fstB (stpP (σ (16 + 11 * rkS σ a (nof σ) + 2)) t) 28) else -2) else -1
def svU (sv : Nat → Int32) (q : Nat) : Nat → Int32 := fun i => if i = q then 1 else sv i
def slU (sl : Nat → Sg) (q : Nat) (σ : Sg) : Nat → Sg := fun i => if i = q then σ else sl i
theorem unt_at {P : Nat → Bool} {j : Nat} (h0 : ∀ i, i < j → P i = false) (h1 : P j = true) (hj : j ≤ 1000) : untS P = nI j := by
  unfold untS
  rw [fst_some h0 h1 1001 (by omega), if_pos hj]
theorem unt_no {P : Nat → Bool} (h0 : ∀ i, i < 1001 → P i = false) : untS P = -6 := by
  unfold untS
  rw [fst_none 1001 h0, if_neg (by omega)]
theorem told_eq {n h : Nat} {I : Ii} {pm : Pm} {k : Nat} {σ : Sg} (R : Rp n h I pm k σ) (V : Iv n h σ) {r : Nat} (hr : r < n) (w : Int32) : toldL I (8 * k + pm k r) w = tldS σ r w := by
  have L := V.2.2.2.2.1 r hr
  have e : ∀ f, f < 11 → I 7 (8 * k + pm k r) (fmS f) = σ (16 + 11 * r + f) := fun f hf => R.lc hr hf
  have e1 : I 7 (8 * k + pm k r) 1 = σ (16 + 11 * r + 1) := e 1 (by decide)
  have e2 : I 7 (8 * k + pm k r) 2 = σ (16 + 11 * r + 2) := e 2 (by decide)
  have e3 : I 7 (8 * k + pm k r) 3 = σ (16 + 11 * r + 3) := e 3 (by decide)
  have e4 : I 7 (8 * k + pm k r) 4 = σ (16 + 11 * r + 4) := e 4 (by decide)
  have e5 : I 7 (8 * k + pm k r) 5 = σ (16 + 11 * r + 5) := e 5 (by decide)
  have e6 : I 7 (8 * k + pm k r) 7 = σ (16 + 11 * r + 6) := e 6 (by decide)
  have e7 : I 7 (8 * k + pm k r) 8 = σ (16 + 11 * r + 7) := e 7 (by decide)
  have e8 : I 7 (8 * k + pm k r) 9 = σ (16 + 11 * r + 8) := e 8 (by decide)
  have e9 : I 7 (8 * k + pm k r) 10 = σ (16 + 11 * r + 9) := e 9 (by decide)
  have e10 : I 7 (8 * k + pm k r) 6 = σ (16 + 11 * r + 10) := e 10 (by decide)
  have eg : lcGoal I (8 * k + pm k r) = dueS σ r := by
    unfold lcGoal dueS
    rw [e2, e6, e7, goal_eq L.2.1.1 L.2.1.2]
  unfold toldL tldS
  rw [e1, e2, e3, e4, e5, e6, e7, e8, e9, e10, eg]
theorem ttg_eq {n h : Nat} {I : Ii} {pm : Pm} {k : Nat} {σ : Sg} (R : Rp n h I pm k σ) (V : Iv n h σ) {r : Nat} (hr : r < n) : lcTtg I (8 * k + pm k r) = stlS σ r := by
  have L := V.2.2.2.2.1 r hr
  have e : ∀ f, f < 11 → I 7 (8 * k + pm k r) (fmS f) = σ (16 + 11 * r + f) := fun f hf => R.lc hr hf
  have e1 : I 7 (8 * k + pm k r) 1 = σ (16 + 11 * r + 1) := e 1 (by decide)
  have e2 : I 7 (8 * k + pm k r) 2 = σ (16 + 11 * r + 2) := e 2 (by decide)
  have e5 : I 7 (8 * k + pm k r) 5 = σ (16 + 11 * r + 5) := e 5 (by decide)
  have e6 : I 7 (8 * k + pm k r) 7 = σ (16 + 11 * r + 6) := e 6 (by decide)
  have e7 : I 7 (8 * k + pm k r) 8 = σ (16 + 11 * r + 7) := e 7 (by decide)
  have eg : lcGoal I (8 * k + pm k r) = dueS σ r := by
    unfold lcGoal dueS
    rw [e2, e6, e7, goal_eq L.2.1.1 L.2.1.2]
  have e0 : (0 : Int32).toInt = 0 := rfl
  have hg := gain_bd L.1.1 L.1.2
  have hgn : gainF (σ (16 + 11 * r + 1)) = 60 / σ (16 + 11 * r + 1) := by
    unfold gainF
    rw [if_neg (fun q => by have := i_le.mp q; have := L.1; omega)]
  unfold lcTtg stlS
  rw [e1, e5, eg, hgn, if_neg (fun q => by have := i_le.mp q; omega)]
  unfold abF
  by_cases c : dueS σ r - σ (16 + 11 * r + 5) < 0
  · rw [if_neg (Int32.not_le.mpr c), if_pos c, Int32.zero_sub]
  · rw [if_pos (Int32.not_lt.mp c), if_neg c]
theorem CR.fr1 {I I' : Ii} {pm pm' : Pm} {σ : Sg} {hn : Nat} {hist : Nat → Sg} {sv : Nat → Int32} {sl : Nat → Sg} {pl : Nat} {pad : Sg} (C : CR I pm σ hn hist sv sl pl pad) (F : Fr 1 I pm I' pm') (hw : Pw pm' 1) : CR I' pm' σ hn hist sv sl pl pad := by
  obtain ⟨R0, ⟨a, ha, ea, hh⟩, en, h6, CC⟩ := C
  have o : ∀ K i c, 7 < K → I' K i c = I K i c := fun K i c h => F.1 K i c (fun q => by have := inL_le q; omega)
  exact ⟨R0.keep F (by decide), ⟨a, ha, by rw [o _ _ _ (by decide)]; exact ea, fun i hi => (hh i hi).keep F (by omega)⟩, by rw [o _ _ _ (by decide)]; exact en, h6, CC.keep F (by decide) hw⟩
theorem cvs_by {c st : Int32} {n h r : Nat} {σ : Sg} (V : Iv n h σ) (hr : r < n) (hc : c = σ (16 + 11 * r + 2)) : cvS c st = byC c st := by
  have L := V.2.2.2.2.1 r hr
  rw [hc]
  exact cvS_eq L.2.1.1 L.2.1.2
set_option maxHeartbeats 4000000 in
set_option maxRecDepth 100000 in
theorem c_X5_of {l : Launch} {G : Gm} (hj : Aj G) {I : Ii} {pm : Pm} {a w : Int32} {σ : Sg} {hn : Nat} {hist : Nat → Sg} {sv : Nat → Int32} {sl : Nat → Sg} {pl : Nat} {pad : Sg} (C : CR I pm σ hn hist sv sl pl pad) : CI l G yX5_of (wz yX5_of cX5_of 4 (some .int)) (rmL 3) [.ref (G.2.2 8 0), .int a, .int w] I pm (fun r u => r = ofS σ a w ∧ u = (I, pm)) := by
  obtain ⟨n, h, R, V⟩ := id C.1
  have hn8 := V.2.1
  have hne := V.nofe
  have hhe := V.hofe
  refine CI.walk hj (by decide +kernel) (by show _ ≤ 4; exact Nat.le_of_ble_eq_true rfl) ?_
  intro p e s m args below meth c F hr hlk
  refine g_aload_n F 0 dX5_of_0 rfl rfl ?_
  refine gf_8_0 F (by decide) mFL_X5_12 dX5_of_1 ?_
  refine g_iload_n F 1 dX5_of_4 rfl rfl ?_
  refine g_callQv (na := 1) F 0 _ (c_X1_locoWith hj (by decide) R) (by decide) rfl rfl lk_X5_79 rfl rfl (by decide +kernel) ⟨rfl, rfl, Nat.le_of_ble_eq_true rfl, Nat.le_of_ble_eq_true rfl, Nat.le_of_ble_eq_true rfl, Nat.le_of_ble_eq_true rfl, Nat.le_of_ble_eq_true rfl⟩ dX5_of_5 (fun r_5 u_5 h_5 => ?_)
  obtain ⟨hr_5, hu_5⟩ := h_5
  subst hu_5
  try dsimp only
  by_cases hlt_5 : ¬ rkS σ a n < n
  · obtain rfl : r_5 = none := hr_5.trans (if_neg hlt_5)
    try dsimp only [va_rf]
    refine g_astore_nN (L' := [(3, _), (0, _), (1, _), (2, _)]) F dX5_of_8 rfl (by decide) rfl ?_
    refine g_aload_nN F 0 dX5_of_9 rfl rfl ?_
    refine g_ifnonnullN F dX5_of_10 ?_
    refine g_iconst (v := -1) F dX5_of_13 (by decide) ?_
    refine g_goto F 22 dX5_of_14 (by decide) ?_
    refine g_iret F hr hlk rfl dX5_of_22 ?_
    exact ⟨by unfold ofS; rw [hne, if_neg hlt_5], rfl⟩
  · have hlr_5 := Decidable.not_not.mp hlt_5
    obtain rfl : r_5 = some (G.2.2 7 (8 * 0 + pm 0 (rkS σ a n))) := hr_5.trans (if_pos hlr_5)
    try dsimp only [va_rf]
    have hi7_5 : 8 * 0 + pm 0 (rkS σ a n) < 88 := inL7 (by decide) (R.p8 (by omega))
    refine g_astore_n (L' := [(3, _), (0, _), (1, _), (2, _)]) F dX5_of_8 rfl (by decide) rfl ?_
    refine g_aload_n F 0 dX5_of_9 rfl rfl ?_
    refine g_ifnonnull F 17 dX5_of_10 (by decide) ?_
    refine g_aload_n F 0 dX5_of_17 rfl rfl ?_
    refine g_iload_n F 3 dX5_of_18 rfl rfl ?_
    refine g_callIv (na := 1) F 7 _ (c_X2_told hj hi7_5) hi7_5 rfl rfl lk_X5_83 rfl rfl (by decide +kernel) ⟨rfl, rfl, Nat.le_of_ble_eq_true rfl, Nat.le_of_ble_eq_true rfl, Nat.le_of_ble_eq_true rfl, Nat.le_of_ble_eq_true rfl, Nat.le_of_ble_eq_true rfl⟩ dX5_of_19 (fun r_19 u_19 h_19 => ?_)
    obtain ⟨rfl, rfl⟩ := h_19
    try dsimp only
    refine g_iret F hr hlk rfl dX5_of_22 ?_
    exact ⟨by unfold ofS; rw [hne, if_pos hlr_5]; exact told_eq R V hlr_5 w, rfl⟩
set_option maxHeartbeats 4000000 in
set_option maxRecDepth 100000 in
theorem c_X5_settles {l : Launch} {G : Gm} (hj : Aj G) {I : Ii} {pm : Pm} {a : Int32} {σ : Sg} {hn : Nat} {hist : Nat → Sg} {sv : Nat → Int32} {sl : Nat → Sg} {pl : Nat} {pad : Sg} (C : CR I pm σ hn hist sv sl pl pad) : CI l G yX5_settles (wz yX5_settles cX5_settles 3 (some .int)) (rmL 3) [.ref (G.2.2 8 0), .int a] I pm (fun r u => r = settS σ a ∧ u = (I, pm)) := by
  obtain ⟨n, h, R, V⟩ := id C.1
  have hn8 := V.2.1
  have hne := V.nofe
  have hhe := V.hofe
  refine CI.walk hj (by decide +kernel) (by show _ ≤ 3; exact Nat.le_of_ble_eq_true rfl) ?_
  intro p e s m args below meth c F hr hlk
  refine g_aload_n F 0 dX5_settles_0 rfl rfl ?_
  refine gf_8_0 F (by decide) mFL_X5_12 dX5_settles_1 ?_
  refine g_iload_n F 1 dX5_settles_4 rfl rfl ?_
  refine g_callQv (na := 1) F 0 _ (c_X1_locoWith hj (by decide) R) (by decide) rfl rfl lk_X5_79 rfl rfl (by decide +kernel) ⟨rfl, rfl, Nat.le_of_ble_eq_true rfl, Nat.le_of_ble_eq_true rfl, Nat.le_of_ble_eq_true rfl, Nat.le_of_ble_eq_true rfl, Nat.le_of_ble_eq_true rfl⟩ dX5_settles_5 (fun r_5 u_5 h_5 => ?_)
  obtain ⟨hr_5, hu_5⟩ := h_5
  subst hu_5
  try dsimp only
  by_cases hlt_5 : ¬ rkS σ a n < n
  · obtain rfl : r_5 = none := hr_5.trans (if_neg hlt_5)
    try dsimp only [va_rf]
    refine g_astore_nN (L' := [(2, _), (0, _), (1, _)]) F dX5_settles_8 rfl (by decide) rfl ?_
    refine g_aload_nN F 0 dX5_settles_9 rfl rfl ?_
    refine g_ifnonnullN F dX5_settles_10 ?_
    refine g_iconst (v := -1) F dX5_settles_13 (by decide) ?_
    refine g_goto F 21 dX5_settles_14 (by decide) ?_
    refine g_iret F hr hlk rfl dX5_settles_21 ?_
    exact ⟨by unfold settS; rw [hne, if_neg hlt_5], rfl⟩
  · have hlr_5 := Decidable.not_not.mp hlt_5
    obtain rfl : r_5 = some (G.2.2 7 (8 * 0 + pm 0 (rkS σ a n))) := hr_5.trans (if_pos hlr_5)
    try dsimp only [va_rf]
    have hi7_5 : 8 * 0 + pm 0 (rkS σ a n) < 88 := inL7 (by decide) (R.p8 (by omega))
    refine g_astore_n (L' := [(2, _), (0, _), (1, _)]) F dX5_settles_8 rfl (by decide) rfl ?_
    refine g_aload_n F 0 dX5_settles_9 rfl rfl ?_
    refine g_ifnonnull F 17 dX5_settles_10 (by decide) ?_
    refine g_aload_n F 0 dX5_settles_17 rfl rfl ?_
    refine g_callIv (na := 0) F 7 _ (c_X2_ticksToGoal hj hi7_5) hi7_5 rfl rfl lk_X5_152 rfl rfl (by decide +kernel) ⟨rfl, rfl, Nat.le_of_ble_eq_true rfl, Nat.le_of_ble_eq_true rfl, Nat.le_of_ble_eq_true rfl, Nat.le_of_ble_eq_true rfl, Nat.le_of_ble_eq_true rfl⟩ dX5_settles_18 (fun r_18 u_18 h_18 => ?_)
    obtain ⟨rfl, rfl⟩ := h_18
    try dsimp only
    refine g_iret F hr hlk rfl dX5_settles_21 ?_
    exact ⟨by unfold settS; rw [hne, if_pos hlr_5]; exact ttg_eq R V hlr_5, rfl⟩
set_option maxHeartbeats 4000000 in
set_option maxRecDepth 100000 in
theorem c_X5_address {l : Launch} {G : Gm} (hj : Aj G) {I : Ii} {pm : Pm} {x : Int32} {σ : Sg} {hn : Nat} {hist : Nat → Sg} {sv : Nat → Int32} {sl : Nat → Sg} {pl : Nat} {pad : Sg} (C : CR I pm σ hn hist sv sl pl pad) : CI l G yX5_address (wz yX5_address cX5_address 3 (some .int)) (rmL 2) [.ref (G.2.2 8 0), .int x] I pm (fun r u => r = adrS σ x ∧ u = (I, pm)) := by
  obtain ⟨n, h, R, V⟩ := id C.1
  have hn8 := V.2.1
  have hne := V.nofe
  have hhe := V.hofe
  refine CI.walk hj (by decide +kernel) (by show _ ≤ 3; exact Nat.le_of_ble_eq_true rfl) ?_
  intro p e s m args below meth c F hr hlk
  refine g_aload_n F 0 dX5_address_0 rfl rfl ?_
  refine gf_8_0 F (by decide) mFL_X5_12 dX5_address_1 ?_
  refine g_iload_n F 1 dX5_address_4 rfl rfl ?_
  refine g_callQv (na := 1) F 0 _ (c_X1_locoAt hj (by decide) R) (by decide) rfl rfl lk_X5_88 rfl rfl (by decide +kernel) ⟨rfl, rfl, Nat.le_of_ble_eq_true rfl, Nat.le_of_ble_eq_true rfl, Nat.le_of_ble_eq_true rfl, Nat.le_of_ble_eq_true rfl, Nat.le_of_ble_eq_true rfl⟩ dX5_address_5 (fun r_5 u_5 h_5 => ?_)
  rcases h_5 with ⟨hq, rfl, rfl⟩ | ⟨hq, rfl, rfl⟩
  · try dsimp only [va_rf]
    refine g_astore_nN (L' := [(2, _), (0, _), (1, _)]) F dX5_address_8 rfl (by decide) rfl ?_
    refine g_aload_nN F 0 dX5_address_9 rfl rfl ?_
    refine g_ifnonnullN F dX5_address_10 ?_
    refine g_iconst (v := -1) F dX5_address_13 (by decide) ?_
    refine g_goto F 21 dX5_address_14 (by decide) ?_
    refine g_iret F hr hlk rfl dX5_address_21 ?_
    exact ⟨by unfold adrS; rw [hne, if_neg hq], rfl⟩
  · try dsimp only [va_rf]
    obtain ⟨q, hqn, eq⟩ := (lq_n hn8).mp hq
    have hxq : x.toInt.toNat = q := by rw [eq, nI_toInt (by omega)]; rfl
    have hi7 : 8 * 0 + pm 0 x.toInt.toNat < 88 := inL7 (by decide) (R.p8 (by omega))
    refine g_astore_n (L' := [(2, _), (0, _), (1, _)]) F dX5_address_8 rfl (by decide) rfl ?_
    refine g_aload_n F 0 dX5_address_9 rfl rfl ?_
    refine g_ifnonnull F 17 dX5_address_10 (by decide) ?_
    refine g_aload_n F 0 dX5_address_17 rfl rfl ?_
    refine gf_7_0 F hi7 mFL_X5_91 dX5_address_18 ?_
    refine g_iret F hr hlk rfl dX5_address_21 ?_
    exact ⟨by unfold adrS; rw [hne, if_pos hq]; exact R.lc (f := 0) (by omega) (by decide), rfl⟩
set_option maxHeartbeats 4000000 in
set_option maxRecDepth 100000 in
theorem c_X5_waiting {l : Launch} {G : Gm} (hj : Aj G) {I : Ii} {pm : Pm} {x w : Int32} {σ : Sg} {hn : Nat} {hist : Nat → Sg} {sv : Nat → Int32} {sl : Nat → Sg} {pl : Nat} {pad : Sg} (C : CR I pm σ hn hist sv sl pl pad) : CI l G yX5_waiting (wz yX5_waiting cX5_waiting 3 (some .int)) (rmL 2) [.ref (G.2.2 8 0), .int x, .int w] I pm (fun r u => r = waitS (hof σ) σ x w ∧ u = (I, pm)) := by
  obtain ⟨n, h, R, V⟩ := id C.1
  have hn8 := V.2.1
  have hne := V.nofe
  have hhe := V.hofe
  refine CI.walk hj (by decide +kernel) (by show _ ≤ 3; exact Nat.le_of_ble_eq_true rfl) ?_
  intro p e s m args below meth c F hr hlk
  refine g_aload_n F 0 dX5_waiting_0 rfl rfl ?_
  refine gf_8_0 F (by decide) mFL_X5_12 dX5_waiting_1 ?_
  refine gf_0_1 F (by decide) mFL_X5_59 dX5_waiting_4 ?_
  refine g_iload_n F 1 dX5_waiting_7 rfl rfl ?_
  refine g_iload_n F 2 dX5_waiting_8 rfl rfl ?_
  refine g_callIv (na := 2) F 2 _ (c_X4_told hj (by decide) R) (by decide) rfl rfl lk_X5_95 rfl rfl (by decide +kernel) ⟨rfl, rfl, Nat.le_of_ble_eq_true rfl, Nat.le_of_ble_eq_true rfl, Nat.le_of_ble_eq_true rfl, Nat.le_of_ble_eq_true rfl, Nat.le_of_ble_eq_true rfl⟩ dX5_waiting_9 (fun r_9 u_9 h_9 => ?_)
  obtain ⟨rfl, rfl⟩ := h_9
  try dsimp only
  refine g_iret F hr hlk rfl dX5_waiting_12 ?_
  exact ⟨by rw [hhe], rfl⟩
set_option maxHeartbeats 4000000 in
set_option maxRecDepth 100000 in
theorem c_X5_block {l : Launch} {G : Gm} (hj : Aj G) {I : Ii} {pm : Pm} {b w : Int32} {σ : Sg} {hn : Nat} {hist : Nat → Sg} {sv : Nat → Int32} {sl : Nat → Sg} {pl : Nat} {pad : Sg} (C : CR I pm σ hn hist sv sl pl pad) : CI l G yX5_block (wz yX5_block cX5_block 3 (some .int)) (rmL 2) [.ref (G.2.2 8 0), .int b, .int w] I pm (fun r u => r = blockS σ b w ∧ u = (I, pm)) := by
  obtain ⟨n, h, R, V⟩ := id C.1
  have hn8 := V.2.1
  have hne := V.nofe
  have hhe := V.hofe
  refine CI.walk hj (by decide +kernel) (by show _ ≤ 3; exact Nat.le_of_ble_eq_true rfl) ?_
  intro p e s m args below meth c F hr hlk
  refine g_iload_n F 1 dX5_block_0 rfl rfl ?_
  refine g_callIs (na := 1) F (c_X5_isBlock hj) lk_X5_97 rfl rfl (by decide +kernel) ⟨rfl, rfl, Nat.le_of_ble_eq_true rfl, Nat.le_of_ble_eq_true rfl, Nat.le_of_ble_eq_true rfl, Nat.le_of_ble_eq_true rfl, Nat.le_of_ble_eq_true rfl⟩ dX5_block_1 (fun r_1 u_1 h_1 => ?_)
  obtain ⟨rfl, rfl⟩ := h_1
  try dsimp only
  refine g_if_ne F 9 dX5_block_4 (by decide) (fun c_4 => ?_) (fun c_4 => ?_)
  · have P1 := bz_n.mp c_4
    have ex := rng (M := 7) (m := 7) rfl P1.1 P1.2
    refine g_iload_n F 2 dX5_block_9 rfl rfl ?_
    by_cases hs_10_0 : w = 0
    · refine g_lookup F 36 dX5_block_10 (by decide) (by rw [hs_10_0] <;> rfl) (by decide) ?_
      refine g_aload_n F 0 dX5_block_36 rfl rfl ?_
      refine gf_8_0 F (by decide) mFL_X5_12 dX5_block_37 ?_
      refine gf_0_2 F (by decide) mFL_X5_101 dX5_block_40 ?_
      refine g_iload_n F 1 dX5_block_43 rfl rfl ?_
      refine ga_6 (j := b.toInt.toNat) F (by decide) ex.2 (by omega) dX5_block_44 ?_
      refine g_iret F hr hlk rfl dX5_block_45 ?_
      exact ⟨by unfold blockS; rw [if_pos P1, if_pos hs_10_0]; exact R.sh (by omega), rfl⟩
    by_cases hs_10_1 : w = 1
    · refine g_lookup F 46 dX5_block_10 (by decide) (by rw [hs_10_1] <;> rfl) (by decide) ?_
      refine g_aload_n F 0 dX5_block_46 rfl rfl ?_
      refine gf_8_0 F (by decide) mFL_X5_12 dX5_block_47 ?_
      refine g_iload_n F 1 dX5_block_50 rfl rfl ?_
      refine g_callIv (na := 1) F 0 _ (c_X1_locosIn hj (by decide) R) (by decide) rfl rfl lk_X5_105 rfl rfl (by decide +kernel) ⟨rfl, rfl, Nat.le_of_ble_eq_true rfl, Nat.le_of_ble_eq_true rfl, Nat.le_of_ble_eq_true rfl, Nat.le_of_ble_eq_true rfl, Nat.le_of_ble_eq_true rfl⟩ dX5_block_51 (fun r_51 u_51 h_51 => ?_)
      obtain ⟨rfl, rfl⟩ := h_51
      try dsimp only
      refine g_iret F hr hlk rfl dX5_block_54 ?_
      exact ⟨by unfold blockS; rw [if_pos P1, if_neg hs_10_0, if_pos hs_10_1, hne], rfl⟩
    refine g_lookup (off := 45) F 55 dX5_block_10 (by decide) ((lv_osw hs_10_0 rfl).trans <| (lv_osw hs_10_1 rfl).trans <| rfl) (by decide) ?_
    refine g_bipush (v := -2) F dX5_block_55 (by decide) ?_
    refine g_iret F hr hlk rfl dX5_block_57 ?_
    exact ⟨by unfold blockS; rw [if_pos P1, if_neg hs_10_0, if_neg hs_10_1], rfl⟩
  · have N1 := bz_0.mp c_4
    refine g_iconst (v := -1) F dX5_block_7 (by decide) ?_
    refine g_iret F hr hlk rfl dX5_block_8 ?_
    exact ⟨by unfold blockS; rw [if_neg N1], rfl⟩
set_option maxHeartbeats 4000000 in
set_option maxRecDepth 100000 in
theorem c_X5_count {l : Launch} {G : Gm} (hj : Aj G) {I : Ii} {pm : Pm} {w : Int32} {σ : Sg} {hn : Nat} {hist : Nat → Sg} {sv : Nat → Int32} {sl : Nat → Sg} {pl : Nat} {pad : Sg} (C : CR I pm σ hn hist sv sl pl pad) : CI l G yX5_count (wz yX5_count cX5_count 2 (some .int)) (rmL 3) [.ref (G.2.2 8 0), .int w] I pm (fun r u => r = cntS σ hn pl w ∧ u = (I, pm)) := by
  obtain ⟨n, h, R, V⟩ := id C.1
  have hn8 := V.2.1
  have hne := V.nofe
  have hhe := V.hofe
  refine CI.walk hj (by decide +kernel) (by show _ ≤ 2; exact Nat.le_of_ble_eq_true rfl) ?_
  intro p e s m args below meth c F hr hlk
  refine g_iload_n F 1 dX5_count_0 rfl rfl ?_
  by_cases hs_1 : 0 ≤ w.toInt ∧ w.toInt ≤ 11
  · obtain ⟨js_1, hj_1, ej_1⟩ := sw_in hs_1.1 hs_1.2 (by decide)
    rcases (show js_1 = 0 ∨ js_1 = 1 ∨ js_1 = 2 ∨ js_1 = 3 ∨ js_1 = 4 ∨ js_1 = 5 ∨ js_1 = 6 ∨ js_1 = 7 ∨ js_1 = 8 ∨ js_1 = 9 ∨ js_1 = 10 ∨ js_1 = 11 by omega) with hq | hq | hq | hq | hq | hq | hq | hq | hq | hq | hq | hq
    · have hs_1_0 : w = 0 := by rw [ej_1, hq] <;> rfl
      refine g_tableIn (off := 63) F 64 dX5_count_1 (by rw [hs_1_0]; decide) (by rw [hs_1_0]; decide) (by rw [hs_1_0]; rfl) (by decide) ?_
      refine g_aload_n F 0 dX5_count_64 rfl rfl ?_
      refine gf_8_0 F (by decide) mFL_X5_12 dX5_count_65 ?_
      refine gf_0_4 F (by decide) mFL_X5_108 dX5_count_68 ?_
      refine g_iret F hr hlk rfl dX5_count_71 ?_
      refine ⟨?_, rfl⟩
      subst hs_1_0
      unfold cntS
      rw [if_pos rfl]
      first
      | done
      | exact R.1.2.1
    · have hs_1_1 : w = 1 := by rw [ej_1, hq] <;> rfl
      refine g_tableIn (off := 71) F 72 dX5_count_1 (by rw [hs_1_1]; decide) (by rw [hs_1_1]; decide) (by rw [hs_1_1]; rfl) (by decide) ?_
      refine g_aload_n F 0 dX5_count_72 rfl rfl ?_
      refine gf_8_0 F (by decide) mFL_X5_12 dX5_count_73 ?_
      refine gf_0_3 F (by decide) mFL_X5_111 dX5_count_76 ?_
      refine g_iret F hr hlk rfl dX5_count_79 ?_
      refine ⟨?_, rfl⟩
      subst hs_1_1
      unfold cntS
      rw [if_neg (by decide)]
      rw [if_pos rfl]
      first
      | done
      | exact R.1.1
    · have hs_1_2 : w = 2 := by rw [ej_1, hq] <;> rfl
      refine g_tableIn (off := 79) F 80 dX5_count_1 (by rw [hs_1_2]; decide) (by rw [hs_1_2]; decide) (by rw [hs_1_2]; rfl) (by decide) ?_
      refine g_aload_n F 0 dX5_count_80 rfl rfl ?_
      refine gf_8_0 F (by decide) mFL_X5_12 dX5_count_81 ?_
      refine gf_0_1 F (by decide) mFL_X5_59 dX5_count_84 ?_
      refine gf_2_3 F (by decide) mFL_X5_114 dX5_count_87 ?_
      refine g_iret F hr hlk rfl dX5_count_90 ?_
      refine ⟨?_, rfl⟩
      subst hs_1_2
      unfold cntS
      rw [if_neg (by decide)]
      rw [if_neg (by decide)]
      rw [if_pos rfl]
      first
      | done
      | exact R.1.2.2.2.2.2.2.2
    · have hs_1_3 : w = 3 := by rw [ej_1, hq] <;> rfl
      refine g_tableIn (off := 90) F 91 dX5_count_1 (by rw [hs_1_3]; decide) (by rw [hs_1_3]; decide) (by rw [hs_1_3]; rfl) (by decide) ?_
      refine g_aload_n F 0 dX5_count_91 rfl rfl ?_
      refine gf_8_0 F (by decide) mFL_X5_12 dX5_count_92 ?_
      refine gf_0_5 F (by decide) mFL_X5_117 dX5_count_95 ?_
      refine g_iret F hr hlk rfl dX5_count_98 ?_
      refine ⟨?_, rfl⟩
      subst hs_1_3
      unfold cntS
      rw [if_neg (by decide)]
      rw [if_neg (by decide)]
      rw [if_neg (by decide)]
      rw [if_pos rfl]
      first
      | done
      | exact R.1.2.2.1
    · have hs_1_4 : w = 4 := by rw [ej_1, hq] <;> rfl
      refine g_tableIn (off := 98) F 99 dX5_count_1 (by rw [hs_1_4]; decide) (by rw [hs_1_4]; decide) (by rw [hs_1_4]; rfl) (by decide) ?_
      refine g_aload_n F 0 dX5_count_99 rfl rfl ?_
      refine gf_8_0 F (by decide) mFL_X5_12 dX5_count_100 ?_
      refine gf_0_7 F (by decide) mFL_X5_120 dX5_count_103 ?_
      refine g_iret F hr hlk rfl dX5_count_106 ?_
      refine ⟨?_, rfl⟩
      subst hs_1_4
      unfold cntS
      rw [if_neg (by decide)]
      rw [if_neg (by decide)]
      rw [if_neg (by decide)]
      rw [if_neg (by decide)]
      rw [if_pos rfl]
      first
      | done
      | exact R.1.2.2.2.2.1
    · have hs_1_5 : w = 5 := by rw [ej_1, hq] <;> rfl
      refine g_tableIn (off := 106) F 107 dX5_count_1 (by rw [hs_1_5]; decide) (by rw [hs_1_5]; decide) (by rw [hs_1_5]; rfl) (by decide) ?_
      refine g_aload_n F 0 dX5_count_107 rfl rfl ?_
      refine gf_8_0 F (by decide) mFL_X5_12 dX5_count_108 ?_
      refine gf_0_8 F (by decide) mFL_X5_123 dX5_count_111 ?_
      refine g_iret F hr hlk rfl dX5_count_114 ?_
      refine ⟨?_, rfl⟩
      subst hs_1_5
      unfold cntS
      rw [if_neg (by decide)]
      rw [if_neg (by decide)]
      rw [if_neg (by decide)]
      rw [if_neg (by decide)]
      rw [if_neg (by decide)]
      rw [if_pos rfl]
      first
      | done
      | exact R.1.2.2.2.2.2.1
    · have hs_1_6 : w = 6 := by rw [ej_1, hq] <;> rfl
      refine g_tableIn (off := 114) F 115 dX5_count_1 (by rw [hs_1_6]; decide) (by rw [hs_1_6]; decide) (by rw [hs_1_6]; rfl) (by decide) ?_
      refine g_aload_n F 0 dX5_count_115 rfl rfl ?_
      refine gf_8_0 F (by decide) mFL_X5_12 dX5_count_116 ?_
      refine gf_0_9 F (by decide) mFL_X5_126 dX5_count_119 ?_
      refine g_iret F hr hlk rfl dX5_count_122 ?_
      refine ⟨?_, rfl⟩
      subst hs_1_6
      unfold cntS
      rw [if_neg (by decide)]
      rw [if_neg (by decide)]
      rw [if_neg (by decide)]
      rw [if_neg (by decide)]
      rw [if_neg (by decide)]
      rw [if_neg (by decide)]
      rw [if_pos rfl]
      first
      | done
      | exact R.1.2.2.2.2.2.2.1
    · have hs_1_7 : w = 7 := by rw [ej_1, hq] <;> rfl
      refine g_tableIn (off := 122) F 123 dX5_count_1 (by rw [hs_1_7]; decide) (by rw [hs_1_7]; decide) (by rw [hs_1_7]; rfl) (by decide) ?_
      refine g_aload_n F 0 dX5_count_123 rfl rfl ?_
      refine gf_8_0 F (by decide) mFL_X5_12 dX5_count_124 ?_
      refine g_callIv (na := 0) F 0 _ (c_X1_blocksWithShort hj (by decide) R) (by decide) rfl rfl lk_X5_129 rfl rfl (by decide +kernel) ⟨rfl, rfl, Nat.le_of_ble_eq_true rfl, Nat.le_of_ble_eq_true rfl, Nat.le_of_ble_eq_true rfl, Nat.le_of_ble_eq_true rfl, Nat.le_of_ble_eq_true rfl⟩ dX5_count_127 (fun r_127 u_127 h_127 => ?_)
      obtain ⟨rfl, rfl⟩ := h_127
      try dsimp only
      refine g_iret F hr hlk rfl dX5_count_130 ?_
      refine ⟨?_, rfl⟩
      subst hs_1_7
      unfold cntS
      rw [if_neg (by decide)]
      rw [if_neg (by decide)]
      rw [if_neg (by decide)]
      rw [if_neg (by decide)]
      rw [if_neg (by decide)]
      rw [if_neg (by decide)]
      rw [if_neg (by decide)]
      rw [if_pos rfl]
      first
      | done
      | exact rfl
    · have hs_1_8 : w = 8 := by rw [ej_1, hq] <;> rfl
      refine g_tableIn (off := 130) F 131 dX5_count_1 (by rw [hs_1_8]; decide) (by rw [hs_1_8]; decide) (by rw [hs_1_8]; rfl) (by decide) ?_
      refine g_aload_n F 0 dX5_count_131 rfl rfl ?_
      refine gf_8_0 F (by decide) mFL_X5_12 dX5_count_132 ?_
      refine g_callIv (na := 0) F 0 _ (c_X1_crowdedBlocks hj (by decide) R) (by decide) rfl rfl lk_X5_133 rfl rfl (by decide +kernel) ⟨rfl, rfl, Nat.le_of_ble_eq_true rfl, Nat.le_of_ble_eq_true rfl, Nat.le_of_ble_eq_true rfl, Nat.le_of_ble_eq_true rfl, Nat.le_of_ble_eq_true rfl⟩ dX5_count_135 (fun r_135 u_135 h_135 => ?_)
      obtain ⟨rfl, rfl⟩ := h_135
      try dsimp only
      refine g_iret F hr hlk rfl dX5_count_138 ?_
      refine ⟨?_, rfl⟩
      subst hs_1_8
      unfold cntS
      rw [if_neg (by decide)]
      rw [if_neg (by decide)]
      rw [if_neg (by decide)]
      rw [if_neg (by decide)]
      rw [if_neg (by decide)]
      rw [if_neg (by decide)]
      rw [if_neg (by decide)]
      rw [if_neg (by decide)]
      rw [if_pos rfl]
      first
      | done
      | exact (by rw [hne])
    · have hs_1_9 : w = 9 := by rw [ej_1, hq] <;> rfl
      refine g_tableIn (off := 138) F 139 dX5_count_1 (by rw [hs_1_9]; decide) (by rw [hs_1_9]; decide) (by rw [hs_1_9]; rfl) (by decide) ?_
      refine g_aload_n F 0 dX5_count_139 rfl rfl ?_
      refine gf_8_0 F (by decide) mFL_X5_12 dX5_count_140 ?_
      refine g_callIv (na := 0) F 0 _ (c_X1_speedSum hj (by decide) R) (by decide) rfl rfl lk_X5_136 rfl rfl (by decide +kernel) ⟨rfl, rfl, Nat.le_of_ble_eq_true rfl, Nat.le_of_ble_eq_true rfl, Nat.le_of_ble_eq_true rfl, Nat.le_of_ble_eq_true rfl, Nat.le_of_ble_eq_true rfl⟩ dX5_count_143 (fun r_143 u_143 h_143 => ?_)
      obtain ⟨rfl, rfl⟩ := h_143
      try dsimp only
      refine g_sipush (v := 10000) F dX5_count_146 (by decide) ?_
      refine g_iadd F dX5_count_149 ?_
      refine g_iret F hr hlk rfl dX5_count_150 ?_
      refine ⟨?_, rfl⟩
      subst hs_1_9
      unfold cntS
      rw [if_neg (by decide)]
      rw [if_neg (by decide)]
      rw [if_neg (by decide)]
      rw [if_neg (by decide)]
      rw [if_neg (by decide)]
      rw [if_neg (by decide)]
      rw [if_neg (by decide)]
      rw [if_neg (by decide)]
      rw [if_neg (by decide)]
      rw [if_pos rfl]
      first
      | done
      | exact (by rw [hne])
    · have hs_1_10 : w = 10 := by rw [ej_1, hq] <;> rfl
      refine g_tableIn (off := 150) F 151 dX5_count_1 (by rw [hs_1_10]; decide) (by rw [hs_1_10]; decide) (by rw [hs_1_10]; rfl) (by decide) ?_
      refine g_aload_n F 0 dX5_count_151 rfl rfl ?_
      refine gf_8_5 F (by decide) mFL_X5_37 dX5_count_152 ?_
      refine gf_13_1 F (by decide) mFL_X5_139 dX5_count_155 ?_
      refine g_iret F hr hlk rfl dX5_count_158 ?_
      refine ⟨?_, rfl⟩
      subst hs_1_10
      unfold cntS
      rw [if_neg (by decide)]
      rw [if_neg (by decide)]
      rw [if_neg (by decide)]
      rw [if_neg (by decide)]
      rw [if_neg (by decide)]
      rw [if_neg (by decide)]
      rw [if_neg (by decide)]
      rw [if_neg (by decide)]
      rw [if_neg (by decide)]
      rw [if_neg (by decide)]
      rw [if_pos rfl]
      first
      | done
      | exact C.2.2.2.2.2.1
    · have hs_1_11 : w = 11 := by rw [ej_1, hq] <;> rfl
      refine g_tableIn (off := 158) F 159 dX5_count_1 (by rw [hs_1_11]; decide) (by rw [hs_1_11]; decide) (by rw [hs_1_11]; rfl) (by decide) ?_
      refine g_aload_n F 0 dX5_count_159 rfl rfl ?_
      refine gf_8_2 F (by decide) mFL_X5_22 dX5_count_160 ?_
      refine gf_9_2 F (by decide) mFL_X5_142 dX5_count_163 ?_
      refine g_iret F hr hlk rfl dX5_count_166 ?_
      refine ⟨?_, rfl⟩
      subst hs_1_11
      unfold cntS
      rw [if_neg (by decide)]
      rw [if_neg (by decide)]
      rw [if_neg (by decide)]
      rw [if_neg (by decide)]
      rw [if_neg (by decide)]
      rw [if_neg (by decide)]
      rw [if_neg (by decide)]
      rw [if_neg (by decide)]
      rw [if_neg (by decide)]
      rw [if_neg (by decide)]
      rw [if_neg (by decide)]
      rw [if_pos rfl]
      first
      | done
      | exact C.2.2.1
  · refine g_tableOut F 167 dX5_count_1 (by omega) (by decide) ?_
    refine g_bipush (v := -2) F dX5_count_167 (by decide) ?_
    refine g_iret F hr hlk rfl dX5_count_169 ?_
    exact ⟨by unfold cntS; rw [if_neg (fun e => hs_1 (by rw [e]; decide)), if_neg (fun e => hs_1 (by rw [e]; decide)), if_neg (fun e => hs_1 (by rw [e]; decide)), if_neg (fun e => hs_1 (by rw [e]; decide)), if_neg (fun e => hs_1 (by rw [e]; decide)), if_neg (fun e => hs_1 (by rw [e]; decide)), if_neg (fun e => hs_1 (by rw [e]; decide)), if_neg (fun e => hs_1 (by rw [e]; decide)), if_neg (fun e => hs_1 (by rw [e]; decide)), if_neg (fun e => hs_1 (by rw [e]; decide)), if_neg (fun e => hs_1 (by rw [e]; decide)), if_neg (fun e => hs_1 (by rw [e]; decide))], rfl⟩
set_option maxHeartbeats 4000000 in
set_option maxRecDepth 100000 in
theorem c_X5_reaches {l : Launch} {G : Gm} (hj : Aj G) {I : Ii} {pm : Pm} {a b : Int32} {σ : Sg} {hn : Nat} {hist : Nat → Sg} {sv : Nat → Int32} {sl : Nat → Sg} {pl : Nat} {pad : Sg} (C : CR I pm σ hn hist sv sl pl pad) : CI l G yX5_reaches (wz yX5_reaches cX5_reaches 5 (some .int)) (rmL 5) [.ref (G.2.2 8 0), .int a, .int b] I pm (fun r u => r = reachS σ a b ∧ CR u.1 u.2 σ hn hist sv sl pl pad ∧ FC I u.1) := by
  refine CI.walk hj (by decide +kernel) (by show _ ≤ 5; exact Nat.le_of_ble_eq_true rfl) ?_
  intro p e s m args below meth c F hr hlk
  obtain ⟨n, h, R, V⟩ := id C.1
  have hn8 := V.2.1
  have hne := V.nofe
  have hhe := V.hofe
  have LOOP : ∀ j, j ≤ 1001 → rkS σ a n < n → (0 ≤ b ∧ b ≤ 7) → (∀ i, i < j → rchP n h σ (rkS σ a n) b i = false) → ∀ (I2 : Ii) (xj : Int32), xj = nI j → Rp n (h - j) I2 pm 1 (itS n h σ j).1 → Fr 1 I pm I2 pm → GG p l e (rmL 5) s m args below meth c G (AA G) 5 0 0 (MQ below (va_Qi (fun (r : Int32) (u : Ii × Pm) => r = reachS σ a b ∧ CR u.1 u.2 σ hn hist sv sl pl pad ∧ FC I u.1) (fun (u : Ii × Pm) t => Wd G u.1 u.2 t.heap) (AA G)) args s 0 0 (AA G)) I2 pm [(0, .ref (G.2.2 8 0)), (1, .int a), (2, .int b), (3, .ref (G.2.2 7 (8 * 1 + pm 1 (rkS σ a n)))), (4, .int xj)] 36 [] := by
    refine dn_ind ?_
    intro j hjl ih hlr hb hno I2 xj ej R2 F2
    have hi7_16 : 8 * 1 + pm 1 (rkS σ a n) < 88 := inL7 (by decide) (R2.p8 (by omega))
    have ec : I2 7 (8 * 1 + pm 1 (rkS σ a n)) 3 = (itS n h σ j).1 (16 + 11 * rkS σ a n + 3) := R2.lc (f := 3) hlr (by decide)
    refine g_iload F 4 dX5_reaches_36 rfl ?_
    refine g_sipush (v := 1000) F dX5_reaches_38 (by decide) ?_
    refine g_icmp_gt F 69 dX5_reaches_41 (by decide) (fun c_41 => ?_) (fun c_41 => ?_)
    · have n_41 := nx_gtt (a := j) (b := 1000) ej rfl (by omega) (by omega) c_41
      refine g_bipush (v := -6) F dX5_reaches_69 (by decide) ?_
      refine g_iret F hr hlk rfl dX5_reaches_71 ?_
      exact ⟨by unfold reachS; rw [hne, hhe, if_pos ⟨hlr, hb⟩, unt_no (fun i hi => hno i (by omega))], C.fr1 F2 R2.pw, FC.fr F2⟩
    · have n_41 := nx_gtf (a := j) (b := 1000) ej rfl (by omega) (by omega) c_41
      refine g_aload_n F 3 dX5_reaches_44 rfl rfl ?_
      refine g_callIv (na := 0) F 7 _ (c_X2_blockNumber hj hi7_16) hi7_16 rfl rfl lk_X5_146 rfl rfl (by decide +kernel) ⟨rfl, rfl, Nat.le_of_ble_eq_true rfl, Nat.le_of_ble_eq_true rfl, Nat.le_of_ble_eq_true rfl, Nat.le_of_ble_eq_true rfl, Nat.le_of_ble_eq_true rfl⟩ dX5_reaches_45 (fun r_45 u_45 h_45 => ?_)
      obtain ⟨rfl, rfl⟩ := h_45
      try dsimp only
      refine g_iload_n F 2 dX5_reaches_48 rfl rfl ?_
      refine g_icmp_ne F 55 dX5_reaches_49 (by decide) (fun c_49 => ?_) (fun c_49 => ?_)
      · refine g_aload_n F 0 dX5_reaches_55 rfl rfl ?_
        refine gf_8_1 F (by decide) mFL_X5_16 dX5_reaches_56 ?_
        refine g_callIv (na := 0) F 0 _ (c_X1_tick hj (by decide) R2 (V.it j)) (by decide) rfl rfl lk_X5_149 rfl rfl (by decide +kernel) ⟨rfl, rfl, Nat.le_of_ble_eq_true rfl, Nat.le_of_ble_eq_true rfl, Nat.le_of_ble_eq_true rfl, Nat.le_of_ble_eq_true rfl, Nat.le_of_ble_eq_true rfl⟩ dX5_reaches_59 (fun r_59 u_59 h_59 => ?_)
        obtain ⟨ht_, Ru, Fu, up⟩ := h_59
        obtain ⟨I3, pm3⟩ := u_59
        dsimp only at Ru Fu up
        have up2 := up.symm
        subst up2
        dsimp only
        refine g_pop F dX5_reaches_62 rfl ?_
        refine g_iincC (q := 1) (L' := [(4, _), (0, _), (1, _), (2, _), (3, _)]) F 4 dX5_reaches_63 (by decide) rfl (by decide) rfl ?_
        refine g_goto F 36 dX5_reaches_66 (by decide) ?_
        refine g_sub [1, 2, 3, 4, 0] rfl ?_
        exact ih (by omega) hlr hb (fun i hi => by
          by_cases e : i = j
          · rw [e]
            exact decide_eq_false (fun q => c_49 (by rw [ec]; exact q))
          · exact hno i (by omega)) _ _ (nx_add ej rfl) (by rw [Nat.sub_sub] at Ru; exact Ru) (F2.tr Fu)
      · refine g_iload F 4 dX5_reaches_52 rfl ?_
        refine g_iret F hr hlk rfl dX5_reaches_54 ?_
        exact ⟨by unfold reachS; rw [hne, hhe, if_pos ⟨hlr, hb⟩, unt_at hno (decide_eq_true (by rw [← ec]; exact c_49)) (by omega), ej], C.fr1 F2 R2.pw, FC.fr F2⟩
  refine g_aload_n F 0 dX5_reaches_0 rfl rfl ?_
  refine gf_8_1 F (by decide) mFL_X5_16 dX5_reaches_1 ?_
  refine g_aload_n F 0 dX5_reaches_4 rfl rfl ?_
  refine gf_8_0 F (by decide) mFL_X5_12 dX5_reaches_5 ?_
  refine g_callVv (na := 1) F 0 _ (c_X1_copyFrom hj (by decide) (by decide) (by decide) R (C.2.2.2.2.2.2.2.2 1 (by decide))) (by decide) rfl rfl lk_X5_143 rfl rfl (by decide +kernel) ⟨rfl, rfl, Nat.le_of_ble_eq_true rfl, Nat.le_of_ble_eq_true rfl, Nat.le_of_ble_eq_true rfl, Nat.le_of_ble_eq_true rfl, Nat.le_of_ble_eq_true rfl⟩ dX5_reaches_8 (fun u_8 h_8 => ?_)
  obtain ⟨R1, F1, up⟩ := h_8
  obtain ⟨I1, pm1⟩ := u_8
  dsimp only at R1 F1 up
  have up2 := up.symm
  subst up2
  dsimp only
  have C1 := C.fr1 F1 R1.pw
  refine g_aload_n F 0 dX5_reaches_11 rfl rfl ?_
  refine gf_8_1 F (by decide) mFL_X5_16 dX5_reaches_12 ?_
  refine g_iload_n F 1 dX5_reaches_15 rfl rfl ?_
  refine g_callQv (na := 1) F 0 _ (c_X1_locoWith hj (by decide) R1) (by decide) rfl rfl lk_X5_79 rfl rfl (by decide +kernel) ⟨rfl, rfl, Nat.le_of_ble_eq_true rfl, Nat.le_of_ble_eq_true rfl, Nat.le_of_ble_eq_true rfl, Nat.le_of_ble_eq_true rfl, Nat.le_of_ble_eq_true rfl⟩ dX5_reaches_16 (fun r_16 u_16 h_16 => ?_)
  obtain ⟨hr_16, hu_16⟩ := h_16
  subst hu_16
  try dsimp only
  by_cases hlt_16 : ¬ rkS σ a n < n
  · obtain rfl : r_16 = none := hr_16.trans (if_neg hlt_16)
    try dsimp only [va_rf]
    refine g_astore_nN (L' := [(3, _), (0, _), (1, _), (2, _)]) F dX5_reaches_19 rfl (by decide) rfl ?_
    refine g_aload_nN F 0 dX5_reaches_20 rfl rfl ?_
    refine g_ifnullN F 31 dX5_reaches_21 (by decide) ?_
    refine g_iconst (v := -1) F dX5_reaches_31 (by decide) ?_
    refine g_iret F hr hlk rfl dX5_reaches_32 ?_
    first
    | exact ⟨by unfold reachS; rw [hne, if_neg (fun q => N1 q.2)], C1, FC.fr F1⟩
    | exact ⟨by unfold reachS; rw [hne, if_neg (fun q => hlt_16 q.1)], C1, FC.fr F1⟩
  · have hlr_16 := Decidable.not_not.mp hlt_16
    obtain rfl : r_16 = some (G.2.2 7 (8 * 1 + pm 1 (rkS σ a n))) := hr_16.trans (if_pos hlr_16)
    try dsimp only [va_rf]
    have hi7_16 : 8 * 1 + pm 1 (rkS σ a n) < 88 := inL7 (by decide) (R1.p8 (by omega))
    refine g_astore_n (L' := [(3, _), (0, _), (1, _), (2, _)]) F dX5_reaches_19 rfl (by decide) rfl ?_
    refine g_aload_n F 0 dX5_reaches_20 rfl rfl ?_
    refine g_ifnull F dX5_reaches_21 ?_
    refine g_iload_n F 3 dX5_reaches_24 rfl rfl ?_
    refine g_callIs (na := 1) F (c_X5_isBlock hj) lk_X5_97 rfl rfl (by decide +kernel) ⟨rfl, rfl, Nat.le_of_ble_eq_true rfl, Nat.le_of_ble_eq_true rfl, Nat.le_of_ble_eq_true rfl, Nat.le_of_ble_eq_true rfl, Nat.le_of_ble_eq_true rfl⟩ dX5_reaches_25 (fun r_25 u_25 h_25 => ?_)
    obtain ⟨rfl, rfl⟩ := h_25
    try dsimp only
    refine g_if_ne F 33 dX5_reaches_28 (by decide) (fun c_28 => ?_) (fun c_28 => ?_)
    · have P1 := bz_n.mp c_28
      refine g_iconst (v := 0) F dX5_reaches_33 (by decide) ?_
      refine g_istore (L' := [(4, _), (3, _), (0, _), (1, _), (2, _)]) F dX5_reaches_34 (by decide) rfl ?_
      refine g_sub [2, 3, 4, 1, 0] rfl ?_
      exact LOOP 0 (Nat.zero_le _) hlr_16 P1 (fun i hi => absurd hi (by omega)) _ _ rfl R1 F1
    · have N1 := bz_0.mp c_28
      refine g_iconst (v := -1) F dX5_reaches_31 (by decide) ?_
      refine g_iret F hr hlk rfl dX5_reaches_32 ?_
      first
      | exact ⟨by unfold reachS; rw [hne, if_neg (fun q => N1 q.2)], C1, FC.fr F1⟩
      | exact ⟨by unfold reachS; rw [hne, if_neg (fun q => hlt_16 q.1)], C1, FC.fr F1⟩
set_option maxHeartbeats 4000000 in
set_option maxRecDepth 100000 in
theorem c_X5_save {l : Launch} {G : Gm} (hj : Aj G) {I : Ii} {pm : Pm} {x : Int32} {σ : Sg} {hn : Nat} {hist : Nat → Sg} {sv : Nat → Int32} {sl : Nat → Sg} {pl : Nat} {pad : Sg} (C : CR I pm σ hn hist sv sl pl pad) : CI l G yX5_save (wz yX5_save cX5_save 2 (some .int)) (rmL 3) [.ref (G.2.2 8 0), .int x] I pm (fun r u => (¬ (0 ≤ x ∧ x ≤ 1) ∧ r = -2 ∧ u = (I, pm)) ∨ ((0 ≤ x ∧ x ≤ 1) ∧ r = σ 6 ∧ CR u.1 u.2 σ hn hist (svU sv x.toInt.toNat) (slU sl x.toInt.toNat σ) pl pad ∧ FC I u.1)) := by
  obtain ⟨n, h, R, V⟩ := id C.1
  have hn8 := V.2.1
  have hne := V.nofe
  have hhe := V.hofe
  refine CI.walk hj (by decide +kernel) (by show _ ≤ 2; exact Nat.le_of_ble_eq_true rfl) ?_
  intro p e s m args below meth c F hr hlk
  refine g_iload_n F 1 dX5_save_0 rfl rfl ?_
  refine g_iconst (v := 0) F dX5_save_1 (by decide) ?_
  refine g_iconst (v := 1) F dX5_save_2 (by decide) ?_
  refine g_callIs (na := 3) F (c_X5_within hj) lk_X5_155 rfl rfl (by decide +kernel) ⟨rfl, rfl, Nat.le_of_ble_eq_true rfl, Nat.le_of_ble_eq_true rfl, Nat.le_of_ble_eq_true rfl, Nat.le_of_ble_eq_true rfl, Nat.le_of_ble_eq_true rfl⟩ dX5_save_3 (fun r_3 u_3 h_3 => ?_)
  obtain ⟨rfl, rfl⟩ := h_3
  try dsimp only
  refine g_if_ne F 12 dX5_save_6 (by decide) (fun c_6 => ?_) (fun c_6 => ?_)
  · have P1 := bz_n.mp c_6
    have ex := rng (M := 1) (m := 1) rfl P1.1 P1.2
    have hk2 : 2 + x.toInt.toNat < 11 := by omega
    refine g_aload_n F 0 dX5_save_12 rfl rfl ?_
    refine gf_8_3 F (by decide) mFL_X5_26 dX5_save_13 ?_
    refine g_iload_n F 1 dX5_save_16 rfl rfl ?_
    refine ga_11 (j := x.toInt.toNat) F ex.2 (by omega) dX5_save_17 ?_
    refine g_aload_n F 0 dX5_save_18 rfl rfl ?_
    refine gf_8_0 F (by decide) mFL_X5_12 dX5_save_19 ?_
    refine g_callVv (na := 1) F 0 _ (c_X1_copyFrom hj hk2 (by decide) (by omega) R (C.2.2.2.2.2.2.2.2 _ hk2)) hk2 rfl rfl lk_X5_143 rfl rfl (by decide +kernel) ⟨rfl, rfl, Nat.le_of_ble_eq_true rfl, Nat.le_of_ble_eq_true rfl, Nat.le_of_ble_eq_true rfl, Nat.le_of_ble_eq_true rfl, Nat.le_of_ble_eq_true rfl⟩ dX5_save_22 (fun u_22 h_22 => ?_)
    obtain ⟨R1, F1, up⟩ := h_22
    obtain ⟨I1, pm1⟩ := u_22
    dsimp only at R1 F1 up
    have up2 := up.symm
    subst up2
    dsimp only
    refine g_aload_n F 0 dX5_save_25 rfl rfl ?_
    refine gf_8_4 F (by decide) mFL_X5_30 dX5_save_26 ?_
    refine g_iload_n F 1 dX5_save_29 rfl rfl ?_
    refine g_iconst (v := 1) F dX5_save_30 (by decide) ?_
    refine gs_12 (j := x.toInt.toNat) F (by decide) ex.2 (by omega) rfl dX5_save_31 ?_
    refine g_aload_n F 0 dX5_save_32 rfl rfl ?_
    refine gf_8_0 F (by decide) mFL_X5_12 dX5_save_33 ?_
    refine gf_0_3 F (by decide) mFL_X5_111 dX5_save_36 ?_
    refine g_eqi (y := σ 6) (by rw [up3_k (by decide)]; exact (F1.1 0 0 3 (inL_ne (by decide) (by omega))).trans R.1.1) ?_
    refine g_iret F hr hlk rfl dX5_save_39 ?_
    refine Or.inr ⟨P1, rfl, ?_, (FC.fr F1).tr (FC.up (by decide))⟩
    obtain ⟨R0, ⟨a, ha, ea, hh⟩, en, h6, ⟨c1, c2, c3, c4, c5⟩⟩ := C
    have o : ∀ K i c, 7 < K → I1 K i c = I K i c := fun K i c h => F1.1 K i c (fun q => by have := inL_le q; omega)
    have oc : ∀ (k : Nat) (s : Sg), RpS I1 pm k s → RpS (up3 I1 12 0 x.toInt.toNat 1) pm k s := fun k s q => q.cong (fun K i c hL => up3_k (by have := inL_le hL; omega)) (fun _ => rfl)
    have oo : ∀ K i c, 7 < K → K ≠ 12 → up3 I1 12 0 x.toInt.toNat 1 K i c = I K i c := fun K i c h1 h2 => (up3_k h2).trans (o K i c h1)
    refine ⟨oc _ _ (R0.keep F1 (by omega)), ⟨a, ha, (oo 9 0 1 (by decide) (by decide)).trans ea, fun i hi => oc _ _ ((hh i hi).keep F1 (by omega))⟩, (oo 9 0 2 (by decide) (by decide)).trans en, h6, fun i hi => ?_, (oo 13 0 1 (by decide) (by decide)).trans c2, c3, fun i hi => (oo 14 0 i (by decide) (by decide)).trans (c4 i hi), fun k hk => ?_⟩
    rotate_left
    · exact c5 k hk
    show up3 I1 12 0 x.toInt.toNat 1 12 0 i = (if i = x.toInt.toNat then 1 else sv i) ∧ ((if i = x.toInt.toNat then (1 : Int32) else sv i) = 0 ∨ (if i = x.toInt.toNat then (1 : Int32) else sv i) = 1) ∧ ((if i = x.toInt.toNat then (1 : Int32) else sv i) = 1 → RpS (up3 I1 12 0 x.toInt.toNat 1) pm (2 + i) (if i = x.toInt.toNat then σ else sl i))
    by_cases e : i = x.toInt.toNat
    · rw [if_pos e, if_pos e, ← e, up3_s]
      exact ⟨rfl, Or.inr rfl, fun _ => by rw [e]; exact oc _ _ ⟨n, h, R1, V⟩⟩
    · rw [if_neg e, if_neg e, up3_n (fun q => e q.2.2), o 12 0 i (by decide)]
      exact ⟨(c1 i hi).1, (c1 i hi).2.1, fun q => oc _ _ (((c1 i hi).2.2 q).keep F1 (by omega))⟩
  · have N1 := bz_0.mp c_6
    refine g_bipush (v := -2) F dX5_save_9 (by decide) ?_
    refine g_iret F hr hlk rfl dX5_save_11 ?_
    exact Or.inl ⟨N1, rfl, rfl⟩
set_option maxHeartbeats 4000000 in
set_option maxRecDepth 100000 in
theorem c_X5_restore {l : Launch} {G : Gm} (hj : Aj G) {I : Ii} {pm : Pm} {x : Int32} {σ : Sg} {hn : Nat} {hist : Nat → Sg} {sv : Nat → Int32} {sl : Nat → Sg} {pl : Nat} {pad : Sg} (C : CR I pm σ hn hist sv sl pl pad) : CI l G yX5_restore (wz yX5_restore cX5_restore 2 (some .int)) (rmL 4) [.ref (G.2.2 8 0), .int x] I pm (fun r u => (¬ (0 ≤ x ∧ x ≤ 1) ∧ r = -2 ∧ u = (I, pm)) ∨ ((0 ≤ x ∧ x ≤ 1) ∧ sv x.toInt.toNat = 0 ∧ r = -5 ∧ u = (I, pm)) ∨ ((0 ≤ x ∧ x ≤ 1) ∧ sv x.toInt.toNat = 1 ∧ r = sl x.toInt.toNat 6 ∧ CR u.1 u.2 (sl x.toInt.toNat) (pushN hn) (pushH hn hist σ) sv sl pl pad ∧ FC I u.1)) := by
  obtain ⟨n, h, R, V⟩ := id C.1
  have hn8 := V.2.1
  have hne := V.nofe
  have hhe := V.hofe
  refine CI.walk hj (by decide +kernel) (by show _ ≤ 2; exact Nat.le_of_ble_eq_true rfl) ?_
  intro p e s m args below meth c F hr hlk
  refine g_iload_n F 1 dX5_restore_0 rfl rfl ?_
  refine g_iconst (v := 0) F dX5_restore_1 (by decide) ?_
  refine g_iconst (v := 1) F dX5_restore_2 (by decide) ?_
  refine g_callIs (na := 3) F (c_X5_within hj) lk_X5_155 rfl rfl (by decide +kernel) ⟨rfl, rfl, Nat.le_of_ble_eq_true rfl, Nat.le_of_ble_eq_true rfl, Nat.le_of_ble_eq_true rfl, Nat.le_of_ble_eq_true rfl, Nat.le_of_ble_eq_true rfl⟩ dX5_restore_3 (fun r_3 u_3 h_3 => ?_)
  obtain ⟨rfl, rfl⟩ := h_3
  try dsimp only
  refine g_if_ne F 12 dX5_restore_6 (by decide) (fun c_6 => ?_) (fun c_6 => ?_)
  · have P1 := bz_n.mp c_6
    have ex := rng (M := 1) (m := 1) rfl P1.1 P1.2
    have hk2 : 2 + x.toInt.toNat < 11 := by omega
    refine g_aload_n F 0 dX5_restore_12 rfl rfl ?_
    refine gf_8_4 F (by decide) mFL_X5_30 dX5_restore_13 ?_
    refine g_iload_n F 1 dX5_restore_16 rfl rfl ?_
    refine ga_12 (j := x.toInt.toNat) F (by decide) ex.2 (by omega) dX5_restore_17 ?_
    refine g_if_ne F 24 dX5_restore_18 (by decide) (fun c_18 => ?_) (fun c_18 => ?_)
    · have e1 : sv x.toInt.toNat = 1 := by
        rcases (C.2.2.2.2.1 x.toInt.toNat (by omega)).2.1 with q | q
        · exact absurd ((C.2.2.2.2.1 x.toInt.toNat (by omega)).1.trans q) c_18
        · exact q
      refine g_aload_n F 0 dX5_restore_24 rfl rfl ?_
      refine gf_8_2 F (by decide) mFL_X5_22 dX5_restore_25 ?_
      refine g_aload_n F 0 dX5_restore_28 rfl rfl ?_
      refine gf_8_0 F (by decide) mFL_X5_12 dX5_restore_29 ?_
      refine g_callVv (na := 1) F 9 _ (c_X0_draft hj C) (by decide) rfl rfl lk_X5_41 rfl rfl (by decide +kernel) ⟨rfl, rfl, Nat.le_of_ble_eq_true rfl, Nat.le_of_ble_eq_true rfl, Nat.le_of_ble_eq_true rfl, Nat.le_of_ble_eq_true rfl, Nat.le_of_ble_eq_true rfl⟩ dX5_restore_32 (fun u_32 h_32 => ?_)
      obtain ⟨D, f1⟩ := h_32
      obtain ⟨n2, h2, R2, V2⟩ := (D.2.2.2.2.1 x.toInt.toNat (by omega)).2.2 e1
      refine g_aload_n F 0 dX5_restore_35 rfl rfl ?_
      refine gf_8_0 F (by decide) mFL_X5_12 dX5_restore_36 ?_
      refine g_aload_n F 0 dX5_restore_39 rfl rfl ?_
      refine gf_8_3 F (by decide) mFL_X5_26 dX5_restore_40 ?_
      refine g_iload_n F 1 dX5_restore_43 rfl rfl ?_
      refine ga_11 (j := x.toInt.toNat) F ex.2 (by omega) dX5_restore_44 ?_
      refine g_callVv (na := 1) F 0 _ (c_X1_copyFrom hj (by decide) hk2 (by omega) R2 (D.2.2.2.2.2.2.2.2 0 (by decide))) (by decide) rfl rfl lk_X5_143 rfl rfl (by decide +kernel) ⟨rfl, rfl, Nat.le_of_ble_eq_true rfl, Nat.le_of_ble_eq_true rfl, Nat.le_of_ble_eq_true rfl, Nat.le_of_ble_eq_true rfl, Nat.le_of_ble_eq_true rfl⟩ dX5_restore_45 (fun u_45 h_45 => ?_)
      obtain ⟨R3, F3, up⟩ := h_45
      have D3 := D.op F3 ⟨n2, h2, R3, V2⟩
      refine g_aload_n F 0 dX5_restore_48 rfl rfl ?_
      refine gf_8_2 F (by decide) mFL_X5_22 dX5_restore_49 ?_
      refine g_aload_n F 0 dX5_restore_52 rfl rfl ?_
      refine gf_8_0 F (by decide) mFL_X5_12 dX5_restore_53 ?_
      refine gf_0_3 F (by decide) mFL_X5_111 dX5_restore_56 ?_
      refine g_eqi (y := sl x.toInt.toNat 6) R3.1.1 ?_
      refine g_callIv (na := 1) F 9 _ (c_X0_kept hj D3) (by decide) rfl rfl lk_X5_49 rfl rfl (by decide +kernel) ⟨rfl, rfl, Nat.le_of_ble_eq_true rfl, Nat.le_of_ble_eq_true rfl, Nat.le_of_ble_eq_true rfl, Nat.le_of_ble_eq_true rfl, Nat.le_of_ble_eq_true rfl⟩ dX5_restore_59 (fun r_59 u_59 h_59 => ?_)
      skip
      refine g_iret F hr hlk rfl dX5_restore_62 ?_
      obtain ⟨hr6, H6, f6⟩ := h_59
      have hpos : ¬ sl x.toInt.toNat 6 < 0 := by rw [V2.1]; exact nneg (by have := V2.2.1; omega)
      rcases H6 with ⟨q, -⟩ | ⟨-, C6⟩
      · exact absurd q hpos
      · exact Or.inr (Or.inr ⟨P1, e1, hr6, C6, (f1.tr (FC.fr F3)).tr f6⟩)
    · have e0 : sv x.toInt.toNat = 0 := (C.2.2.2.2.1 x.toInt.toNat (by omega)).1.symm.trans c_18
      refine g_bipush (v := -5) F dX5_restore_21 (by decide) ?_
      refine g_iret F hr hlk rfl dX5_restore_23 ?_
      exact Or.inr (Or.inl ⟨P1, e0, rfl, rfl⟩)
  · have N1 := bz_0.mp c_6
    refine g_bipush (v := -2) F dX5_restore_9 (by decide) ?_
    refine g_iret F hr hlk rfl dX5_restore_11 ?_
    exact Or.inl ⟨N1, rfl, rfl⟩
