/-! PART 24: a text's first fault; a text is carried out -/
def posT (pl : Nat) (pad : Sg) : Nat → Nat
  | 0 => 0
  | j + 1 => (orT pl pad (posT pl pad j)).2 + 1
/-- the orders before the j-th are whole, and ';' stands behind each -/
def preT (pl : Nat) (pad : Sg) (j : Nat) : Prop := ∀ i, i < j → (orT pl pad (posT pl pad i)).1 = true ∧ (chT pl pad 59 (orT pl pad (posT pl pad i)).2).1 = true
/-- the text is whole, and its last order is the j-th -/
def wfT (pl : Nat) (pad : Sg) (j : Nat) : Prop := preT pl pad j ∧ (orT pl pad (posT pl pad j)).1 = true ∧ pl ≤ (orT pl pad (posT pl pad j)).2
def ffR (pl : Nat) (pad : Sg) (r : Int32) : Prop := ∃ j, preT pl pad j ∧ ((¬ (orT pl pad (posT pl pad j)).1 = true ∧ r = nI (orT pl pad (posT pl pad j)).2) ∨ ((orT pl pad (posT pl pad j)).1 = true ∧ pl ≤ (orT pl pad (posT pl pad j)).2 ∧ r = -6) ∨ ((orT pl pad (posT pl pad j)).1 = true ∧ (orT pl pad (posT pl pad j)).2 < pl ∧ ¬ (chT pl pad 59 (orT pl pad (posT pl pad j)).2).1 = true ∧ r = nI (orT pl pad (posT pl pad j)).2))
theorem pre_s {pl : Nat} {pad : Sg} {j : Nat} (h : preT pl pad j) (h1 : (orT pl pad (posT pl pad j)).1 = true) (h2 : (chT pl pad 59 (orT pl pad (posT pl pad j)).2).1 = true) : preT pl pad (j + 1) := fun i hi => by
  by_cases e : i = j
  · rw [e]; exact ⟨h1, h2⟩
  · exact h i (by omega)
theorem pre_pos {pl : Nat} {pad : Sg} : ∀ j, preT pl pad j → 3 * j ≤ posT pl pad j ∧ posT pl pad j ≤ pl := by
  intro j
  induction j with
  | zero => exact fun _ => ⟨Nat.le_refl _, Nat.zero_le _⟩
  | succ j ih =>
    intro h
    have h2 := ih (fun i hi => h i (by omega))
    have h3 := h j (Nat.lt_succ_self j)
    have h4 := orT_ok h3.1
    have h5 := chT_ok h3.2 (by decide)
    show 3 * (j + 1) ≤ (orT pl pad (posT pl pad j)).2 + 1 ∧ (orT pl pad (posT pl pad j)).2 + 1 ≤ pl
    omega
theorem or_le {pl : Nat} {pad : Sg} {p : Nat} (hp : p ≤ pl) : (orT pl pad p).2 ≤ pl := by
  by_cases c : (orT pl pad p).1 = true
  · exact (orT_ok c).2
  · have nf : ∀ q, q ≤ pl → (nmT pl pad q).2 ≤ pl := fun q hq => by
      by_cases k : (nmT pl pad q).1 = true
      · exact (nmT_ok k).2.2.1
      · rw [nmT_f k]; exact hq
    have cf : ∀ x q, x ≠ 0 → q ≤ pl → (chT pl pad x q).2 ≤ pl := fun x q hx hq => by
      by_cases k : (chT pl pad x q).1 = true
      · have := chT_ok k hx
        omega
      · rw [chT_f k]; exact hq
    have df : ∀ x q, q ≤ pl → (dgT pl pad x q).2 ≤ pl := fun x q hq => by
      by_cases k : (dgT pl pad x q).1 = true
      · have := dgT_ok k
        omega
      · rw [dgT_f k]; exact hq
    have tf : ∀ (r : Bool × Nat) (f : Nat → Bool × Nat), r.2 ≤ pl → (∀ q, q ≤ pl → (f q).2 ≤ pl) → (thn r f).2 ≤ pl := fun r f hr hf => by
      unfold thn
      split
      · exact hf _ hr
      · exact hr
    unfold orT
    by_cases c1 : sgT pl pad p = 111
    · have := sg_in c1 (by decide)
      rw [if_pos c1]
      exact tf _ _ (tf _ _ (tf _ _ (tf _ _ (nf _ (by omega)) (fun q => cf _ q (by decide))) nf) (fun q => cf _ q (by decide))) (df 3)
    · rw [if_neg c1]
      by_cases c2 : sgT pl pad p = 102
      · have := sg_in c2 (by decide)
        rw [if_pos c2]
        exact tf _ _ (tf _ _ (tf _ _ (tf _ _ (nf _ (by omega)) (fun q => cf _ q (by decide))) nf) (fun q => cf _ q (by decide))) nf
      · rw [if_neg c2]
        by_cases c3 : sgT pl pad p = 115
        · have := sg_in c3 (by decide)
          rw [if_pos c3]
          exact tf _ _ (tf _ _ (df 7 _ (by omega)) (fun q => cf _ q (by decide))) nf
        · rw [if_neg c3]
          by_cases c4 : sgT pl pad p = 116
          · have := sg_in c4 (by decide)
            rw [if_pos c4]
            exact nf _ (by omega)
          · rw [if_neg c4]
            exact hp
theorem or_in {pl : Nat} {pad : Sg} {j : Nat} (h : preT pl pad j) : (orT pl pad (posT pl pad j)).2 ≤ pl := or_le (pre_pos j h).2
theorem pre_lt {pl : Nat} {pad : Sg} {i j : Nat} (h : preT pl pad j) (hij : i < j) : (orT pl pad (posT pl pad i)).1 = true ∧ (orT pl pad (posT pl pad i)).2 < pl ∧ (chT pl pad 59 (orT pl pad (posT pl pad i)).2).1 = true :=
  ⟨(h i hij).1, (chT_ok (h i hij).2 (by decide)).1, (h i hij).2⟩
theorem ffR_fn {pl : Nat} {pad : Sg} {r r' : Int32} (h80 : pl ≤ 80) (h : ffR pl pad r) (h' : ffR pl pad r') : r = r' := by
  obtain ⟨j, hp, ho⟩ := h
  obtain ⟨j', hp', ho'⟩ := h'
  have key : ∀ j j' r, preT pl pad j' → j < j' → ¬ ((¬ (orT pl pad (posT pl pad j)).1 = true ∧ r = nI (orT pl pad (posT pl pad j)).2) ∨ ((orT pl pad (posT pl pad j)).1 = true ∧ pl ≤ (orT pl pad (posT pl pad j)).2 ∧ r = -6) ∨ ((orT pl pad (posT pl pad j)).1 = true ∧ (orT pl pad (posT pl pad j)).2 < pl ∧ ¬ (chT pl pad 59 (orT pl pad (posT pl pad j)).2).1 = true ∧ r = nI (orT pl pad (posT pl pad j)).2)) := by
    intro j j' r hp' hlt hc
    obtain ⟨k1, k2, k3⟩ := pre_lt hp' hlt
    rcases hc with ⟨q, -⟩ | ⟨-, q, -⟩ | ⟨-, -, q, -⟩
    · exact q k1
    · omega
    · exact q k3
  have n1 : ¬ j < j' := fun q => key j j' r hp' q ho
  have n2 : ¬ j' < j := fun q => key j' j r' hp q ho'
  have e : j = j' := by omega
  subst e
  rcases ho with ⟨a, b⟩ | ⟨a, b, q⟩ | ⟨a, b, q, t⟩
  · rcases ho' with ⟨a', b'⟩ | ⟨a', b', q'⟩ | ⟨a', b', q', t'⟩
    · rw [b, b']
    · exact absurd a' a
    · exact absurd a' a
  · rcases ho' with ⟨a', b'⟩ | ⟨a', b', q'⟩ | ⟨a', b', q', t'⟩
    · exact absurd a a'
    · rw [q, q']
    · omega
  · rcases ho' with ⟨a', b'⟩ | ⟨a', b', q'⟩ | ⟨a', b', q', t'⟩
    · exact absurd a a'
    · omega
    · rw [t, t']
theorem nI_m6 {m : Nat} (h : m ≤ 80) : nI m ≠ -6 := fun q => by
  have h1 := congrArg Int32.toInt q
  rw [nI_toInt (by omega)] at h1
  have : (-6 : Int32).toInt = -6 := rfl
  omega
theorem ff_none {pl : Nat} {pad : Sg} (h80 : pl ≤ 80) (h : ffR pl pad (-6)) : ∃ j, wfT pl pad j := by
  obtain ⟨j, hp, ho⟩ := h
  have hi := or_in hp
  rcases ho with ⟨a, b⟩ | ⟨a, b, q⟩ | ⟨a, b, q, t⟩
  · exact absurd b.symm (nI_m6 (by omega))
  · exact ⟨j, hp, a, b⟩
  · exact absurd t.symm (nI_m6 (by omega))
theorem wf_fn {pl : Nat} {pad : Sg} {j j' : Nat} (h : wfT pl pad j) (h' : wfT pl pad j') : j = j' := by
  have n1 : ¬ j < j' := fun q => by have := pre_lt h'.1 q; have := h.2.2; omega
  have n2 : ¬ j' < j := fun q => by have := pre_lt h.1 q; have := h'.2.2; omega
  omega
theorem wf_ff {pl : Nat} {pad : Sg} {j : Nat} (h : wfT pl pad j) : ffR pl pad (-6) := ⟨j, h.1, Or.inr (Or.inl ⟨h.2.1, h.2.2, rfl⟩)⟩
theorem wf_26 {pl : Nat} {pad : Sg} {j : Nat} (h80 : pl ≤ 80) (h : wfT pl pad j) : j ≤ 26 := by
  have := pre_pos j h.1
  omega
/-- one order, carried out on the state s -/
def exR (pl : Nat) (pad : Sg) (p : Nat) (s : Sg) (q : Int32 × Sg) : Prop :=
  (sgT pl pad p = 111 ∧ ordR (nmV pl pad (p + 1)) (nmV pl pad (p2T pl pad p)) (sgT pl pad (p3T pl pad p) - 48) s q) ∨
  (sgT pl pad p = 102 ∧ frmR (nmV pl pad (p + 1)) (nmV pl pad (p2T pl pad p)) (nmV pl pad (p3T pl pad p)) s q) ∨
  (sgT pl pad p = 115 ∧ shoR (sgT pl pad (p + 1) - 48) (nmV pl pad (p + 3)) s q) ∨
  (sgT pl pad p = 116 ∧ pasR (nmV pl pad (p + 1)) s q)
def caR (pl : Nat) (pad : Sg) : Nat → Nat → Sg → Nat × Sg → Prop
  | 0, _, s, q => q = (0, s)
  | t + 1, p, s, q => ∃ x, exR pl pad p s x ∧ ((x.1 < 0 ∧ q = (0, s)) ∨ (¬ x.1 < 0 ∧ ∃ y, caR pl pad t ((orT pl pad p).2 + 1) x.2 y ∧ q = (y.1 + 1, y.2)))
def KT (I I' : Ii) : Prop := ∀ K i c, 8 ≤ K → I' K i c = I K i c
theorem KT.fr {k : Nat} {I I' : Ii} {pm pm' : Pm} (F : Fr k I pm I' pm') : KT I I' := fun K i c h => F.1 K i c (fun q => by have := inL_le q; omega)
theorem KT.fc {I I' : Ii} (h : KT I I') : FC I I' := fun K i c h' => h K i c (by omega)
theorem DR.fp {I I' : Ii} {pm : Pm} {σ0 : Sg} {σ : Sg} {hn : Nat} {hist : Nat → Sg} {sv : Nat → Int32} {sl : Nat → Sg} {pl : Nat} {pad : Sg} {pl' : Nat} {pad' : Sg} (D : DR I pm σ0 σ hn hist sv sl pl pad) (f : ∀ K i c, K ≠ 13 → K ≠ 14 → K ≠ 15 → I' K i c = I K i c) (P : PD I' pl' pad') : DR I' pm σ0 σ hn hist sv sl pl' pad' := by
  obtain ⟨R0, ⟨a, ha, ea, hh, hd⟩, en, h6, c1, c2, c3, c4, c5⟩ := D
  have oc : ∀ (k : Nat) (s : Sg), RpS I pm k s → RpS I' pm k s := fun k s q => q.cong (fun K i c hL => f K i c (by have := inL_le hL; omega) (by have := inL_le hL; omega) (by have := inL_le hL; omega)) (fun _ => rfl)
  exact ⟨oc _ _ R0, ⟨a, ha, (f 9 0 1 (by decide) (by decide) (by decide)).trans ea, fun i hi => oc _ _ (hh i hi), oc _ _ hd⟩, (f 9 0 2 (by decide) (by decide) (by decide)).trans en, h6, fun i hi => ⟨(f 12 0 i (by decide) (by decide) (by decide)).trans (c1 i hi).1, (c1 i hi).2.1, fun q => oc _ _ ((c1 i hi).2.2 q)⟩, P.1, P.2.1, P.2.2, c5⟩
theorem CR.fp {I I' : Ii} {pm : Pm} {σ : Sg} {hn : Nat} {hist : Nat → Sg} {sv : Nat → Int32} {sl : Nat → Sg} {pl : Nat} {pad : Sg} {pl' : Nat} {pad' : Sg} (C : CR I pm σ hn hist sv sl pl pad) (f : ∀ K i c, K ≠ 13 → K ≠ 14 → K ≠ 15 → I' K i c = I K i c) (P : PD I' pl' pad') : CR I' pm σ hn hist sv sl pl' pad' := by
  obtain ⟨R0, ⟨a, ha, ea, hh⟩, en, h6, c1, c2, c3, c4, c5⟩ := C
  have oc : ∀ (k : Nat) (s : Sg), RpS I pm k s → RpS I' pm k s := fun k s q => q.cong (fun K i c hL => f K i c (by have := inL_le hL; omega) (by have := inL_le hL; omega) (by have := inL_le hL; omega)) (fun _ => rfl)
  exact ⟨oc _ _ R0, ⟨a, ha, (f 9 0 1 (by decide) (by decide) (by decide)).trans ea, fun i hi => oc _ _ (hh i hi)⟩, (f 9 0 2 (by decide) (by decide) (by decide)).trans en, h6, fun i hi => ⟨(f 12 0 i (by decide) (by decide) (by decide)).trans (c1 i hi).1, (c1 i hi).2.1, fun q => oc _ _ ((c1 i hi).2.2 q)⟩, P.1, P.2.1, P.2.2, c5⟩
theorem CR.pd {I : Ii} {pm : Pm} {σ : Sg} {hn : Nat} {hist : Nat → Sg} {sv : Nat → Int32} {sl : Nat → Sg} {pl : Nat} {pad : Sg} (C : CR I pm σ hn hist sv sl pl pad) : PD I pl pad := ⟨C.2.2.2.2.2.1, C.2.2.2.2.2.2.1, C.2.2.2.2.2.2.2.1⟩
theorem DR.pd {I : Ii} {pm : Pm} {σ0 : Sg} {σ : Sg} {hn : Nat} {hist : Nat → Sg} {sv : Nat → Int32} {sl : Nat → Sg} {pl : Nat} {pad : Sg} (D : DR I pm σ0 σ hn hist sv sl pl pad) : PD I pl pad := D.cr.pd
theorem FP.x {I I' : Ii} (f : FP I I') : ∀ K i c, K ≠ 13 → K ≠ 14 → K ≠ 15 → I' K i c = I K i c := fun K i c h _ h2 => f K i c (fun q => h q.1) h2
theorem FP.c {I I' : Ii} (f : FP I I') : FC I I' := fun K i c h => f K i c (by omega) (by omega)
theorem FT.x {I I' : Ii} (f : FT I I') : ∀ K i c, K ≠ 13 → K ≠ 14 → K ≠ 15 → I' K i c = I K i c := fun K i c h h1 _ => f K i c (fun q => h q.1) h1
theorem FT.c {I I' : Ii} (f : FT I I') : FC I I' := fun K i c h => f K i c (by omega) (by omega)
set_option maxHeartbeats 4000000 in
set_option maxRecDepth 100000 in
theorem c_X3_firstFault {l : Launch} {G : Gm} (hj : Aj G) {I : Ii} {pm : Pm} {pl : Nat} {pad : Sg} (P : PD I pl pad) : CI l G yX3_firstFault (wz yX3_firstFault cX3_firstFault 2 (some .int)) (rmL 4) [.ref (G.2.2 13 0)] I pm (fun r u => ffR pl pad r ∧ ∃ ia, u = (ia, pm) ∧ FP I ia) := by
  refine CI.walk hj (by decide +kernel) (by show _ ≤ 2; exact Nat.le_of_ble_eq_true rfl) ?_
  intro p e s m args below meth c F hr hlk
  have h80 := P.2.1
  have LOOP : ∀ j, j ≤ 80 → preT pl pad j → ∀ ia, FP I ia → ia 13 0 2 = nI (posT pl pad j) → ∀ xj, xj = nI j → GG p l e (rmL 4) s m args below meth c G (AA G) 2 0 0 (MQ below (va_Qi (fun (r : Int32) (u : Ii × Pm) => ffR pl pad r ∧ ∃ ia, u = (ia, pm) ∧ FP I ia) (fun (u : Ii × Pm) t => Wd G u.1 u.2 t.heap) (AA G)) args s 0 0 (AA G)) ia pm [(0, .ref (G.2.2 13 0)), (1, .int xj)] 6 [] := by
    refine dn_ind ?_
    intro j hj8 ih hp ia f ea xj ej
    have P1 := P.fp f
    have hq := pre_pos j hp
    have hi := or_in hp
    refine g_iload_n F 1 dX3_firstFault_6 rfl rfl ?_
    refine g_bipush (v := 80) F dX3_firstFault_7 (by decide) ?_
    refine g_icmp_ge F 58 dX3_firstFault_9 (by decide) (fun c_9 => ?_) (fun c_9 => ?_)
    · have n_9 := nx_get (a := j) (b := 80) ej rfl (by omega) (by omega) c_9
      refine g_aload_n F 0 dX3_firstFault_58 rfl rfl ?_
      refine gf_13_2 F (by decide) mFL_X3_35 dX3_firstFault_59 ?_
      refine g_iret F hr hlk rfl dX3_firstFault_62 ?_
      omega
    · have n_9 := nx_gef (a := j) (b := 80) ej rfl (by omega) (by omega) c_9
      refine g_aload_n F 0 dX3_firstFault_12 rfl rfl ?_
      refine g_callIv (na := 0) F 13 _ (c_X3_readsOrder hj P1 (by omega) ea) (by decide) rfl rfl lk_X3_41 rfl rfl (by decide +kernel) ⟨rfl, rfl, Nat.le_of_ble_eq_true rfl, Nat.le_of_ble_eq_true rfl, Nat.le_of_ble_eq_true rfl, Nat.le_of_ble_eq_true rfl, Nat.le_of_ble_eq_true rfl⟩ dX3_firstFault_13 (fun r_13 u_13 h_13 => ?_)
      obtain ⟨rfl, ib, rfl, g, eb, -, -⟩ := h_13
      have f2 := f.tr g
      have P2 := P.fp f2
      try dsimp only
      refine g_if_ne F 24 dX3_firstFault_16 (by decide) (fun c_16 => ?_) (fun c_16 => ?_)
      · have OK := bz_n.mp c_16
        refine g_aload_n F 0 dX3_firstFault_24 rfl rfl ?_
        refine gf_13_2 F (by decide) mFL_X3_35 dX3_firstFault_25 ?_
        refine g_aload_n F 0 dX3_firstFault_28 rfl rfl ?_
        refine gf_13_1 F (by decide) mFL_X3_23 dX3_firstFault_29 ?_
        refine g_icmp_lt F 38 dX3_firstFault_32 (by decide) (fun c_32 => ?_) (fun c_32 => ?_)
        · have L : (orT pl pad (posT pl pad j)).2 < pl := by have := nx_ltt eb P2.1 (by omega) (by omega) c_32; exact this
          refine g_aload_n F 0 dX3_firstFault_38 rfl rfl ?_
          refine g_bipush (v := 59) F dX3_firstFault_39 (by decide) ?_
          refine g_callIv (na := 1) F 13 _ (c_X3_reads hj P2 (by omega) eb) (by decide) rfl rfl lk_X3_45 rfl rfl (by decide +kernel) ⟨rfl, rfl, Nat.le_of_ble_eq_true rfl, Nat.le_of_ble_eq_true rfl, Nat.le_of_ble_eq_true rfl, Nat.le_of_ble_eq_true rfl, Nat.le_of_ble_eq_true rfl⟩ dX3_firstFault_41 (fun r_41 u_41 h_41 => ?_)
          obtain ⟨rfl, ok_41, no_41⟩ := h_41
          refine g_if_ne F 52 dX3_firstFault_44 (by decide) (fun c_44 => ?_) (fun c_44 => ?_)
          · have CC := bz_n.mp c_44
            have uu := ok_41 CC
            subst uu
            try dsimp only
            refine g_iincC (q := 1) (L' := [(1, _), (0, _)]) F 1 dX3_firstFault_52 (by decide) rfl (by decide) rfl ?_
            refine g_goto F 6 dX3_firstFault_55 (by decide) ?_
            refine g_sub [1, 0] rfl ?_
            exact ih (by omega) (pre_s hp OK CC) _ (f2.tr (FP.at_ (by decide))) up3_s _ (nx_add ej rfl)
          · have CC := bz_0.mp c_44
            have uu := no_41 CC
            subst uu
            try dsimp only
            refine g_aload_n F 0 dX3_firstFault_47 rfl rfl ?_
            refine gf_13_2 F (by decide) mFL_X3_35 dX3_firstFault_48 ?_
            refine g_iret F hr hlk rfl dX3_firstFault_51 ?_
            exact ⟨⟨j, hp, Or.inr (Or.inr ⟨OK, L, CC, by first | exact eb | assumption⟩)⟩, _, rfl, f2⟩
        · have L : pl ≤ (orT pl pad (posT pl pad j)).2 := by have := nx_ltf eb P2.1 (by omega) (by omega) c_32; exact this
          refine g_bipush (v := -6) F dX3_firstFault_35 (by decide) ?_
          refine g_iret F hr hlk rfl dX3_firstFault_37 ?_
          exact ⟨⟨j, hp, Or.inr (Or.inl ⟨OK, L, rfl⟩)⟩, _, rfl, f2⟩
      · have NO := bz_0.mp c_16
        refine g_aload_n F 0 dX3_firstFault_19 rfl rfl ?_
        refine gf_13_2 F (by decide) mFL_X3_35 dX3_firstFault_20 ?_
        refine g_iret F hr hlk rfl dX3_firstFault_23 ?_
        exact ⟨⟨j, hp, Or.inl ⟨NO, by first | exact eb | assumption⟩⟩, _, rfl, f2⟩
  refine g_aload_n F 0 dX3_firstFault_0 rfl rfl ?_
  refine g_callVv (na := 0) F 13 _ (c_X3_rewind hj) (by decide) rfl rfl lk_X3_38 rfl rfl (by decide +kernel) ⟨rfl, rfl, Nat.le_of_ble_eq_true rfl, Nat.le_of_ble_eq_true rfl, Nat.le_of_ble_eq_true rfl, Nat.le_of_ble_eq_true rfl, Nat.le_of_ble_eq_true rfl⟩ dX3_firstFault_1 (fun u_1 h_1 => ?_)
  subst h_1
  try dsimp only
  refine g_iconst (v := 0) F dX3_firstFault_4 (by decide) ?_
  refine g_istore_n (L' := [(1, _), (0, _)]) F dX3_firstFault_5 rfl (by decide) rfl ?_
  refine g_sub [1, 0] rfl ?_
  exact LOOP 0 (by decide) (fun i h => absurd h (Nat.not_lt_zero i)) _ (FP.at_ (by decide)) up3_s _ (by first | rfl | assumption)
set_option maxHeartbeats 4000000 in
set_option maxRecDepth 100000 in
theorem c_X5_put {l : Launch} {G : Gm} (hj : Aj G) {I : Ii} {pm : Pm} {x : Int64} {σ : Sg} {hn : Nat} {hist : Nat → Sg} {sv : Nat → Int32} {sl : Nat → Sg} {pl : Nat} {pad : Sg} (C : CR I pm σ hn hist sv sl pl pad) : CI l G yX5_put (wz yX5_put cX5_put 3 (some .int)) (rmL 3) [.ref (G.2.2 8 0), .long x] I pm (fun r u => ∃ q, putR pl pad x r q ∧ CR u.1 u.2 σ hn hist sv sl q.1 q.2 ∧ FC I u.1) := by
  refine CI.walk hj (by decide +kernel) (by show _ ≤ 3; exact Nat.le_of_ble_eq_true rfl) ?_
  intro p e s m args below meth c F hr hlk
  refine g_aload_n F 0 dX5_put_0 rfl rfl ?_
  refine gf_8_5 F (by decide) mFL_X5_37 dX5_put_1 ?_
  refine g_lload_n F 1 dX5_put_4 rfl rfl ?_
  refine g_callIv (na := 1) F 13 _ (c_X3_append hj C.pd) (by decide) rfl rfl lk_X5_165 rfl rfl (by decide +kernel) ⟨rfl, rfl, Nat.le_of_ble_eq_true rfl, Nat.le_of_ble_eq_true rfl, Nat.le_of_ble_eq_true rfl, Nat.le_of_ble_eq_true rfl, Nat.le_of_ble_eq_true rfl⟩ dX5_put_5 (fun r_5 u_5 h_5 => ?_)
  obtain ⟨q, hq, up, P2, f2⟩ := h_5
  refine g_iret F hr hlk rfl dX5_put_8 ?_
  exact ⟨q, hq, by rw [up]; exact C.fp f2.x P2, f2.c⟩
set_option maxHeartbeats 4000000 in
set_option maxRecDepth 100000 in
theorem c_X5_wipe {l : Launch} {G : Gm} (hj : Aj G) {I : Ii} {pm : Pm} {σ : Sg} {hn : Nat} {hist : Nat → Sg} {sv : Nat → Int32} {sl : Nat → Sg} {pl : Nat} {pad : Sg} (C : CR I pm σ hn hist sv sl pl pad) : CI l G yX5_wipe (wz yX5_wipe cX5_wipe 1 (some .int)) (rmL 1) [.ref (G.2.2 8 0)] I pm (fun r u => r = nI pl ∧ CR u.1 u.2 σ hn hist sv sl 0 pad ∧ FC I u.1) := by
  refine CI.walk hj (by decide +kernel) (by show _ ≤ 1; exact Nat.le_of_ble_eq_true rfl) ?_
  intro p e s m args below meth c F hr hlk
  refine g_aload_n F 0 dX5_wipe_0 rfl rfl ?_
  refine gf_8_5 F (by decide) mFL_X5_37 dX5_wipe_1 ?_
  refine g_callIv (na := 0) F 13 _ (c_X3_clear hj) (by decide) rfl rfl lk_X5_169 rfl rfl (by decide +kernel) ⟨rfl, rfl, Nat.le_of_ble_eq_true rfl, Nat.le_of_ble_eq_true rfl, Nat.le_of_ble_eq_true rfl, Nat.le_of_ble_eq_true rfl, Nat.le_of_ble_eq_true rfl⟩ dX5_wipe_4 (fun r_4 u_4 h_4 => ?_)
  obtain ⟨rfl, rfl⟩ := h_4
  try dsimp only
  refine g_iret F hr hlk rfl dX5_wipe_7 ?_
  exact ⟨C.pd.1, C.fp (fun K i c h _ _ => up3_k h) ⟨(show up3 I 13 0 1 0 13 0 1 = nI 0 from up3_s), by decide, fun i hi => absurd hi (Nat.not_lt_zero i)⟩, fun K i c h => up3_k (by omega)⟩
set_option maxHeartbeats 4000000 in
set_option maxRecDepth 100000 in
theorem c_X5_fault {l : Launch} {G : Gm} (hj : Aj G) {I : Ii} {pm : Pm} {σ : Sg} {hn : Nat} {hist : Nat → Sg} {sv : Nat → Int32} {sl : Nat → Sg} {pl : Nat} {pad : Sg} (C : CR I pm σ hn hist sv sl pl pad) : CI l G yX5_fault (wz yX5_fault cX5_fault 1 (some .int)) (rmL 5) [.ref (G.2.2 8 0)] I pm (fun r u => ffR pl pad r ∧ CR u.1 u.2 σ hn hist sv sl pl pad ∧ FC I u.1) := by
  refine CI.walk hj (by decide +kernel) (by show _ ≤ 1; exact Nat.le_of_ble_eq_true rfl) ?_
  intro p e s m args below meth c F hr hlk
  refine g_aload_n F 0 dX5_fault_0 rfl rfl ?_
  refine gf_8_5 F (by decide) mFL_X5_37 dX5_fault_1 ?_
  refine g_callIv (na := 0) F 13 _ (c_X3_firstFault hj C.pd) (by decide) rfl rfl lk_X5_172 rfl rfl (by decide +kernel) ⟨rfl, rfl, Nat.le_of_ble_eq_true rfl, Nat.le_of_ble_eq_true rfl, Nat.le_of_ble_eq_true rfl, Nat.le_of_ble_eq_true rfl, Nat.le_of_ble_eq_true rfl⟩ dX5_fault_4 (fun r_4 u_4 h_4 => ?_)
  obtain ⟨hf, ib, rfl, f2⟩ := h_4
  try dsimp only
  refine g_iret F hr hlk rfl dX5_fault_7 ?_
  exact ⟨hf, C.fp f2.x (C.pd.fp f2), f2.c⟩
theorem tern_bz {x y : Int32} (h : x = y) : (if x < 0 then (0 : Int32) else 1) = bz (¬ y < 0) := by
  subst h
  unfold bz
  by_cases c : x < 0
  · rw [if_pos c, if_neg (fun k => k c)]
  · rw [if_neg c, if_pos c]
theorem com_nn {n : Nat} {a d c : Int32} {σ : Sg} (h : n ≤ 8) : ¬ (comS n a d c σ).2 < 0 := by
  obtain ⟨m, hm, e⟩ := com_cnt n a d c σ
  rw [e]
  exact nneg (by omega)
theorem it_nn {n h : Nat} {σ : Sg} {j : Nat} (hj : j ≤ 99) : ¬ (itS n h σ j).2 < 0 := by
  obtain ⟨m, hm, e⟩ := it_cnt n h σ j
  rw [e]
  exact nneg (by omega)
set_option maxHeartbeats 4000000 in
set_option maxRecDepth 100000 in
theorem c_X5_carriesOne {l : Launch} {G : Gm} (hj : Aj G) {I : Ii} {pm : Pm} {σ0 : Sg} {σ : Sg} {hn : Nat} {hist : Nat → Sg} {sv : Nat → Int32} {sl : Nat → Sg} {pl : Nat} {pad : Sg} (D : DR I pm σ0 σ hn hist sv sl pl pad) {tp : Nat} (hk : I 13 0 3 = sgT pl pad tp) (hN : orN I pl pad tp) (hO : (orT pl pad tp).1 = true) : CI l G yX5_carriesOne (wz yX5_carriesOne cX5_carriesOne 2 (some .boolean)) (rmL 6) [.ref (G.2.2 8 0)] I pm (fun r u => ∃ q, exR pl pad tp σ q ∧ r = bz (¬ q.1 < 0) ∧ (q.1 < 0 → q.2 = σ) ∧ DR u.1 u.2 σ0 q.2 hn hist sv sl pl pad ∧ KT I u.1) := by
  obtain ⟨n, h, R, V⟩ := id D.1
  have hn8 := V.2.1
  have hh20 := V.2.2.2.1
  refine CI.walk hj (by decide +kernel) (by show _ ≤ 2; exact Nat.le_of_ble_eq_true rfl) ?_
  intro p e s m args below meth c F hr hlk
  refine g_iconst (v := -1) F dX5_carriesOne_0 (by decide) ?_
  refine g_istore_n (L' := [(1, _), (0, _)]) F dX5_carriesOne_1 rfl (by decide) rfl ?_
  refine g_aload_n F 1 dX5_carriesOne_2 rfl rfl ?_
  refine gf_8_5 F (by decide) mFL_X5_37 dX5_carriesOne_3 ?_
  refine gf_13_3 F (by decide) mFL_X5_192 dX5_carriesOne_6 ?_
  refine g_eqi (y := sgT pl pad tp) hk ?_
  by_cases hs_9_102 : (sgT pl pad tp) = 102
  · refine g_lookup F 93 dX5_carriesOne_9 (by decide) (by rw [hs_9_102] <;> rfl) (by decide) ?_
    have KK := hs_9_102
    have NV := hN.2.1 KK
    refine g_aload_n F 1 dX5_carriesOne_93 rfl rfl ?_
    refine gf_8_0 F (by decide) mFL_X5_12 dX5_carriesOne_94 ?_
    refine g_aload_n F 1 dX5_carriesOne_97 rfl rfl ?_
    refine gf_8_5 F (by decide) mFL_X5_37 dX5_carriesOne_98 ?_
    refine gf_13_4 F (by decide) mFL_X5_195 dX5_carriesOne_101 ?_
    refine g_iconst (v := 0) F dX5_carriesOne_104 (by decide) ?_
    refine ga_15 (j := 0) F (by decide) rfl (by omega) dX5_carriesOne_105 ?_
    refine g_eqi NV.1 ?_
    refine g_aload_n F 1 dX5_carriesOne_106 rfl rfl ?_
    refine gf_8_5 F (by decide) mFL_X5_37 dX5_carriesOne_107 ?_
    refine gf_13_4 F (by decide) mFL_X5_195 dX5_carriesOne_110 ?_
    refine g_iconst (v := 1) F dX5_carriesOne_113 (by decide) ?_
    refine ga_15 (j := 1) F (by decide) rfl (by omega) dX5_carriesOne_114 ?_
    refine g_eqi NV.2.1 ?_
    refine g_aload_n F 1 dX5_carriesOne_115 rfl rfl ?_
    refine gf_8_5 F (by decide) mFL_X5_37 dX5_carriesOne_116 ?_
    refine gf_13_4 F (by decide) mFL_X5_195 dX5_carriesOne_119 ?_
    refine g_iconst (v := 2) F dX5_carriesOne_122 (by decide) ?_
    refine ga_15 (j := 2) F (by decide) rfl (by omega) dX5_carriesOne_123 ?_
    refine g_eqi NV.2.2 ?_
    refine g_callIv (na := 3) F 0 _ (c_X1_takeFrame hj (by decide) R V) (by decide) rfl rfl lk_X5_69 rfl rfl (by decide +kernel) ⟨rfl, rfl, Nat.le_of_ble_eq_true rfl, Nat.le_of_ble_eq_true rfl, Nat.le_of_ble_eq_true rfl, Nat.le_of_ble_eq_true rfl, Nat.le_of_ble_eq_true rfl⟩ dX5_carriesOne_124 (fun r_124 u_124 h_124 => ?_)
    obtain ⟨q, hq, hrq, hs, hD, hK⟩ : ∃ q, exR pl pad tp σ q ∧ r_124 = q.1 ∧ (q.1 < 0 → q.2 = σ) ∧ DR u_124.1 u_124.2 σ0 q.2 hn hist sv sl pl pad ∧ KT I u_124.1 := by
      rcases h_124 with ⟨hb, rfl, hu⟩ | ⟨hb, rfl, Ru, Fu, up⟩
      · exact ⟨(-2, σ), Or.inr (Or.inl ⟨KK, Or.inl ⟨hb, rfl⟩⟩), rfl, fun _ => rfl, by rw [hu]; exact D, by rw [hu]; exact fun _ _ _ _ => rfl⟩
      · exact ⟨((comS n _ _ _ σ).2, (comS n _ _ _ σ).1), Or.inr (Or.inl ⟨KK, Or.inr ⟨hb, by rw [V.nofe]⟩⟩), rfl, fun h => absurd h (com_nn (by omega)), D.op Fu (rps Ru (V.com ⟨i_le.mp hb.2.1.1, i_le.mp hb.2.1.2⟩)), KT.fr Fu⟩
    refine g_topi (fun x1_127 ex1_127 => ?_)
    refine g_istore_n (L' := [(1, _), (0, _)]) F dX5_carriesOne_127 rfl (by decide) rfl ?_
    refine g_goto F 180 dX5_carriesOne_128 (by decide) ?_
    refine g_iload_n F 0 dX5_carriesOne_180 rfl rfl ?_
    refine g_tif_lt (0) (1) 189 (fun kt kf => ?_) ?_
    · refine g_if_lt F 188 dX5_carriesOne_181 (by decide) (fun q => ?_) (fun q => ?_)
      · refine g_iconst (v := 0) F dX5_carriesOne_188 (by decide) ?_
        exact kt q
      · refine g_iconst (v := 1) F dX5_carriesOne_184 (by decide) ?_
        refine g_goto F 189 dX5_carriesOne_185 (by decide) ?_
        exact kf (by first | exact q | exact not_not_intro q)
    refine g_iret F hr hlk (by split <;> rfl) dX5_carriesOne_189 ?_
    exact ⟨q, hq, tern_bz (by first | exact ex1_89.trans hrq | exact ex1_127.trans hrq | exact ex1_156.trans hrq | exact ex1_176.trans hrq), hs, hD, hK⟩
  by_cases hs_9_111 : (sgT pl pad tp) = 111
  · refine g_lookup F 52 dX5_carriesOne_9 (by decide) (by rw [hs_9_111] <;> rfl) (by decide) ?_
    have KK := hs_9_111
    have NV := hN.1 KK
    refine g_aload_n F 1 dX5_carriesOne_52 rfl rfl ?_
    refine gf_8_0 F (by decide) mFL_X5_12 dX5_carriesOne_53 ?_
    refine gf_0_1 F (by decide) mFL_X5_59 dX5_carriesOne_56 ?_
    refine g_aload_n F 1 dX5_carriesOne_59 rfl rfl ?_
    refine gf_8_5 F (by decide) mFL_X5_37 dX5_carriesOne_60 ?_
    refine gf_13_4 F (by decide) mFL_X5_195 dX5_carriesOne_63 ?_
    refine g_iconst (v := 0) F dX5_carriesOne_66 (by decide) ?_
    refine ga_15 (j := 0) F (by decide) rfl (by omega) dX5_carriesOne_67 ?_
    
    refine g_eqi NV.1 ?_
    refine g_aload_n F 1 dX5_carriesOne_68 rfl rfl ?_
    refine gf_8_5 F (by decide) mFL_X5_37 dX5_carriesOne_69 ?_
    refine gf_13_4 F (by decide) mFL_X5_195 dX5_carriesOne_72 ?_
    refine g_iconst (v := 1) F dX5_carriesOne_75 (by decide) ?_
    refine ga_15 (j := 1) F (by decide) rfl (by omega) dX5_carriesOne_76 ?_
    refine g_eqi NV.2.1 ?_
    refine g_aload_n F 1 dX5_carriesOne_77 rfl rfl ?_
    refine gf_8_5 F (by decide) mFL_X5_37 dX5_carriesOne_78 ?_
    refine gf_13_4 F (by decide) mFL_X5_195 dX5_carriesOne_81 ?_
    refine g_iconst (v := 2) F dX5_carriesOne_84 (by decide) ?_
    refine ga_15 (j := 2) F (by decide) rfl (by omega) dX5_carriesOne_85 ?_
    refine g_eqi NV.2.2 ?_
    refine g_callIv (na := 3) F 2 _ (c_X4_take hj (by decide) R) (by decide) rfl rfl lk_X5_63 rfl rfl (by decide +kernel) ⟨rfl, rfl, Nat.le_of_ble_eq_true rfl, Nat.le_of_ble_eq_true rfl, Nat.le_of_ble_eq_true rfl, Nat.le_of_ble_eq_true rfl, Nat.le_of_ble_eq_true rfl⟩ dX5_carriesOne_86 (fun r_86 u_86 h_86 => ?_)
    obtain ⟨q, hq, hrq, hs, hD, hK⟩ : ∃ q, exR pl pad tp σ q ∧ r_86 = q.1 ∧ (q.1 < 0 → q.2 = σ) ∧ DR u_86.1 u_86.2 σ0 q.2 hn hist sv sl pl pad ∧ KT I u_86.1 := by
      rcases h_86 with ⟨hb, rfl, hu⟩ | ⟨hb, h20, rfl, hu⟩ | ⟨hb, h20, rfl, Ru, up, uo⟩
      · exact ⟨(-2, σ), Or.inl ⟨KK, Or.inl ⟨hb, rfl⟩⟩, rfl, fun _ => rfl, by rw [hu]; exact D, by rw [hu]; exact fun _ _ _ _ => rfl⟩
      · exact ⟨(-4, σ), Or.inl ⟨KK, Or.inr (Or.inl ⟨hb, by rw [V.hofe]; exact h20, rfl⟩)⟩, rfl, fun _ => rfl, by rw [hu]; exact D, by rw [hu]; exact fun _ _ _ _ => rfl⟩
      · exact ⟨(nI (h + 1), ordS h _ _ _ σ), Or.inl ⟨KK, Or.inr (Or.inr ⟨hb, by rw [V.hofe]; exact h20, by rw [V.hofe]⟩)⟩, rfl, fun h => absurd h (nneg (by omega)), D.op (show Fr 0 I pm u_86.1 u_86.2 by rw [up]; exact Fr.rows uo) (by rw [up]; exact rps Ru (V.ord h20 hb)), KT.fr (show Fr 0 I pm u_86.1 u_86.2 by rw [up]; exact Fr.rows uo)⟩
    refine g_topi (fun x1_89 ex1_89 => ?_)
    refine g_istore_n (L' := [(1, _), (0, _)]) F dX5_carriesOne_89 rfl (by decide) rfl ?_
    refine g_goto F 180 dX5_carriesOne_90 (by decide) ?_
    refine g_iload_n F 0 dX5_carriesOne_180 rfl rfl ?_
    refine g_tif_lt (0) (1) 189 (fun kt kf => ?_) ?_
    · refine g_if_lt F 188 dX5_carriesOne_181 (by decide) (fun q => ?_) (fun q => ?_)
      · refine g_iconst (v := 0) F dX5_carriesOne_188 (by decide) ?_
        exact kt q
      · refine g_iconst (v := 1) F dX5_carriesOne_184 (by decide) ?_
        refine g_goto F 189 dX5_carriesOne_185 (by decide) ?_
        exact kf (by first | exact q | exact not_not_intro q)
    refine g_iret F hr hlk (by split <;> rfl) dX5_carriesOne_189 ?_
    exact ⟨q, hq, tern_bz (by first | exact ex1_89.trans hrq | exact ex1_127.trans hrq | exact ex1_156.trans hrq | exact ex1_176.trans hrq), hs, hD, hK⟩
  by_cases hs_9_115 : (sgT pl pad tp) = 115
  · refine g_lookup F 131 dX5_carriesOne_9 (by decide) (by rw [hs_9_115] <;> rfl) (by decide) ?_
    have KK := hs_9_115
    have NV := hN.2.2.1 KK
    refine g_aload_n F 1 dX5_carriesOne_131 rfl rfl ?_
    refine gf_8_0 F (by decide) mFL_X5_12 dX5_carriesOne_132 ?_
    refine g_aload_n F 1 dX5_carriesOne_135 rfl rfl ?_
    refine gf_8_5 F (by decide) mFL_X5_37 dX5_carriesOne_136 ?_
    refine gf_13_4 F (by decide) mFL_X5_195 dX5_carriesOne_139 ?_
    refine g_iconst (v := 0) F dX5_carriesOne_142 (by decide) ?_
    refine ga_15 (j := 0) F (by decide) rfl (by omega) dX5_carriesOne_143 ?_
    refine g_eqi NV.1 ?_
    refine g_aload_n F 1 dX5_carriesOne_144 rfl rfl ?_
    refine gf_8_5 F (by decide) mFL_X5_37 dX5_carriesOne_145 ?_
    refine gf_13_4 F (by decide) mFL_X5_195 dX5_carriesOne_148 ?_
    refine g_iconst (v := 1) F dX5_carriesOne_151 (by decide) ?_
    refine ga_15 (j := 1) F (by decide) rfl (by omega) dX5_carriesOne_152 ?_
    refine g_eqi NV.2 ?_
    refine g_callIv (na := 2) F 0 _ (c_X1_changeShort hj (by decide) R) (by decide) rfl rfl lk_X5_72 rfl rfl (by decide +kernel) ⟨rfl, rfl, Nat.le_of_ble_eq_true rfl, Nat.le_of_ble_eq_true rfl, Nat.le_of_ble_eq_true rfl, Nat.le_of_ble_eq_true rfl, Nat.le_of_ble_eq_true rfl⟩ dX5_carriesOne_153 (fun r_153 u_153 h_153 => ?_)
    obtain ⟨q, hq, hrq, hs, hD, hK⟩ : ∃ q, exR pl pad tp σ q ∧ r_153 = q.1 ∧ (q.1 < 0 → q.2 = σ) ∧ DR u_153.1 u_153.2 σ0 q.2 hn hist sv sl pl pad ∧ KT I u_153.1 := by
      rcases h_153 with ⟨hb, rfl, hu⟩ | ⟨hb, ht, rfl, hu⟩ | ⟨hb, ht, rfl, Ru, Fu⟩
      · exact ⟨(-1, σ), Or.inr (Or.inr (Or.inl ⟨KK, Or.inl ⟨hb, rfl⟩⟩)), rfl, fun _ => rfl, by rw [hu]; exact D, by rw [hu]; exact fun _ _ _ _ => rfl⟩
      · exact ⟨(-2, σ), Or.inr (Or.inr (Or.inl ⟨KK, Or.inr (Or.inl ⟨hb, ht, rfl⟩)⟩)), rfl, fun _ => rfl, by rw [hu]; exact D, by rw [hu]; exact fun _ _ _ _ => rfl⟩
      · exact ⟨(σ _, upd σ _ _), Or.inr (Or.inr (Or.inl ⟨KK, Or.inr (Or.inr ⟨hb, ht, rfl⟩)⟩)), rfl, fun h => absurd h (nneg_i (V.2.2.2.2.2.1 _ (by have := rng (M := 7) (m := 7) rfl hb.1 hb.2; omega)).1), D.op Fu (rps Ru (V.short (by have := rng (M := 7) (m := 7) rfl hb.1 hb.2; omega) ht)), KT.fr Fu⟩
    refine g_topi (fun x1_156 ex1_156 => ?_)
    refine g_istore_n (L' := [(1, _), (0, _)]) F dX5_carriesOne_156 rfl (by decide) rfl ?_
    refine g_goto F 180 dX5_carriesOne_157 (by decide) ?_
    refine g_iload_n F 0 dX5_carriesOne_180 rfl rfl ?_
    refine g_tif_lt (0) (1) 189 (fun kt kf => ?_) ?_
    · refine g_if_lt F 188 dX5_carriesOne_181 (by decide) (fun q => ?_) (fun q => ?_)
      · refine g_iconst (v := 0) F dX5_carriesOne_188 (by decide) ?_
        exact kt q
      · refine g_iconst (v := 1) F dX5_carriesOne_184 (by decide) ?_
        refine g_goto F 189 dX5_carriesOne_185 (by decide) ?_
        exact kf (by first | exact q | exact not_not_intro q)
    refine g_iret F hr hlk (by split <;> rfl) dX5_carriesOne_189 ?_
    exact ⟨q, hq, tern_bz (by first | exact ex1_89.trans hrq | exact ex1_127.trans hrq | exact ex1_156.trans hrq | exact ex1_176.trans hrq), hs, hD, hK⟩
  by_cases hs_9_116 : (sgT pl pad tp) = 116
  · refine g_lookup F 160 dX5_carriesOne_9 (by decide) (by rw [hs_9_116] <;> rfl) (by decide) ?_
    have KK := hs_9_116
    have NV := hN.2.2.2 KK
    refine g_aload_n F 1 dX5_carriesOne_160 rfl rfl ?_
    refine gf_8_0 F (by decide) mFL_X5_12 dX5_carriesOne_161 ?_
    refine g_aload_n F 1 dX5_carriesOne_164 rfl rfl ?_
    refine gf_8_5 F (by decide) mFL_X5_37 dX5_carriesOne_165 ?_
    refine gf_13_4 F (by decide) mFL_X5_195 dX5_carriesOne_168 ?_
    refine g_iconst (v := 0) F dX5_carriesOne_171 (by decide) ?_
    refine ga_15 (j := 0) F (by decide) rfl (by omega) dX5_carriesOne_172 ?_
    refine g_eqi NV ?_
    refine g_callIv (na := 1) F 0 _ (c_X1_takeTicks hj (by decide) R V) (by decide) rfl rfl lk_X5_76 rfl rfl (by decide +kernel) ⟨rfl, rfl, Nat.le_of_ble_eq_true rfl, Nat.le_of_ble_eq_true rfl, Nat.le_of_ble_eq_true rfl, Nat.le_of_ble_eq_true rfl, Nat.le_of_ble_eq_true rfl⟩ dX5_carriesOne_173 (fun r_173 u_173 h_173 => ?_)
    obtain ⟨q, hq, hrq, hs, hD, hK⟩ : ∃ q, exR pl pad tp σ q ∧ r_173 = q.1 ∧ (q.1 < 0 → q.2 = σ) ∧ DR u_173.1 u_173.2 σ0 q.2 hn hist sv sl pl pad ∧ KT I u_173.1 := by
      rcases h_173 with ⟨hb, rfl, hu⟩ | ⟨hb, ht, rfl, hu⟩ | ⟨hb, ht, rfl, Ru, Fu⟩
      · exact ⟨(-2, σ), Or.inr (Or.inr (Or.inr ⟨KK, Or.inl ⟨hb, rfl⟩⟩)), rfl, fun _ => rfl, by rw [hu]; exact D, by rw [hu]; exact fun _ _ _ _ => rfl⟩
      · exact ⟨(-5, σ), Or.inr (Or.inr (Or.inr ⟨KK, Or.inr (Or.inl ⟨hb, ht, rfl⟩)⟩)), rfl, fun _ => rfl, by rw [hu]; exact D, by rw [hu]; exact fun _ _ _ _ => rfl⟩
      · exact ⟨((itS n h σ _).2, (itS n h σ _).1), Or.inr (Or.inr (Or.inr ⟨KK, Or.inr (Or.inr ⟨hb, ht, by rw [V.nofe, V.hofe]⟩)⟩)), rfl, fun h => absurd h (it_nn (by have := rng (M := 99) (m := 99) rfl (Int32.le_trans (by decide) hb.1) hb.2; omega)), D.op Fu (rps Ru (V.it _)), KT.fr Fu⟩
    refine g_topi (fun x1_176 ex1_176 => ?_)
    refine g_istore_n (L' := [(1, _), (0, _)]) F dX5_carriesOne_176 rfl (by decide) rfl ?_
    refine g_goto F 180 dX5_carriesOne_177 (by decide) ?_
    refine g_iload_n F 0 dX5_carriesOne_180 rfl rfl ?_
    refine g_tif_lt (0) (1) 189 (fun kt kf => ?_) ?_
    · refine g_if_lt F 188 dX5_carriesOne_181 (by decide) (fun q => ?_) (fun q => ?_)
      · refine g_iconst (v := 0) F dX5_carriesOne_188 (by decide) ?_
        exact kt q
      · refine g_iconst (v := 1) F dX5_carriesOne_184 (by decide) ?_
        refine g_goto F 189 dX5_carriesOne_185 (by decide) ?_
        exact kf (by first | exact q | exact not_not_intro q)
    refine g_iret F hr hlk (by split <;> rfl) dX5_carriesOne_189 ?_
    exact ⟨q, hq, tern_bz (by first | exact ex1_89.trans hrq | exact ex1_127.trans hrq | exact ex1_156.trans hrq | exact ex1_176.trans hrq), hs, hD, hK⟩
  refine g_lookup (off := 171) F 180 dX5_carriesOne_9 (by decide) ((lv_osw hs_9_102 rfl).trans <| (lv_osw hs_9_111 rfl).trans <| (lv_osw hs_9_115 rfl).trans <| (lv_osw hs_9_116 rfl).trans <| rfl) (by decide) ?_
  exact absurd hO (by simp [orT, hs_9_102, hs_9_111, hs_9_115, hs_9_116])
set_option maxHeartbeats 4000000 in
set_option maxRecDepth 100000 in
theorem c_X5_carryOut {l : Launch} {G : Gm} (hj : Aj G) {I : Ii} {pm : Pm} {σ : Sg} {hn : Nat} {hist : Nat → Sg} {sv : Nat → Int32} {sl : Nat → Sg} {pl : Nat} {pad : Sg} (C : CR I pm σ hn hist sv sl pl pad) : CI l G yX5_carryOut (wz yX5_carryOut cX5_carryOut 3 (some .int)) (rmL 7) [.ref (G.2.2 8 0)] I pm (fun r u => ∃ r0, ffR pl pad r0 ∧ ((r0 ≠ -6 ∧ r = -3 ∧ CR u.1 u.2 σ hn hist sv sl pl pad) ∨ (∃ j q, wfT pl pad j ∧ caR pl pad (j + 1) 0 σ q ∧ r = nI q.1 ∧ CR u.1 u.2 q.2 (pushN hn) (pushH hn hist σ) sv sl 0 pad)) ∧ FC I u.1) := by
  refine CI.walk hj (by decide +kernel) (by show _ ≤ 3; exact Nat.le_of_ble_eq_true rfl) ?_
  intro p e s m args below meth c F hr hlk
  have h80 := C.pd.2.1
  have FIN : ∀ N, wfT pl pad N → ∀ j τ ia pa, j ≤ 80 → DR ia pa σ τ hn hist sv sl pl pad → FC I ia → caR pl pad (N + 1) 0 σ (j, τ) → ∀ xj, xj = nI j → GG p l e (rmL 7) s m args below meth c G (AA G) 3 0 0 (MQ below (va_Qi (fun (r : Int32) (u : Ii × Pm) => ∃ r0, ffR pl pad r0 ∧ ((r0 ≠ -6 ∧ r = -3 ∧ CR u.1 u.2 σ hn hist sv sl pl pad) ∨ (∃ j q, wfT pl pad j ∧ caR pl pad (j + 1) 0 σ q ∧ r = nI q.1 ∧ CR u.1 u.2 q.2 (pushN hn) (pushH hn hist σ) sv sl 0 pad)) ∧ FC I u.1) (fun (u : Ii × Pm) t => Wd G u.1 u.2 t.heap) (AA G)) args s 0 0 (AA G)) ia pa [(0, .ref (G.2.2 8 0)), (1, .int xj)] 80 [] := by
    intro N hN j τ ia pa hj80 D f hc xj ej
    refine g_aload_n F 0 dX5_carryOut_80 rfl rfl ?_
    refine gf_8_5 F (by decide) mFL_X5_37 dX5_carryOut_81 ?_
    refine g_callIv (na := 0) F 13 _ (c_X3_clear hj) (by decide) rfl rfl lk_X5_169 rfl rfl (by decide +kernel) ⟨rfl, rfl, Nat.le_of_ble_eq_true rfl, Nat.le_of_ble_eq_true rfl, Nat.le_of_ble_eq_true rfl, Nat.le_of_ble_eq_true rfl, Nat.le_of_ble_eq_true rfl⟩ dX5_carryOut_84 (fun r_84 u_84 h_84 => ?_)
    obtain ⟨rfl, rfl⟩ := h_84
    try dsimp only
    have D2 := D.fp (I' := up3 ia 13 0 1 0) (fun K i c h _ _ => up3_k h) (pl' := 0) (pad' := pad) ⟨(show up3 ia 13 0 1 0 13 0 1 = nI 0 from up3_s), by decide, fun i hi => absurd hi (Nat.not_lt_zero i)⟩
    refine g_pop F dX5_carryOut_87 rfl ?_
    refine g_aload_n F 0 dX5_carryOut_88 rfl rfl ?_
    refine gf_8_2 F (by decide) mFL_X5_22 dX5_carryOut_89 ?_
    refine g_iload_n F 1 dX5_carryOut_92 rfl rfl ?_
    refine g_callIv (na := 1) F 9 _ (c_X0_kept hj D2) (by decide) rfl rfl lk_X5_49 rfl rfl (by decide +kernel) ⟨rfl, rfl, Nat.le_of_ble_eq_true rfl, Nat.le_of_ble_eq_true rfl, Nat.le_of_ble_eq_true rfl, Nat.le_of_ble_eq_true rfl, Nat.le_of_ble_eq_true rfl⟩ dX5_carryOut_93 (fun r_93 u_93 h_93 => ?_)
    obtain ⟨rfl, hcc, f3⟩ := h_93
    refine g_iret F hr hlk rfl dX5_carryOut_96 ?_
    refine ⟨-6, wf_ff hN, Or.inr ⟨N, (j, τ), hN, hc, ej, ?_⟩, (f.tr (FC.up (by decide))).tr f3⟩
    rcases hcc with ⟨hneg, -⟩ | ⟨-, C2⟩
    · exact absurd hneg (by rw [ej]; exact nneg (by omega))
    · exact C2
  have FIN37 : ∀ N, wfT pl pad N → ∀ j τ ia pa, j ≤ 80 → DR ia pa σ τ hn hist sv sl pl pad → FC I ia → caR pl pad (N + 1) 0 σ (j, τ) → ∀ xj x2, xj = nI j → x2 = 0 → GG p l e (rmL 7) s m args below meth c G (AA G) 3 0 0 (MQ below (va_Qi (fun (r : Int32) (u : Ii × Pm) => ∃ r0, ffR pl pad r0 ∧ ((r0 ≠ -6 ∧ r = -3 ∧ CR u.1 u.2 σ hn hist sv sl pl pad) ∨ (∃ j q, wfT pl pad j ∧ caR pl pad (j + 1) 0 σ q ∧ r = nI q.1 ∧ CR u.1 u.2 q.2 (pushN hn) (pushH hn hist σ) sv sl 0 pad)) ∧ FC I u.1) (fun (u : Ii × Pm) t => Wd G u.1 u.2 t.heap) (AA G)) args s 0 0 (AA G)) ia pa [(0, .ref (G.2.2 8 0)), (1, .int xj), (2, .int x2)] 37 [] := by
    intro N hN j τ ia pa hj80 D f hc xj x2 ej e2
    refine g_iload_n F 2 dX5_carryOut_37 rfl rfl ?_
    refine g_if_eq F 80 dX5_carryOut_38 (by decide) (fun c_38 => ?_) (fun c_38 => ?_)
    · refine g_sub [0, 1] rfl ?_
      exact FIN N hN j τ ia pa hj80 D f hc xj ej
    · exact absurd e2 c_38
  have LOOP : ∀ N, wfT pl pad N → ∀ j, j ≤ N → ∀ τ ia pa, DR ia pa σ τ hn hist sv sl pl pad → FC I ia → ia 13 0 2 = nI (posT pl pad j) → (∀ y, caR pl pad (N + 1 - j) (posT pl pad j) τ y → caR pl pad (N + 1) 0 σ (y.1 + j, y.2)) → ∀ xj x2, xj = nI j → x2 = 1 → GG p l e (rmL 7) s m args below meth c G (AA G) 3 0 0 (MQ below (va_Qi (fun (r : Int32) (u : Ii × Pm) => ∃ r0, ffR pl pad r0 ∧ ((r0 ≠ -6 ∧ r = -3 ∧ CR u.1 u.2 σ hn hist sv sl pl pad) ∨ (∃ j q, wfT pl pad j ∧ caR pl pad (j + 1) 0 σ q ∧ r = nI q.1 ∧ CR u.1 u.2 q.2 (pushN hn) (pushH hn hist σ) sv sl 0 pad)) ∧ FC I u.1) (fun (u : Ii × Pm) t => Wd G u.1 u.2 t.heap) (AA G)) args s 0 0 (AA G)) ia pa [(0, .ref (G.2.2 8 0)), (1, .int xj), (2, .int x2)] 37 [] := by
    intro N hN
    have h26 := wf_26 h80 hN
    refine dn_ind ?_
    intro j hjN ih τ ia pa D f ea hc xj x2 ej e2
    have hp : preT pl pad j := fun i hi => hN.1 i (by omega)
    have hpos := pre_pos j hp
    have hor : (orT pl pad (posT pl pad j)).1 = true := by
      by_cases e : j = N
      · rw [e]; exact hN.2.1
      · exact (hN.1 j (by omega)).1
    have hlen := orT_ok hor
    refine g_iload_n F 2 dX5_carryOut_37 rfl rfl ?_
    refine g_if_eq F 80 dX5_carryOut_38 (by decide) (fun c_38 => ?_) (fun c_38 => ?_)
    · exact absurd (e2.symm.trans c_38) (by decide)
    · refine g_iload_n F 1 dX5_carryOut_41 rfl rfl ?_
      refine g_bipush (v := 80) F dX5_carryOut_42 (by decide) ?_
      refine g_icmp_ge F 80 dX5_carryOut_44 (by decide) (fun c_44 => ?_) (fun c_44 => ?_)
      · have n_44 := nx_get (a := j) (b := 80) ej rfl (by omega) (by omega) c_44
        omega
      · have n_44 := nx_gef (a := j) (b := 80) ej rfl (by omega) (by omega) c_44
        refine g_aload_n F 0 dX5_carryOut_47 rfl rfl ?_
        refine gf_8_5 F (by decide) mFL_X5_37 dX5_carryOut_48 ?_
        refine g_callIv (na := 0) F 13 _ (c_X3_readsOrder hj D.pd (by omega) ea) (by decide) rfl rfl lk_X5_178 rfl rfl (by decide +kernel) ⟨rfl, rfl, Nat.le_of_ble_eq_true rfl, Nat.le_of_ble_eq_true rfl, Nat.le_of_ble_eq_true rfl, Nat.le_of_ble_eq_true rfl, Nat.le_of_ble_eq_true rfl⟩ dX5_carryOut_51 (fun r_51 u_51 h_51 => ?_)
        obtain ⟨rfl, ib, rfl, g, eb, ek, en⟩ := h_51
        have D2 := D.fp g.x (D.pd.fp g)
        try dsimp only
        refine g_if_eq F 80 dX5_carryOut_54 (by decide) (fun c_54 => ?_) (fun c_54 => ?_)
        · exact absurd hor (bz_0.mp c_54)
        · refine g_aload_n F 0 dX5_carryOut_57 rfl rfl ?_
          refine g_callIv (na := 0) F 8 _ (c_X5_carriesOne hj D2 ek (en hor) hor) (by decide) rfl rfl lk_X5_182 rfl rfl (by decide +kernel) ⟨rfl, rfl, Nat.le_of_ble_eq_true rfl, Nat.le_of_ble_eq_true rfl, Nat.le_of_ble_eq_true rfl, Nat.le_of_ble_eq_true rfl, Nat.le_of_ble_eq_true rfl⟩ dX5_carryOut_58 (fun r_58 u_58 h_58 => ?_)
          obtain ⟨q, hq, rfl, hqs, D3, k3⟩ := h_58
          have f3 := (f.tr g.c).tr k3.fc
          have ec := (k3 13 0 2 (by decide)).trans eb
          refine g_if_eq F 80 dX5_carryOut_61 (by decide) (fun c_61 => ?_) (fun c_61 => ?_)
          · have hneg : q.1 < 0 := Decidable.not_not.mp (bz_0.mp c_61)
            refine g_sub [0, 1] rfl ?_
            have eqs := hqs hneg
            refine FIN N hN j τ _ _ (by omega) (by rw [eqs] at D3; exact D3) f3 ?_ xj ej
            have := hc (0, τ) (by rw [show N + 1 - j = (N - j) + 1 by omega]; exact ⟨q, hq, Or.inl ⟨hneg, rfl⟩⟩)
            rw [show j = 0 + j by omega]
            exact this
          · have hpos2 : ¬ q.1 < 0 := bz_n.mp c_61
            refine g_iincC (q := 1) (L' := [(1, _), (0, _), (2, _)]) F 1 dX5_carryOut_64 (by decide) rfl (by decide) rfl ?_
            refine g_aload_n F 1 dX5_carryOut_67 rfl rfl ?_
            refine gf_8_5 F (by decide) mFL_X5_37 dX5_carryOut_68 ?_
            refine g_bipush (v := 59) F dX5_carryOut_71 (by decide) ?_
            refine g_callIv (na := 1) F 13 _ (c_X3_reads hj D3.pd (by omega) ec) (by decide) rfl rfl lk_X5_185 rfl rfl (by decide +kernel) ⟨rfl, rfl, Nat.le_of_ble_eq_true rfl, Nat.le_of_ble_eq_true rfl, Nat.le_of_ble_eq_true rfl, Nat.le_of_ble_eq_true rfl, Nat.le_of_ble_eq_true rfl⟩ dX5_carryOut_73 (fun r_73 u_73 h_73 => ?_)
            obtain ⟨rfl, ok_73, no_73⟩ := h_73
            refine g_topi (fun x2_76 ex2_76 => ?_)
            refine g_istore_n (L' := [(2, _), (1, _), (0, _)]) F dX5_carryOut_76 rfl (by decide) rfl ?_
            refine g_goto F 37 dX5_carryOut_77 (by decide) ?_
            refine g_sub [2, 1, 0] rfl ?_
            by_cases CC : (chT pl pad 59 (orT pl pad (posT pl pad j)).2).1 = true
            · have uu := ok_73 CC
              have hlt := (chT_ok CC (by decide)).1
              have hjN2 : j < N := by
                by_cases e : j = N
                · have := hN.2.2
                  rw [e] at hlt
                  omega
                · omega
              rw [uu]
              refine ih hjN2 q.2 _ _ (D3.fp (FP.at_ (by decide)).x (D3.pd.fp (FP.at_ (by decide)))) (f3.tr (FC.up (by decide))) up3_s (fun y hy => ?_) _ _ (nx_add ej rfl) (by first | exact ex2_76.trans (bz_1.mpr CC) | exact bz_1.mpr CC)
              have := hc (y.1 + 1, y.2) (by rw [show N + 1 - j = (N + 1 - (j + 1)) + 1 by omega]; exact ⟨q, hq, Or.inr ⟨hpos2, y, hy, rfl⟩⟩)
              rw [show y.1 + (j + 1) = y.1 + 1 + j by omega]
              exact this
            · have uu := no_73 CC
              rw [uu]
              have hjN2 : j = N := by
                by_cases e : j = N
                · exact e
                · exact absurd (hN.1 j (by omega)).2 CC
              refine FIN37 N hN (j + 1) q.2 _ _ (by omega) D3 f3 ?_ _ _ (nx_add ej rfl) (by first | exact ex2_76.trans (bz_0.mpr CC) | exact bz_0.mpr CC)
              have := hc (1, q.2) (by rw [show N + 1 - j = 0 + 1 by omega]; exact ⟨q, hq, Or.inr ⟨hpos2, (0, q.2), rfl, rfl⟩⟩)
              rw [show j + 1 = 1 + j by omega]
              exact this
  refine g_aload_n F 0 dX5_carryOut_0 rfl rfl ?_
  refine gf_8_5 F (by decide) mFL_X5_37 dX5_carryOut_1 ?_
  refine g_callIv (na := 0) F 13 _ (c_X3_firstFault hj C.pd) (by decide) rfl rfl lk_X5_172 rfl rfl (by decide +kernel) ⟨rfl, rfl, Nat.le_of_ble_eq_true rfl, Nat.le_of_ble_eq_true rfl, Nat.le_of_ble_eq_true rfl, Nat.le_of_ble_eq_true rfl, Nat.le_of_ble_eq_true rfl⟩ dX5_carryOut_4 (fun r_4 u_4 h_4 => ?_)
  obtain ⟨hf, ib, rfl, g⟩ := h_4
  have C2 := C.fp g.x (C.pd.fp g)
  try dsimp only
  refine g_bipush (v := -6) F dX5_carryOut_7 (by decide) ?_
  refine g_icmp_eq F 15 dX5_carryOut_9 (by decide) (fun c_9 => ?_) (fun c_9 => ?_)
  · refine g_aload_n F 0 dX5_carryOut_15 rfl rfl ?_
    refine gf_8_2 F (by decide) mFL_X5_22 dX5_carryOut_16 ?_
    refine g_aload_n F 0 dX5_carryOut_19 rfl rfl ?_
    refine gf_8_0 F (by decide) mFL_X5_12 dX5_carryOut_20 ?_
    refine g_callVv (na := 1) F 9 _ (c_X0_draft hj C2) (by decide) rfl rfl lk_X5_41 rfl rfl (by decide +kernel) ⟨rfl, rfl, Nat.le_of_ble_eq_true rfl, Nat.le_of_ble_eq_true rfl, Nat.le_of_ble_eq_true rfl, Nat.le_of_ble_eq_true rfl, Nat.le_of_ble_eq_true rfl⟩ dX5_carryOut_23 (fun u_23 h_23 => ?_)
    obtain ⟨D, f2⟩ := h_23
    obtain ⟨N, hN⟩ := ff_none h80 (by rw [c_9] at hf; exact hf)
    refine g_aload_n F 0 dX5_carryOut_26 rfl rfl ?_
    refine gf_8_5 F (by decide) mFL_X5_37 dX5_carryOut_27 ?_
    refine g_callVv (na := 0) F 13 _ (c_X3_rewind hj) (by decide) rfl rfl lk_X5_175 rfl rfl (by decide +kernel) ⟨rfl, rfl, Nat.le_of_ble_eq_true rfl, Nat.le_of_ble_eq_true rfl, Nat.le_of_ble_eq_true rfl, Nat.le_of_ble_eq_true rfl, Nat.le_of_ble_eq_true rfl⟩ dX5_carryOut_30 (fun u_30 h_30 => ?_)
    subst h_30
    try dsimp only
    refine g_iconst (v := 0) F dX5_carryOut_33 (by decide) ?_
    refine g_istore_n (L' := [(1, _), (0, _)]) F dX5_carryOut_34 rfl (by decide) rfl ?_
    refine g_iconst (v := 1) F dX5_carryOut_35 (by decide) ?_
    refine g_istore_n (L' := [(2, _), (1, _), (0, _)]) F dX5_carryOut_36 rfl (by decide) rfl ?_
    refine g_sub [2, 1, 0] rfl ?_
    exact LOOP N hN 0 (Nat.zero_le _) σ _ _ (D.fp (FP.at_ (by decide)).x (D.pd.fp (FP.at_ (by decide)))) ((g.c.tr f2).tr (FC.up (by decide))) up3_s (fun y hy => hy) _ _ (by first | rfl | assumption) (by first | rfl | assumption)
  · refine g_bipush (v := -3) F dX5_carryOut_12 (by decide) ?_
    refine g_iret F hr hlk rfl dX5_carryOut_14 ?_
    exact ⟨_, hf, Or.inl ⟨c_9, rfl, C2⟩, g.c⟩
