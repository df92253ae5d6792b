/-! PART 23: long numbers: eight characters; a text's first fault -/
def xN (x : Int64) : Nat := x.toUInt64.toNat
def btN (x : Int64) (j : Nat) : Nat := (xN x >>> (8 * j)) % 256
theorem sh_amt : ∀ j, j < 64 → (nI j).toInt64.toUInt64 &&& Int64.toUInt64 63 = UInt64.ofNat j := by decide +kernel
theorem xN_sh {x : Int64} {y : Int32} {j : Nat} (e : y = nI j) (hj : j < 64) : xN (x.toUInt64 >>> (y.toInt64.toUInt64 &&& Int64.toUInt64 63)).toInt64 = xN x >>> j := by
  rw [e, sh_amt j hj]
  unfold xN
  rw [show ∀ z : UInt64, z.toInt64.toUInt64 = z from fun z => rfl, UInt64.toNat_shiftRight, UInt64.toNat_ofNat']
  congr 1
  omega
theorem low_b (x : Int64) : x.toInt32 &&& 255 = nI (xN x % 256) := by
  apply Int32.toBitVec_inj.1
  apply BitVec.eq_of_getLsbD_eq
  intro i hi
  have h255 : (255 : BitVec 32).getLsbD i = decide (i < 8) := by
    have := Nat.testBit_two_pow_sub_one 8 i
    show Nat.testBit 255 i = _
    exact this
  show (x.toInt32.toBitVec &&& (255 : BitVec 32)).getLsbD i = (BitVec.ofNat 32 (xN x % 256)).getLsbD i
  rw [BitVec.getLsbD_and, h255, BitVec.getLsbD_ofNat]
  have h1 : x.toInt32.toBitVec.getLsbD i = x.toBitVec.getLsbD i := by
    rw [Int64.toBitVec_toInt32]
    rw [BitVec.getLsbD_signExtend]
    simp [hi]
    omega
  have h2 : (xN x % 256).testBit i = (decide (i < 8) && (xN x).testBit i) := Nat.testBit_mod_two_pow (xN x) 8 i
  rw [h1, h2]
  show (x.toBitVec.toNat.testBit i && decide (i < 8)) = (decide (i < 32) && (decide (i < 8) && x.toBitVec.toNat.testBit i))
  rw [decide_eq_true hi, Bool.true_and, Bool.and_comm]
theorem low_a (x : Int64) : (x &&& 255).toInt32 = nI (xN x % 256) := by
  apply Int32.toBitVec_inj.1
  apply BitVec.eq_of_getLsbD_eq
  intro i hi
  have h255 : (255 : BitVec 64).getLsbD i = decide (i < 8) := by
    have := Nat.testBit_two_pow_sub_one 8 i
    show Nat.testBit 255 i = _
    exact this
  have h1 : (x &&& 255).toInt32.toBitVec.getLsbD i = (x.toBitVec &&& (255 : BitVec 64)).getLsbD i := by
    rw [Int64.toBitVec_toInt32]
    rw [BitVec.getLsbD_signExtend]
    simp [hi]
    omega
  have h2 : (xN x % 256).testBit i = (decide (i < 8) && (xN x).testBit i) := Nat.testBit_mod_two_pow (xN x) 8 i
  rw [h1, BitVec.getLsbD_and, h255]
  show _ = (BitVec.ofNat 32 (xN x % 256)).getLsbD i
  rw [BitVec.getLsbD_ofNat, h2]
  show (x.toBitVec.toNat.testBit i && decide (i < 8)) = (decide (i < 32) && (decide (i < 8) && x.toBitVec.toNat.testBit i))
  rw [decide_eq_true hi, Bool.true_and, Bool.and_comm]
theorem btN_lt (x : Int64) (j : Nat) : btN x j < 256 := Nat.mod_lt _ (by decide)
theorem i2c_b : ∀ m, m < 256 → ((nI m).toUInt32 % 65536).toInt32 = nI m ∧ narrow .char (.int (nI m)) = .int (nI m) := by decide +kernel
/-- how many characters the number gives -/
def okB (x : Int64) (j : Nat) : Prop := 33 ≤ btN x j ∧ btN x j ≤ 126
theorem okB_l {x : Int64} {j : Nat} (h : 33 ≤ nI (btN x j) ∧ nI (btN x j) ≤ 126) : okB x j := by
  have hb := btN_lt x j
  have h1 := i_le.mp h.1
  have h2 := i_le.mp h.2
  rw [nI_toInt (by omega)] at h1 h2
  have e1 : (33 : Int32).toInt = 33 := rfl
  have e2 : (126 : Int32).toInt = 126 := rfl
  exact ⟨by omega, by omega⟩
theorem okB_r {x : Int64} {j : Nat} (h : okB x j) : 33 ≤ nI (btN x j) ∧ nI (btN x j) ≤ 126 := by
  have hb := btN_lt x j
  obtain ⟨h1, h2⟩ := h
  have e1 : (33 : Int32).toInt = 33 := rfl
  have e2 : (126 : Int32).toInt = 126 := rfl
  exact ⟨i_le.mpr (by rw [nI_toInt (by omega)]; omega), i_le.mpr (by rw [nI_toInt (by omega)]; omega)⟩
/-- n characters, and nothing behind them -/
def chN (x : Int64) (n : Nat) : Prop := n ≤ 8 ∧ (∀ j, j < n → okB x j) ∧ ∀ j, n ≤ j → j < 8 → btN x j = 0
theorem chN_fn {x : Int64} {n m : Nat} (a : chN x n) (b : chN x m) : n = m := by
  have key : ∀ n m, chN x n → chN x m → ¬ n < m := fun n m a b h => by
    have h1 := (b.2.1 n h).1
    have h2 := a.2.2 n (Nat.le_refl _) (by have := b.1; omega)
    omega
  have := key n m a b
  have := key m n b a
  omega
def cntC (x : Int64) (r : Int32) : Prop := (∃ n, chN x n ∧ r = nI n) ∨ ((¬ ∃ n, chN x n) ∧ r = 0)
def putPd (pl n : Nat) (x : Int64) (pad : Sg) : Sg := fun i => if i < pl then pad i else nI (btN x (pl + n - 1 - i))
def putR (pl : Nat) (pad : Sg) (x : Int64) (r : Int32) (q : Nat × Sg) : Prop :=
  ((¬ ∃ n, chN x n ∧ 1 ≤ n) ∧ r = -2 ∧ q = (pl, pad)) ∨ (∃ n, chN x n ∧ 1 ≤ n ∧ ((80 < pl + n ∧ r = -4 ∧ q = (pl, pad)) ∨ (pl + n ≤ 80 ∧ r = nI (pl + n) ∧ q = (pl + n, putPd pl n x pad))))

set_option maxHeartbeats 4000000 in
set_option maxRecDepth 100000 in
theorem c_X3_codeAt {l : Launch} {G : Gm} (hj : Aj G) {I : Ii} {pm : Pm} {x : Int64} {y : Int32} {j : Nat} (ey : y = nI j) (hj8 : j < 8) : CI l G yX3_codeAt (wz yX3_codeAt cX3_codeAt 3 (some .int)) (rmL 0) [.long x, .int y] I pm (fun r u => r = nI (btN x j) ∧ u = (I, pm)) := by
  refine CI.walk hj (by decide +kernel) (by show _ ≤ 3; exact Nat.le_of_ble_eq_true rfl) ?_
  intro p e s m args below meth c F hr hlk
  refine g_lload_n F 0 dX3_codeAt_0 rfl rfl ?_
  refine g_bipush (v := 8) F dX3_codeAt_1 (by decide) ?_
  refine g_iload_n F 1 dX3_codeAt_3 rfl rfl ?_
  refine g_imul F dX3_codeAt_4 ?_
  refine g_lushr F dX3_codeAt_5 ?_
  refine g_l2i F dX3_codeAt_6 ?_
  refine g_sipush (v := 255) F dX3_codeAt_7 (by decide) ?_
  refine g_iand F dX3_codeAt_10 ?_
  refine g_iret F hr hlk rfl dX3_codeAt_11 ?_
  refine ⟨?_, rfl⟩
  rw [low_b, xN_sh (x := x) (y := 8 * y) (j := 8 * j) (nx_mul (a := 8) rfl ey) (by omega)]
  rfl
set_option maxHeartbeats 4000000 in
set_option maxRecDepth 100000 in
theorem c_X3_countOf {l : Launch} {G : Gm} (hj : Aj G) {I : Ii} {pm : Pm} {x : Int64} : CI l G yX3_countOf (wz yX3_countOf cX3_countOf 4 (some .int)) (rmL 1) [.long x] I pm (fun r u => cntC x r ∧ u = (I, pm)) := by
  refine CI.walk hj (by decide +kernel) (by show _ ≤ 4; exact Nat.le_of_ble_eq_true rfl) ?_
  intro p e s m args below meth c F hr hlk
  have LOOP2 : ∀ n, n ≤ 8 → (∀ j, j < n → okB x j) → (n < 8 → btN x n = 0) → ∀ xn, xn = nI n → ∀ j, j ≤ 8 → n ≤ j → (∀ i, n ≤ i → i < j → btN x i = 0) → ∀ xj, xj = nI j → GG p l e (rmL 1) s m args below meth c G (AA G) 4 0 0 (MQ below (va_Qi (fun (r : Int32) (u : Ii × Pm) => cntC x r ∧ u = (I, pm)) (fun (u : Ii × Pm) t => Wd G u.1 u.2 t.heap) (AA G)) args s 0 0 (AA G)) I pm [(0, .long x), (2, .int xn), (3, .int xj)] 41 [] := by
    intro n hn8 hok hz0 xn en
    refine dn_ind ?_
    intro j hj8 ih hnj hz xj ej
    refine g_iload_n F 2 dX3_countOf_41 rfl rfl ?_
    refine g_bipush (v := 8) F dX3_countOf_42 (by decide) ?_
    refine g_icmp_ge F 63 dX3_countOf_44 (by decide) (fun c_44 => ?_) (fun c_44 => ?_)
    · have n_44 := nx_get (a := j) (b := 8) ej rfl (by omega) (by omega) c_44
      have JJ : j = 8 := by omega
      refine g_iload_n F 1 dX3_countOf_63 rfl rfl ?_
      refine g_iret F hr hlk rfl dX3_countOf_64 ?_
      exact ⟨Or.inl ⟨n, ⟨hn8, hok, fun i h1 h2 => hz i h1 (by omega)⟩, en⟩, rfl⟩
    · have n_44 := nx_gef (a := j) (b := 8) ej rfl (by omega) (by omega) c_44
      refine g_lload_n F 0 dX3_countOf_47 rfl rfl ?_
      refine g_iload_n F 2 dX3_countOf_48 rfl rfl ?_
      refine g_callIs (na := 2) F (c_X3_codeAt hj ej (by omega)) lk_X3_27 rfl rfl (by decide +kernel) ⟨rfl, rfl, Nat.le_of_ble_eq_true rfl, Nat.le_of_ble_eq_true rfl, Nat.le_of_ble_eq_true rfl, Nat.le_of_ble_eq_true rfl, Nat.le_of_ble_eq_true rfl⟩ dX3_countOf_49 (fun r_49 u_49 h_49 => ?_)
      obtain ⟨rfl, rfl⟩ := h_49
      try dsimp only
      refine g_if_eq F 57 dX3_countOf_52 (by decide) (fun c_52 => ?_) (fun c_52 => ?_)
      · have Z : btN x j = 0 := by have q : nI (btN x j) = nI 0 := c_52; exact (nI_eq (by have := btN_lt x j; omega) (by decide)).mp q
        refine g_iincC (q := 1) (L' := [(3, _), (0, _), (2, _)]) F 2 dX3_countOf_57 (by decide) rfl (by decide) rfl ?_
        refine g_goto F 41 dX3_countOf_60 (by decide) ?_
        refine g_sub [1, 2, 0] rfl ?_
        exact ih (by omega) (by omega) (fun i h1 h2 => by
          by_cases q : i = j
          · rw [q]; exact Z
          · exact hz i h1 (by omega)) _ (nx_add ej rfl)
      · have Z : ¬ btN x j = 0 := fun q => c_52 (by rw [q]; rfl)
        refine g_iconst (v := 0) F dX3_countOf_55 (by decide) ?_
        refine g_iret F hr hlk rfl dX3_countOf_56 ?_
        refine ⟨Or.inr ⟨fun ⟨m, hm⟩ => ?_, rfl⟩, rfl⟩
        by_cases q : j < m
        · by_cases q2 : n < m
          · have h1 := (hm.2.1 n q2).1
            by_cases q3 : n = j
            · exact Z (q3 ▸ hz0 (by omega))
            · have := hz n (Nat.le_refl _) (by omega)
              omega
          · omega
        · exact Z (hm.2.2 j (by omega) (by omega))
  have LOOP : ∀ j, j ≤ 8 → (∀ i, i < j → okB x i) → ∀ xj, xj = nI j → GG p l e (rmL 1) s m args below meth c G (AA G) 4 0 0 (MQ below (va_Qi (fun (r : Int32) (u : Ii × Pm) => cntC x r ∧ u = (I, pm)) (fun (u : Ii × Pm) t => Wd G u.1 u.2 t.heap) (AA G)) args s 0 0 (AA G)) I pm [(0, .long x), (2, .int xj)] 2 [] := by
    refine dn_ind ?_
    intro j hj8 ih hok xj ej
    refine g_iload_n F 1 dX3_countOf_2 rfl rfl ?_
    refine g_bipush (v := 8) F dX3_countOf_3 (by decide) ?_
    refine g_icmp_ge F 39 dX3_countOf_5 (by decide) (fun c_5 => ?_) (fun c_5 => ?_)
    · have n_5 := nx_get (a := j) (b := 8) ej rfl (by omega) (by omega) c_5
      refine g_iload_n F 1 dX3_countOf_39 rfl rfl ?_
      refine g_istore_n (L' := [(3, _), (0, _), (2, _)]) F dX3_countOf_40 rfl (by decide) rfl ?_
      refine g_sub [1, 2, 0] rfl ?_
      exact LOOP2 j (by omega) hok (by first | exact fun _ => Z0 | exact fun h => absurd h (by omega)) _ (by assumption) j (by omega) (Nat.le_refl _) (fun i h1 h2 => absurd h1 (by omega)) _ (by first | assumption | exact ex3_40.trans (by assumption))
    · have n_5 := nx_gef (a := j) (b := 8) ej rfl (by omega) (by omega) c_5
      refine g_lload_n F 0 dX3_countOf_8 rfl rfl ?_
      refine g_iload_n F 1 dX3_countOf_9 rfl rfl ?_
      refine g_callIs (na := 2) F (c_X3_codeAt hj ej (by omega)) lk_X3_27 rfl rfl (by decide +kernel) ⟨rfl, rfl, Nat.le_of_ble_eq_true rfl, Nat.le_of_ble_eq_true rfl, Nat.le_of_ble_eq_true rfl, Nat.le_of_ble_eq_true rfl, Nat.le_of_ble_eq_true rfl⟩ dX3_countOf_10 (fun r_10 u_10 h_10 => ?_)
      obtain ⟨rfl, rfl⟩ := h_10
      try dsimp only
      refine g_if_eq F 39 dX3_countOf_13 (by decide) (fun c_13 => ?_) (fun c_13 => ?_)
      · have Z0 : btN x j = 0 := by have q : nI (btN x j) = nI 0 := c_13; exact (nI_eq (by have := btN_lt x j; omega) (by decide)).mp q
        refine g_iload_n F 1 dX3_countOf_39 rfl rfl ?_
        refine g_istore_n (L' := [(3, _), (0, _), (2, _)]) F dX3_countOf_40 rfl (by decide) rfl ?_
        refine g_sub [1, 2, 0] rfl ?_
        exact LOOP2 j (by omega) hok (by first | exact fun _ => Z0 | exact fun h => absurd h (by omega)) _ (by assumption) j (by omega) (Nat.le_refl _) (fun i h1 h2 => absurd h1 (by omega)) _ (by first | assumption | exact ex3_40.trans (by assumption))
      · have Z : ¬ btN x j = 0 := fun q => c_13 (by rw [q]; rfl)
        refine g_lload_n F 0 dX3_countOf_16 rfl rfl ?_
        refine g_iload_n F 1 dX3_countOf_17 rfl rfl ?_
        refine g_callIs (na := 2) F (c_X3_codeAt hj ej (by omega)) lk_X3_27 rfl rfl (by decide +kernel) ⟨rfl, rfl, Nat.le_of_ble_eq_true rfl, Nat.le_of_ble_eq_true rfl, Nat.le_of_ble_eq_true rfl, Nat.le_of_ble_eq_true rfl, Nat.le_of_ble_eq_true rfl⟩ dX3_countOf_18 (fun r_18 u_18 h_18 => ?_)
        obtain ⟨rfl, rfl⟩ := h_18
        try dsimp only
        refine g_bipush (v := 33) F dX3_countOf_21 (by decide) ?_
        refine g_bipush (v := 126) F dX3_countOf_23 (by decide) ?_
        refine g_callIn (na := 3) F (c_X5_within hj) (gw mCO_yX5_within) F.2.2.1.2.2.2.2 mST_yX5_within mIN_RX5 rfl rfl (by decide +kernel) ⟨rfl, rfl, Nat.le_of_ble_eq_true rfl, Nat.le_of_ble_eq_true rfl, Nat.le_of_ble_eq_true rfl, Nat.le_of_ble_eq_true rfl, Nat.le_of_ble_eq_true rfl⟩ dX3_countOf_25 (fun r_25 u_25 h_25 => ?_)
        obtain ⟨rfl, rfl⟩ := h_25
        try dsimp only
        refine g_if_ne F 33 dX3_countOf_28 (by decide) (fun c_28 => ?_) (fun c_28 => ?_)
        · have OK : okB x j := okB_l (bz_n.mp c_28)
          refine g_iincC (q := 1) (L' := [(2, _), (0, _)]) F 1 dX3_countOf_33 (by decide) rfl (by decide) rfl ?_
          refine g_goto F 2 dX3_countOf_36 (by decide) ?_
          refine g_sub [1, 0] rfl ?_
          exact ih (by omega) (fun i h1 => by
            by_cases q : i = j
            · rw [q]; exact OK
            · exact hok i (by omega)) _ (nx_add ej rfl)
        · have NO : ¬ okB x j := fun q => bz_0.mp c_28 (okB_r q)
          refine g_iconst (v := 0) F dX3_countOf_31 (by decide) ?_
          refine g_iret F hr hlk rfl dX3_countOf_32 ?_
          refine ⟨Or.inr ⟨fun ⟨m, hm⟩ => ?_, rfl⟩, rfl⟩
          by_cases q : j < m
          · exact NO (hm.2.1 j q)
          · exact Z (hm.2.2 j (by omega) (by omega))
  refine g_iconst (v := 0) F dX3_countOf_0 (by decide) ?_
  refine g_istore_n (L' := [(2, _), (0, _)]) F dX3_countOf_1 rfl (by decide) rfl ?_
  refine g_sub [1, 0] rfl ?_
  exact LOOP 0 (by decide) (fun i h => absurd h (Nat.not_lt_zero i)) _ (by first | rfl | assumption)
theorem cntC_ {x : Int64} {r : Int32} (h : cntC x r) : ∃ n, r = nI n ∧ n ≤ 8 ∧ (1 ≤ n → chN x n) ∧ (n < 1 → ¬ ∃ n, chN x n ∧ 1 ≤ n) := by
  rcases h with ⟨n, hn, e⟩ | ⟨hn, e⟩
  · exact ⟨n, e, hn.1, fun _ => hn, fun h0 ⟨m, hm, h1⟩ => by have := chN_fn hn hm; omega⟩
  · exact ⟨0, e, by decide, fun h => absurd h (by decide), fun _ ⟨m, hm, _⟩ => hn ⟨m, hm⟩⟩
def ptI (I : Ii) (pl n : Nat) (x : Int64) (j : Nat) : Ii := fun K i c => if K = 14 ∧ i = 0 ∧ pl + n - j ≤ c ∧ c < pl + n then nI (btN x (pl + n - 1 - c)) else I K i c
theorem ptI_0 {I : Ii} {pl n : Nat} {x : Int64} : ptI I pl n x 0 = I := by
  funext K i c
  unfold ptI
  rw [if_neg (by omega)]
theorem ptI_s {I : Ii} {pl n : Nat} {x : Int64} {j : Nat} (h : j < n) : up3 (ptI I pl n x j) 14 0 (pl + n - 1 - j) (nI (btN x j)) = ptI I pl n x (j + 1) := by
  funext K i c
  by_cases z : K = 14 ∧ i = 0 ∧ c = pl + n - 1 - j
  · obtain ⟨rfl, rfl, rfl⟩ := z
    rw [up3_s]
    unfold ptI
    rw [if_pos (by omega), show pl + n - 1 - (pl + n - 1 - j) = j by omega]
  · rw [up3_n z]
    unfold ptI
    by_cases q : K = 14 ∧ i = 0 ∧ pl + n - j ≤ c ∧ c < pl + n
    · rw [if_pos q, if_pos (by omega)]
    · rw [if_neg q, if_neg (by omega)]
theorem ptI_k {I : Ii} {pl n : Nat} {x : Int64} {j K i c : Nat} (h : K ≠ 14) : ptI I pl n x j K i c = I K i c := by
  unfold ptI
  rw [if_neg (fun q => h q.1)]
/-- nothing but the text and its length changed -/
def FT (I I' : Ii) : Prop := ∀ K i c, ¬ (K = 13 ∧ c = 1) → K ≠ 14 → I' K i c = I K i c
set_option maxHeartbeats 4000000 in
set_option maxRecDepth 100000 in
theorem c_X3_append {l : Launch} {G : Gm} (hj : Aj G) {I : Ii} {pm : Pm} {pl : Nat} {pad : Sg} (P : PD I pl pad) {x : Int64} : CI l G yX3_append (wz yX3_append cX3_append 5 (some .int)) (rmL 2) [.ref (G.2.2 13 0), .long x] I pm (fun r u => ∃ q, putR pl pad x r q ∧ u.2 = pm ∧ PD u.1 q.1 q.2 ∧ FT I u.1) := by
  refine CI.walk hj (by decide +kernel) (by show _ ≤ 5; exact Nat.le_of_ble_eq_true rfl) ?_
  intro p e s m args below meth c F hr hlk
  have h80 := P.2.1
  have LOOP : ∀ n0, chN x n0 → 1 ≤ n0 → pl + n0 ≤ 80 → ∀ xn, xn = nI n0 → ∀ j, j ≤ n0 → ∀ xj, xj = nI j → GG p l e (rmL 2) s m args below meth c G (AA G) 5 0 0 (MQ below (va_Qi (fun (r : Int32) (u : Ii × Pm) => ∃ q, putR pl pad x r q ∧ u.2 = pm ∧ PD u.1 q.1 q.2 ∧ FT I u.1) (fun (u : Ii × Pm) t => Wd G u.1 u.2 t.heap) (AA G)) args s 0 0 (AA G)) (ptI I pl n0 x j) pm [(0, .ref (G.2.2 13 0)), (1, .long x), (3, .int xn), (4, .int xj)] 30 [] := by
    intro n0 hc h1 h8 xn en
    have hn8 := hc.1
    refine dn_ind ?_
    intro j hjl ih xj ej
    have PL : ptI I pl n0 x j 13 0 1 = nI pl := (ptI_k (by decide)).trans P.1
    refine g_iload F 3 dX3_append_30 rfl ?_
    refine g_iload_n F 2 dX3_append_32 rfl rfl ?_
    refine g_icmp_ge F 65 dX3_append_33 (by decide) (fun c_33 => ?_) (fun c_33 => ?_)
    · have n_33 := nx_get (a := j) (b := n0) ej en (by omega) (by omega) c_33
      refine g_aload_n F 0 dX3_append_65 rfl rfl ?_
      refine g_dup F dX3_append_66 rfl ?_
      refine gf_13_1 F (by decide) mFL_X3_23 dX3_append_67 ?_
      refine g_iload_n F 2 dX3_append_70 rfl rfl ?_
      refine g_iadd F dX3_append_71 ?_
      refine gp_13_1 F (by decide) mFL_X3_23 dX3_append_72 ?_
      refine g_aload_n F 0 dX3_append_75 rfl rfl ?_
      refine gf_13_1 F (by decide) mFL_X3_23 dX3_append_76 ?_
      refine g_iret F hr hlk rfl dX3_append_79 ?_
      have JJ : j = n0 := by omega
      subst JJ
      refine ⟨(pl + j, putPd pl j x pad), Or.inr ⟨j, hc, h1, Or.inr ⟨h8, ?_, rfl⟩⟩, rfl, ⟨?_, h8, fun i hi => ?_⟩, fun K i cc h h' => ?_⟩
      · rw [up3_s, PL, en]; exact nI_add pl j
      · dsimp only
        rw [up3_s, PL, en]; exact nI_add pl j
      · dsimp only
        rw [up3_k (by decide)]
        unfold ptI putPd
        by_cases q : i < pl
        · rw [if_neg (by omega), if_pos q]; exact P.2.2 i q
        · have hi2 : i < pl + j := hi
          rw [if_pos (by omega), if_neg q]
      · dsimp only
        rw [up3_n (by omega), ptI_k h']
    · have n_33 := nx_gef (a := j) (b := n0) ej en (by omega) (by omega) c_33
      refine g_aload_n F 0 dX3_append_36 rfl rfl ?_
      refine gf_13_0 F (by decide) mFL_X3_9 dX3_append_37 ?_
      refine g_aload_n F 0 dX3_append_40 rfl rfl ?_
      refine gf_13_1 F (by decide) mFL_X3_23 dX3_append_41 ?_
      refine g_iload_n F 2 dX3_append_44 rfl rfl ?_
      refine g_iadd F dX3_append_45 ?_
      refine g_iconst (v := 1) F dX3_append_46 (by decide) ?_
      refine g_isub F dX3_append_47 ?_
      refine g_iload F 3 dX3_append_48 rfl ?_
      refine g_isub F dX3_append_50 ?_
      refine g_lload_n F 1 dX3_append_51 rfl rfl ?_
      refine g_iload F 3 dX3_append_52 rfl ?_
      refine g_callIs (na := 2) F (c_X3_codeAt hj ej (by omega)) lk_X3_27 rfl rfl (by decide +kernel) ⟨rfl, rfl, Nat.le_of_ble_eq_true rfl, Nat.le_of_ble_eq_true rfl, Nat.le_of_ble_eq_true rfl, Nat.le_of_ble_eq_true rfl, Nat.le_of_ble_eq_true rfl⟩ dX3_append_54 (fun r_54 u_54 h_54 => ?_)
      obtain ⟨rfl, rfl⟩ := h_54
      try dsimp only
      refine g_i2c F dX3_append_57 ?_
      refine g_eqi (y := nI (btN x j)) (i2c_b _ (btN_lt x j)).1 ?_
      refine gs_14 (j := (((pl + n0) - 1) - j)) F (by decide) (nx_sub (nx_sub (nx_add PL en) rfl (by omega)) ej (by omega)) (by omega) (i2c_b _ (btN_lt x j)).2 dX3_append_58 ?_
      refine g_iincC (q := 1) (L' := [(4, _), (0, _), (1, _), (3, _)]) F 3 dX3_append_59 (by decide) rfl (by decide) rfl ?_
      refine g_goto F 30 dX3_append_62 (by decide) ?_
      refine g_sub [1, 2, 3, 0] rfl ?_
      refine g_I (I' := ptI I pl n0 x (j + 1)) (ptI_s (by omega)) ?_
      exact ih (by omega) _ (nx_add ej rfl)
  refine g_lload_n F 1 dX3_append_0 rfl rfl ?_
  refine g_callIs (na := 1) F (c_X3_countOf hj) lk_X3_19 rfl rfl (by decide +kernel) ⟨rfl, rfl, Nat.le_of_ble_eq_true rfl, Nat.le_of_ble_eq_true rfl, Nat.le_of_ble_eq_true rfl, Nat.le_of_ble_eq_true rfl, Nat.le_of_ble_eq_true rfl⟩ dX3_append_1 (fun r_1 u_1 h_1 => ?_)
  obtain ⟨hc0, rfl⟩ := h_1
  obtain ⟨n0, en0, h08, hp0, hz0⟩ := cntC_ hc0
  try dsimp only
  refine g_topi (fun x3_4 ex3_4 => ?_)
  refine g_istore_n (L' := [(3, _), (0, _), (1, _)]) F dX3_append_4 rfl (by decide) rfl ?_
  refine g_iload_n F 0 dX3_append_5 rfl rfl ?_
  refine g_iconst (v := 1) F dX3_append_6 (by decide) ?_
  refine g_icmp_ge F 13 dX3_append_7 (by decide) (fun c_7 => ?_) (fun c_7 => ?_)
  · have n_7 := nx_get (a := n0) (b := 1) (ex3_4.trans en0) rfl (by omega) (by omega) c_7
    refine g_aload_n F 1 dX3_append_13 rfl rfl ?_
    refine gf_13_1 F (by decide) mFL_X3_23 dX3_append_14 ?_
    refine g_iload_n F 0 dX3_append_17 rfl rfl ?_
    refine g_iadd F dX3_append_18 ?_
    refine g_bipush (v := 80) F dX3_append_19 (by decide) ?_
    refine g_icmp_le F 27 dX3_append_21 (by decide) (fun c_21 => ?_) (fun c_21 => ?_)
    · have n_21 := nx_let (a := (pl + n0)) (b := 80) (nx_add P.1 (ex3_4.trans en0)) rfl (by omega) (by omega) c_21
      refine g_iconst (v := 0) F dX3_append_27 (by decide) ?_
      refine g_istore (L' := [(4, _), (3, _), (0, _), (1, _)]) F dX3_append_28 (by decide) rfl ?_
      refine g_sub [2, 3, 1, 0] rfl ?_
      refine g_I (I' := ptI I pl n0 x 0) ptI_0.symm ?_
      exact LOOP n0 (hp0 (by omega)) (by omega) (by omega) _ (by first | assumption | exact (ex3_4.trans en0)) 0 (Nat.zero_le _) _ (by first | rfl | assumption)
    · have n_21 := nx_lef (a := (pl + n0)) (b := 80) (nx_add P.1 (ex3_4.trans en0)) rfl (by omega) (by omega) c_21
      refine g_bipush (v := -4) F dX3_append_24 (by decide) ?_
      refine g_iret F hr hlk rfl dX3_append_26 ?_
      exact ⟨(pl, pad), Or.inr ⟨n0, hp0 (by omega), by omega, Or.inl ⟨by omega, rfl, rfl⟩⟩, rfl, P, fun _ _ _ _ _ => rfl⟩
  · have n_7 := nx_gef (a := n0) (b := 1) (ex3_4.trans en0) rfl (by omega) (by omega) c_7
    refine g_bipush (v := -2) F dX3_append_10 (by decide) ?_
    refine g_iret F hr hlk rfl dX3_append_12 ?_
    exact ⟨(pl, pad), Or.inl ⟨hz0 (by omega), rfl, rfl⟩, rfl, P, fun _ _ _ _ _ => rfl⟩
