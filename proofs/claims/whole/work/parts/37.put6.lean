/-! PART 37: the reference: characters come to its pad -/
theorem lg_z {x y : Int64} : lg_cmp x y = 0 ↔ x = y := by
  unfold lg_cmp
  constructor
  · intro h
    by_cases c : x > y
    · rw [if_pos c] at h
      exact absurd h (by decide)
    · rw [if_neg c] at h
      by_cases d : x = y
      · exact d
      · rw [if_neg d] at h
        exact absurd h (by decide)
  · intro h
    subst h
    rw [if_neg (Int64.lt_irrefl), if_pos rfl]
theorem xN_inj {x y : Int64} (h : xN x = xN y) : x = y := by
  apply Int64.toBitVec_inj.1
  apply BitVec.eq_of_toNat_eq
  exact h
theorem xN_and (x : Int64) : xN (x &&& 255) = xN x % 256 := by
  have h : xN (x &&& 255) = xN x &&& 255 := by
    show (x &&& 255).toBitVec.toNat = x.toBitVec.toNat &&& 255
    rw [show (x &&& 255).toBitVec = x.toBitVec &&& (255 : Int64).toBitVec from rfl, BitVec.toNat_and]
    rfl
  rw [h]
  exact Nat.and_two_pow_sub_one_eq_mod (xN x) 8
theorem xN_0 {x : Int64} : x = 0 ↔ xN x = 0 := ⟨fun h => by rw [h]; rfl, fun h => xN_inj (h.trans rfl)⟩
theorem xN_lt (x : Int64) : xN x < 2 ^ 64 := x.toBitVec.isLt
theorem bt_z {x : Int64} {n : Nat} (h : xN x >>> (8 * n) = 0) {j : Nat} (hj : n ≤ j) : btN x j = 0 := by
  unfold btN
  rw [show 8 * j = 8 * n + 8 * (j - n) by omega, Nat.shiftRight_add, h, Nat.zero_shiftRight]
theorem sh_z {x : Int64} : ∀ d n, n + d = 8 → (∀ j, n ≤ j → j < 8 → btN x j = 0) → xN x >>> (8 * n) = 0 := by
  intro d
  induction d with
  | zero =>
    intro n hn _
    rw [show 8 * n = 64 by omega, Nat.shiftRight_eq_div_pow]
    exact Nat.div_eq_of_lt (xN_lt x)
  | succ d ih =>
    intro n hn hz
    have h1 := ih (n + 1) (by omega) (fun j a b => hz j (by omega) b)
    have h2 := hz n (Nat.le_refl _) (by omega)
    unfold btN at h2
    rw [show 8 * (n + 1) = 8 * n + 8 by omega, Nat.shiftRight_add] at h1
    rw [Nat.shiftRight_eq_div_pow (xN x >>> (8 * n)) 8] at h1
    have e : (2 : Nat) ^ 8 = 256 := rfl
    rw [e] at h1
    omega
def MP (I : Ii) (pl : Nat) (pad : Sg) : Prop := I 16 0 8 = nI pl ∧ pl ≤ 80 ∧ ∀ i, i < pl → I 22 0 i = pad i
def FT6 (I I' : Ii) : Prop := ∀ K i c, ¬ (K = 16 ∧ (c = 0 ∨ c = 8)) → K ≠ 22 → I' K i c = I K i c
def pdJ (I : Ii) (pl n : Nat) (x : Int64) (j : Nat) : Ii := fun K i c => if K = 22 ∧ i = 0 ∧ pl ≤ c ∧ c < pl + j then nI (btN x (pl + n - 1 - c)) else I K i c
theorem pdJ_0 {I : Ii} {pl n : Nat} {x : Int64} : pdJ I pl n x 0 = I := by
  funext K i c
  unfold pdJ
  rw [if_neg (by omega)]
theorem pdJ_s {I : Ii} {pl n : Nat} {x : Int64} {j : Nat} : up3 (pdJ I pl n x j) 22 0 (pl + j) (nI (btN x (n - 1 - j))) = pdJ I pl n x (j + 1) := by
  funext K i c
  by_cases z : K = 22 ∧ i = 0 ∧ c = pl + j
  · obtain ⟨rfl, rfl, rfl⟩ := z
    rw [up3_s]
    unfold pdJ
    rw [if_pos (by omega), show pl + n - 1 - (pl + j) = n - 1 - j by omega]
  · rw [up3_n z]
    unfold pdJ
    by_cases q : K = 22 ∧ i = 0 ∧ pl ≤ c ∧ c < pl + j
    · rw [if_pos q, if_pos (by omega)]
    · rw [if_neg q, if_neg (by omega)]
theorem pdJ_k {I : Ii} {pl n : Nat} {x : Int64} {j K i c : Nat} (h : K ≠ 22) : pdJ I pl n x j K i c = I K i c := by
  unfold pdJ
  rw [if_neg (fun q => h q.1)]
theorem MP.thr {I : Ii} {pl : Nat} {pad : Sg} {v : Int32} (P : MP I pl pad) : MP (up3 I 16 0 0 v) pl pad := ⟨(up3_n (by decide)).trans P.1, P.2.1, fun i hi => (up3_k (by decide)).trans (P.2.2 i hi)⟩
theorem FT6.thr {I : Ii} {v : Int32} : FT6 I (up3 I 16 0 0 v) := fun K i c h _ => up3_n (fun e => h ⟨e.1, Or.inl e.2.2⟩)

set_option maxHeartbeats 4000000 in
set_option maxRecDepth 100000 in
theorem c_X6_put {l : Launch} {G : Gm} (hj : Aj G) {I : Ii} {pm : Pm} {σ : Sg} {pl : Nat} {pad : Sg} (P : MP I pl pad) {x : Int64} : CI l G yX6_put (wz yX6_put cX6_put 8 (some .int)) (rmL 1) [.ref (G.2.2 16 0), .long x] (upR I 17 0 σ) pm (fun r u => ∃ q ia, putR pl pad x r q ∧ u = (upR ia 17 0 σ, pm) ∧ MP ia q.1 q.2 ∧ FT6 I ia) := by
  refine CI.walk hj (by decide +kernel) (by show _ ≤ 8; exact Nat.le_of_ble_eq_true rfl) ?_
  intro p e s m args below meth c F hr hlk
  have h80 := P.2.1
  have LOOP2 : ∀ n0, chN x n0 → 1 ≤ n0 → pl + n0 ≤ 80 → ∀ xn, xn = nI n0 → ∀ rest z, ∀ j, j ≤ n0 → ∀ xj, xj = nI j → GG p l e (rmL 1) s m args below meth c G (AA G) 8 0 0 (MQ below (va_Qi (fun (r : Int32) (u : Ii × Pm) => ∃ q ia, putR pl pad x r q ∧ u = (upR ia 17 0 σ, pm) ∧ MP ia q.1 q.2 ∧ FT6 I ia) (fun (u : Ii × Pm) t => Wd G u.1 u.2 t.heap) (AA G)) args s 0 0 (AA G)) (upR (pdJ (up3 I 16 0 0 0) pl n0 x j) 17 0 σ) pm [(0, .ref (G.2.2 16 0)), (1, .long x), (3, .int xn), (4, .long rest), (6, .int z), (7, .int xj)] 108 [] := by
    intro n0 hc h1 h8 xn en rest z
    have hn8 := hc.1
    refine dn_ind ?_
    intro j hjl ih xj ej
    have PL : pdJ (up3 I 16 0 0 0) pl n0 x j 16 0 8 = nI pl := (pdJ_k (by decide)).trans P.thr.1
    refine g_iload F 5 dX6_put_108 rfl ?_
    refine g_iload_n F 2 dX6_put_110 rfl rfl ?_
    refine g_icmp_ge F 148 dX6_put_111 (by decide) (fun c_111 => ?_) (fun c_111 => ?_)
    · have n_111 := nx_get (a := j) (b := n0) ej en (by omega) (by omega) c_111
      refine g_aload_n F 0 dX6_put_148 rfl rfl ?_
      refine g_dup F dX6_put_149 rfl ?_
      refine gf_16_8 F (by decide) mFL_X6_121 dX6_put_150 ?_
      refine g_eqi (rd16 (by decide)) ?_
      refine g_iload_n F 2 dX6_put_153 rfl rfl ?_
      refine g_iadd F dX6_put_154 ?_
      refine gp_16_8 F (by decide) mFL_X6_121 dX6_put_155 ?_
      refine g_I (wr16 (by decide)) ?_
      refine g_aload_n F 0 dX6_put_158 rfl rfl ?_
      refine gf_16_8 F (by decide) mFL_X6_121 dX6_put_159 ?_
      refine g_eqi (rd16 (by decide)) ?_
      refine g_iret F hr hlk rfl dX6_put_162 ?_
      have JJ : j = n0 := by omega
      subst JJ
      refine ⟨(pl + j, putPd pl j x pad), _, Or.inr ⟨j, hc, h1, Or.inr ⟨h8, ?_, rfl⟩⟩, rfl, ⟨?_, h8, fun i hi => ?_⟩, fun K i cc h h' => ?_⟩
      · rw [up3_s, PL, en]; exact nI_add pl j
      · dsimp only
        rw [up3_s, PL, en]; exact nI_add pl j
      · dsimp only
        rw [up3_k (by decide)]
        have hi2 : i < pl + j := hi
        unfold pdJ putPd
        by_cases q : i < pl
        · rw [if_neg (by omega), if_pos q]; exact P.thr.2.2 i q
        · rw [if_pos (by omega), if_neg q]
      · rw [up3_n (fun e => h ⟨e.1, Or.inr e.2.2⟩), pdJ_k h']
        exact FT6.thr K i cc h h'
    · have n_111 := nx_gef (a := j) (b := n0) ej en (by omega) (by omega) c_111
      refine g_aload_n F 0 dX6_put_114 rfl rfl ?_
      refine gf_16_7 F (by decide) mFL_X6_26 dX6_put_115 ?_
      refine g_aload_n F 0 dX6_put_118 rfl rfl ?_
      refine gf_16_8 F (by decide) mFL_X6_121 dX6_put_119 ?_
      refine g_eqi (rd16 (by decide)) ?_
      refine g_iload F 5 dX6_put_122 rfl ?_
      refine g_iadd F dX6_put_124 ?_
      refine g_lload_n F 1 dX6_put_125 rfl rfl ?_
      refine g_bipush (v := 8) F dX6_put_126 (by decide) ?_
      refine g_iload_n F 2 dX6_put_128 rfl rfl ?_
      refine g_iconst (v := 1) F dX6_put_129 (by decide) ?_
      refine g_isub F dX6_put_130 ?_
      refine g_iload F 5 dX6_put_131 rfl ?_
      refine g_isub F dX6_put_133 ?_
      refine g_imul F dX6_put_134 ?_
      refine g_lushr F dX6_put_135 ?_
      refine g_ldc2 F mCN_X6_130 dX6_put_136 ?_
      refine g_land F dX6_put_139 ?_
      refine g_l2i F dX6_put_140 ?_
      refine g_eqi ((low_a _).trans (show _ = nI (btN x (n0 - 1 - j)) by rw [xN_sh (x := x) (y := 8 * (xn - 1 - xj)) (j := 8 * (n0 - 1 - j)) (nx_mul (a := 8) rfl (nx_sub (nx_sub en (b := 1) rfl h1) ej (by omega))) (by omega)]; rfl)) ?_
      refine gs_22 (j := (pl + j)) F (by decide) (nx_add PL ej) (by omega) dX6_put_141 ?_
      refine g_I (wr16 (by decide)) ?_
      refine g_iincC (q := 1) (L' := [(7, _), (0, _), (1, _), (3, _), (4, _), (6, _)]) F 5 dX6_put_142 (by decide) rfl (by decide) rfl ?_
      refine g_goto F 108 dX6_put_145 (by decide) ?_
      refine g_sub [1, 2, 3, 4, 5, 0] rfl ?_
      refine g_I (congrArg (fun z => upR z 17 0 σ) pdJ_s) ?_
      exact ih (by omega) _ (nx_add ej rfl)
  have END : ∀ n0, n0 ≤ 8 → (∀ i, i < n0 → btN x i ≠ 0) → (n0 < 8 → btN x n0 = 0) → ∀ rest z, xN rest = xN x >>> (8 * n0) → (z = 0 ∨ z = 1) → (z = 1 ↔ ∀ i, i < n0 → okB x i) → ∀ xn, xn = nI n0 → GG p l e (rmL 1) s m args below meth c G (AA G) 8 0 0 (MQ below (va_Qi (fun (r : Int32) (u : Ii × Pm) => ∃ q ia, putR pl pad x r q ∧ u = (upR ia 17 0 σ, pm) ∧ MP ia q.1 q.2 ∧ FT6 I ia) (fun (u : Ii × Pm) t => Wd G u.1 u.2 t.heap) (AA G)) args s 0 0 (AA G)) (upR (up3 I 16 0 0 0) 17 0 σ) pm [(0, .ref (G.2.2 16 0)), (1, .long x), (3, .int xn), (4, .long rest), (6, .int z)] 72 [] := by
    intro n0 hn8 hnz hz0 rest z er hz hz1 xn en
    have UN : ∀ n, chN x n → n = n0 := fun n hc => by
      have a1 : ¬ n < n0 := fun q => hnz n q (hc.2.2 n (Nat.le_refl _) (by omega))
      have a2 : ¬ n0 < n := fun q => by
        have h1 := (hc.2.1 n0 q).1
        have h2 := hz0 (by have := hc.1; omega)
        omega
      omega
    have BAD : (n0 = 0 ∨ z = 0 ∨ rest ≠ 0) → ¬ ∃ n, chN x n ∧ 1 ≤ n := fun hb ⟨n, hc, h1⟩ => by
      have e := UN n hc
      subst e
      rcases hb with q | q | q
      · omega
      · have : z = 1 := hz1.mpr hc.2.1
        rw [q] at this
        exact absurd this (by decide)
      · exact q (xN_0.mpr (er.trans (sh_z (8 - n) n (by omega) hc.2.2)))
    have GOOD : z ≠ 0 → rest = 0 → chN x n0 := fun h1 h2 => ⟨hn8, hz1.mp (hz.resolve_left h1), fun j a b => bt_z (er.symm.trans (xN_0.mp h2)) a⟩
    have ERR : ∀ r0 : Int32, r0 = -2 → (¬ ∃ n, chN x n ∧ 1 ≤ n) → ∃ q ia, putR pl pad x r0 q ∧ (upR (up3 I 16 0 0 0) 17 0 σ, pm) = (upR ia 17 0 σ, pm) ∧ MP ia q.1 q.2 ∧ FT6 I ia := fun r0 h0 hb => ⟨(pl, pad), _, Or.inl ⟨hb, h0, rfl⟩, rfl, P.thr, FT6.thr⟩
    refine g_iload_n F 2 dX6_put_72 rfl rfl ?_
    refine g_if_eq F 88 dX6_put_73 (by decide) (fun c_73 => ?_) (fun c_73 => ?_)
    · have n_73 := nx_eqt (a := n0) (b := 0) en rfl (by omega) (by omega) c_73
      refine g_bipush (v := -2) F dX6_put_88 (by decide) ?_
      refine g_iret F hr hlk rfl dX6_put_90 ?_
      first
      | exact ERR _ rfl (BAD (Or.inl (by omega)))
      | exact ERR _ rfl (BAD (Or.inr (Or.inl c_78)))
      | exact ERR _ rfl (BAD (Or.inr (Or.inr RN)))
    · have n_73 := nx_eqf (a := n0) (b := 0) en rfl (by omega) (by omega) c_73
      refine g_iload F 4 dX6_put_76 rfl ?_
      refine g_if_eq F 88 dX6_put_78 (by decide) (fun c_78 => ?_) (fun c_78 => ?_)
      · refine g_bipush (v := -2) F dX6_put_88 (by decide) ?_
        refine g_iret F hr hlk rfl dX6_put_90 ?_
        first
        | exact ERR _ rfl (BAD (Or.inl (by omega)))
        | exact ERR _ rfl (BAD (Or.inr (Or.inl c_78)))
        | exact ERR _ rfl (BAD (Or.inr (Or.inr RN)))
      · refine g_lload F 3 dX6_put_81 rfl ?_
        refine g_lconst (v := 0) F dX6_put_83 (by decide) ?_
        refine g_lcmp F dX6_put_84 ?_
        refine g_if_eq F 91 dX6_put_85 (by decide) (fun c_85 => ?_) (fun c_85 => ?_)
        · have RZ := lg_z.mp c_85
          refine g_aload_n F 0 dX6_put_91 rfl rfl ?_
          refine gf_16_8 F (by decide) mFL_X6_121 dX6_put_92 ?_
          refine g_eqi (rd16 (by decide)) ?_
          refine g_iload_n F 2 dX6_put_95 rfl rfl ?_
          refine g_iadd F dX6_put_96 ?_
          refine g_bipush (v := 80) F dX6_put_97 (by decide) ?_
          refine g_icmp_le F 105 dX6_put_99 (by decide) (fun c_99 => ?_) (fun c_99 => ?_)
          · have n_99 := nx_let (a := (pl + n0)) (b := 80) (nx_add P.thr.1 en) rfl (by omega) (by omega) c_99
            refine g_iconst (v := 0) F dX6_put_105 (by decide) ?_
            refine g_istore (L' := [(7, _), (0, _), (1, _), (3, _), (4, _), (6, _)]) F dX6_put_106 (by decide) rfl ?_
            refine g_sub [1, 2, 3, 4, 5, 0] rfl ?_
            refine g_I (congrArg (fun z => upR z 17 0 σ) (pdJ_0 (pl := pl) (n := n0) (x := x)).symm) ?_
            exact LOOP2 n0 (GOOD c_78 RZ) (by omega) (by omega) _ en _ _ 0 (Nat.zero_le _) _ (by first | rfl | assumption)
          · have n_99 := nx_lef (a := (pl + n0)) (b := 80) (nx_add P.thr.1 en) rfl (by omega) (by omega) c_99
            refine g_bipush (v := -4) F dX6_put_102 (by decide) ?_
            refine g_iret F hr hlk rfl dX6_put_104 ?_
            exact ⟨(pl, pad), _, Or.inr ⟨n0, GOOD c_78 RZ, by omega, Or.inl ⟨by omega, rfl, rfl⟩⟩, rfl, P.thr, FT6.thr⟩
        · have RN : rest ≠ 0 := fun q => c_85 (lg_z.mpr q)
          refine g_bipush (v := -2) F dX6_put_88 (by decide) ?_
          refine g_iret F hr hlk rfl dX6_put_90 ?_
          first
          | exact ERR _ rfl (BAD (Or.inl (by omega)))
          | exact ERR _ rfl (BAD (Or.inr (Or.inl c_78)))
          | exact ERR _ rfl (BAD (Or.inr (Or.inr RN)))
  have LOOP : ∀ j, j ≤ 8 → (∀ i, i < j → btN x i ≠ 0) → ∀ rest z, xN rest = xN x >>> (8 * j) → (z = 0 ∨ z = 1) → (z = 1 ↔ ∀ i, i < j → okB x i) → ∀ xj, xj = nI j → GG p l e (rmL 1) s m args below meth c G (AA G) 8 0 0 (MQ below (va_Qi (fun (r : Int32) (u : Ii × Pm) => ∃ q ia, putR pl pad x r q ∧ u = (upR ia 17 0 σ, pm) ∧ MP ia q.1 q.2 ∧ FT6 I ia) (fun (u : Ii × Pm) t => Wd G u.1 u.2 t.heap) (AA G)) args s 0 0 (AA G)) (upR (up3 I 16 0 0 0) 17 0 σ) pm [(0, .ref (G.2.2 16 0)), (1, .long x), (3, .int xj), (4, .long rest), (6, .int z)] 13 [] := by
    refine dn_ind ?_
    intro j hj8 ih hnz rest z er hz hz1 xj ej
    have eb : xN rest % 256 = btN x j := by rw [er]; rfl
    have el : (rest &&& 255).toInt32 = nI (btN x j) := by rw [low_a, eb]
    refine g_iload_n F 2 dX6_put_13 rfl rfl ?_
    refine g_bipush (v := 8) F dX6_put_14 (by decide) ?_
    refine g_icmp_ge F 72 dX6_put_16 (by decide) (fun c_16 => ?_) (fun c_16 => ?_)
    · have n_16 := nx_get (a := j) (b := 8) ej rfl (by omega) (by omega) c_16
      refine g_sub [0, 1, 2, 3, 4] rfl ?_
      exact END j hj8 hnz (by first | exact fun _ => BZ | exact fun h => absurd h (by omega)) _ _ er hz hz1 _ ej
    · have n_16 := nx_gef (a := j) (b := 8) ej rfl (by omega) (by omega) c_16
      refine g_lload F 3 dX6_put_19 rfl ?_
      refine g_ldc2 F mCN_X6_130 dX6_put_21 ?_
      refine g_land F dX6_put_24 ?_
      refine g_lconst (v := 0) F dX6_put_25 (by decide) ?_
      refine g_lcmp F dX6_put_26 ?_
      refine g_if_eq F 72 dX6_put_27 (by decide) (fun c_27 => ?_) (fun c_27 => ?_)
      · have BZ : btN x j = 0 := by rw [← eb, ← xN_and]; exact xN_0.mp (lg_z.mp c_27)
        refine g_sub [0, 1, 2, 3, 4] rfl ?_
        exact END j hj8 hnz (by first | exact fun _ => BZ | exact fun h => absurd h (by omega)) _ _ er hz hz1 _ ej
      · have BN : btN x j ≠ 0 := fun q => c_27 (lg_z.mpr (xN_0.mpr (by rw [xN_and, eb, q])))
        refine g_iload F 4 dX6_put_30 rfl ?_
        refine g_if_eq F 56 dX6_put_32 (by decide) (fun c_32 => ?_) (fun c_32 => ?_)
        · have ZZ : ((0 : Int32) = 1 ↔ ∀ i, i < j + 1 → okB x i) := ⟨fun h => absurd h (by decide), fun h => absurd (c_32.symm.trans (hz1.mpr (fun i hi => h i (by omega)))) (by decide)⟩
          refine g_iconst (v := 0) F dX6_put_56 (by decide) ?_
          refine g_istore (L' := [(6, _), (0, _), (1, _), (3, _), (4, _)]) F dX6_put_57 (by decide) rfl ?_
          refine g_lload F 4 dX6_put_59 rfl ?_
          refine g_bipush (v := 8) F dX6_put_61 (by decide) ?_
          refine g_lushr F dX6_put_63 ?_
          refine g_lstore (L' := [(4, _), (6, _), (0, _), (1, _), (3, _)]) F dX6_put_64 (by decide) rfl ?_
          refine g_iincC (q := 1) (L' := [(3, _), (4, _), (6, _), (0, _), (1, _)]) F 4 dX6_put_66 (by decide) rfl (by decide) rfl ?_
          refine g_goto F 13 dX6_put_69 (by decide) ?_
          refine g_sub [3, 4, 0, 1, 2] rfl ?_
          refine ih (by omega) (fun i hi => ?_) _ _ ((xN_sh (x := rest) (y := 8) (j := 8) rfl (by decide)).trans (by rw [er, show 8 * (j + 1) = 8 * j + 8 by omega, Nat.shiftRight_add])) (by first | exact Or.inl rfl | exact Or.inr rfl) ZZ _ (nx_add ej rfl)
          by_cases q : i = j
          · rw [q]; exact BN
          · exact hnz i (by omega)
        · refine g_lload F 3 dX6_put_35 rfl ?_
          refine g_ldc2 F mCN_X6_130 dX6_put_37 ?_
          refine g_land F dX6_put_40 ?_
          refine g_l2i F dX6_put_41 ?_
          refine g_eqi el ?_
          refine g_bipush (v := 33) F dX6_put_42 (by decide) ?_
          refine g_bipush (v := 126) F dX6_put_44 (by decide) ?_
          refine g_callIs (na := 3) F (c_X6_in hj) lk_X6_54 rfl rfl (by decide +kernel) ⟨rfl, rfl, Nat.le_of_ble_eq_true rfl, Nat.le_of_ble_eq_true rfl, Nat.le_of_ble_eq_true rfl, Nat.le_of_ble_eq_true rfl, Nat.le_of_ble_eq_true rfl⟩ dX6_put_46 (fun r_46 u_46 h_46 => ?_)
          obtain ⟨rfl, rfl⟩ := h_46
          try dsimp only
          refine g_if_eq F 56 dX6_put_49 (by decide) (fun c_49 => ?_) (fun c_49 => ?_)
          · have NOK : ¬ okB x j := fun q => bz_0.mp c_49 (okB_r q)
            have ZZ : ((0 : Int32) = 1 ↔ ∀ i, i < j + 1 → okB x i) := ⟨fun h => absurd h (by decide), fun h => absurd (h j (by omega)) NOK⟩
            refine g_iconst (v := 0) F dX6_put_56 (by decide) ?_
            refine g_istore (L' := [(6, _), (0, _), (1, _), (3, _), (4, _)]) F dX6_put_57 (by decide) rfl ?_
            refine g_lload F 4 dX6_put_59 rfl ?_
            refine g_bipush (v := 8) F dX6_put_61 (by decide) ?_
            refine g_lushr F dX6_put_63 ?_
            refine g_lstore (L' := [(4, _), (6, _), (0, _), (1, _), (3, _)]) F dX6_put_64 (by decide) rfl ?_
            refine g_iincC (q := 1) (L' := [(3, _), (4, _), (6, _), (0, _), (1, _)]) F 4 dX6_put_66 (by decide) rfl (by decide) rfl ?_
            refine g_goto F 13 dX6_put_69 (by decide) ?_
            refine g_sub [3, 4, 0, 1, 2] rfl ?_
            refine ih (by omega) (fun i hi => ?_) _ _ ((xN_sh (x := rest) (y := 8) (j := 8) rfl (by decide)).trans (by rw [er, show 8 * (j + 1) = 8 * j + 8 by omega, Nat.shiftRight_add])) (by first | exact Or.inl rfl | exact Or.inr rfl) ZZ _ (nx_add ej rfl)
            by_cases q : i = j
            · rw [q]; exact BN
            · exact hnz i (by omega)
          · have OK : okB x j := okB_l (bz_n.mp c_49)
            have ZZ : ((1 : Int32) = 1 ↔ ∀ i, i < j + 1 → okB x i) := ⟨fun _ i hi => (by
              by_cases q : i = j
              · rw [q]; exact OK
              · exact hz1.mp (hz.resolve_left c_32) i (by omega)), fun _ => rfl⟩
            refine g_iconst (v := 1) F dX6_put_52 (by decide) ?_
            refine g_goto F 57 dX6_put_53 (by decide) ?_
            refine g_istore (L' := [(6, _), (0, _), (1, _), (3, _), (4, _)]) F dX6_put_57 (by decide) rfl ?_
            refine g_lload F 4 dX6_put_59 rfl ?_
            refine g_bipush (v := 8) F dX6_put_61 (by decide) ?_
            refine g_lushr F dX6_put_63 ?_
            refine g_lstore (L' := [(4, _), (6, _), (0, _), (1, _), (3, _)]) F dX6_put_64 (by decide) rfl ?_
            refine g_iincC (q := 1) (L' := [(3, _), (4, _), (6, _), (0, _), (1, _)]) F 4 dX6_put_66 (by decide) rfl (by decide) rfl ?_
            refine g_goto F 13 dX6_put_69 (by decide) ?_
            refine g_sub [3, 4, 0, 1, 2] rfl ?_
            refine ih (by omega) (fun i hi => ?_) _ _ ((xN_sh (x := rest) (y := 8) (j := 8) rfl (by decide)).trans (by rw [er, show 8 * (j + 1) = 8 * j + 8 by omega, Nat.shiftRight_add])) (by first | exact Or.inl rfl | exact Or.inr rfl) ZZ _ (nx_add ej rfl)
            by_cases q : i = j
            · rw [q]; exact BN
            · exact hnz i (by omega)
  refine g_aload_n F 0 dX6_put_0 rfl rfl ?_
  refine g_iconst (v := 0) F dX6_put_1 (by decide) ?_
  refine gp_16_0 F (by decide) mFL_X6_32 dX6_put_2 ?_
  refine g_I (wr16 (by decide)) ?_
  refine g_iconst (v := 0) F dX6_put_5 (by decide) ?_
  refine g_istore_n (L' := [(3, _), (0, _), (1, _)]) F dX6_put_6 rfl (by decide) rfl ?_
  refine g_lload_n F 2 dX6_put_7 rfl rfl ?_
  refine g_lstore (L' := [(4, _), (3, _), (0, _), (1, _)]) F dX6_put_8 (by decide) rfl ?_
  refine g_iconst (v := 1) F dX6_put_10 (by decide) ?_
  refine g_istore (L' := [(6, _), (4, _), (3, _), (0, _), (1, _)]) F dX6_put_11 (by decide) rfl ?_
  refine g_sub [3, 4, 2, 1, 0] rfl ?_
  exact LOOP 0 (by decide) (fun i h => absurd h (Nat.not_lt_zero i)) _ _ rfl (Or.inr rfl) ⟨fun _ i h => absurd h (Nat.not_lt_zero i), fun _ => rfl⟩ _ (by first | rfl | assumption)
