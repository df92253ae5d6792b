/-! PART 34: the reference's changes -/
def FM (I I' : Ii) : Prop := ∀ K i c, ¬ (K = 16 ∧ (c = 0 ∨ c = 4)) → K ≠ 18 → K ≠ 19 → I' K i c = I K i c
def MCH (I : Ii) (pm : Pm) (u : Ii × Pm) (r : Int32) (q : Int32 × Sg) (σ : Sg) (hn : Nat) (hist : Nat → Sg) : Prop := r = q.1 ∧ ∃ ia, u = (upR ia 17 0 q.2, pm) ∧ FM I ia ∧ ((q.1 < 0 ∧ MXH ia hn hist) ∨ (¬ q.1 < 0 ∧ MXH ia (pushN hn) (pushH hn hist σ)))
theorem MXH.thr {I : Ii} {hn : Nat} {hist : Nat → Sg} {v : Int32} (M : MXH I hn hist) : MXH (up3 I 16 0 0 v) hn hist := ⟨(up3_n (by decide)).trans M.1, M.2.1, fun i hi k hk => (up3_k (by decide)).trans (M.2.2 i hi k hk)⟩
theorem FM.thr {I : Ii} {v : Int32} : FM I (up3 I 16 0 0 v) := fun K i c h _ _ => up3_n (fun e => h ⟨e.1, Or.inl e.2.2⟩)
theorem MCH.err {I : Ii} {pm : Pm} {r : Int32} {q : Int32 × Sg} {σ : Sg} {hn : Nat} {hist : Nat → Sg} (M : MXH I hn hist) (hr0 : r = q.1) (hq : q.1 < 0) (hs : q.2 = σ) : MCH I pm (upR (up3 I 16 0 0 0) 17 0 σ, pm) r q σ hn hist := ⟨hr0, _, by rw [hs], FM.thr, Or.inl ⟨hq, M.thr⟩⟩
theorem MCH.ok {I ia : Ii} {pm : Pm} {r : Int32} {q : Int32 × Sg} {σ s2 : Sg} {hn : Nat} {hist : Nat → Sg} (M : MXH ia (pushN hn) (pushH hn hist σ)) (f : FH (up3 I 16 0 0 0) ia) (hr0 : r = q.1) (hq : ¬ q.1 < 0) (hs : s2 = q.2) : MCH I pm (upR ia 17 0 s2, pm) r q σ hn hist :=
  ⟨hr0, ia, by rw [hs], fun K i c h h8 h9 => (f K i c (fun e => h ⟨e.1, Or.inr e.2⟩) h9).trans (FM.thr K i c h h8 h9), Or.inr ⟨hq, M⟩⟩
def adJ (n : Nat) (σ : Sg) (j k : Nat) : Sg := fun i => if 16 + 11 * (j + 1) ≤ i ∧ i < 27 + 11 * n then σ (i - 11) else if 16 + 11 * j ≤ i ∧ i < 16 + 11 * j + k then σ (i - 11) else σ i
theorem adJ_0 {n : Nat} {σ : Sg} : adJ n σ n 0 = σ := by
  funext i
  unfold adJ
  rw [if_neg (by omega), if_neg (by omega)]
theorem adJ_s {n j k : Nat} {σ : Sg} (hj : 1 ≤ j) (hk : k < 11) : upd (adJ n σ j k) (16 + 11 * j + k) (adJ n σ j k (16 + 11 * (j - 1) + k)) = adJ n σ j (k + 1) := by
  funext i
  by_cases c : i = 16 + 11 * j + k
  · rw [c, upd_s]
    unfold adJ
    rw [if_neg (by omega), if_neg (by omega), if_neg (by omega), if_pos (by omega)]
    congr 1
    omega
  · rw [upd_n c]
    unfold adJ
    by_cases q : 16 + 11 * (j + 1) ≤ i ∧ i < 27 + 11 * n
    · rw [if_pos q, if_pos q]
    · rw [if_neg q, if_neg q]
      by_cases z : 16 + 11 * j ≤ i ∧ i < 16 + 11 * j + k
      · rw [if_pos z, if_pos (by omega)]
      · rw [if_neg z, if_neg (by omega)]
theorem adJ_11 {n j : Nat} {σ : Sg} (hj : 1 ≤ j) (hn : j ≤ n) : adJ n σ j 11 = adJ n σ (j - 1) 0 := by
  funext i
  unfold adJ
  by_cases q : 16 + 11 * (j + 1) ≤ i ∧ i < 27 + 11 * n
  · rw [if_pos q, if_pos (by omega)]
  · rw [if_neg q]
    by_cases z : 16 + 11 * j ≤ i ∧ i < 16 + 11 * j + 11
    · rw [if_pos z, if_pos (by omega)]
    · rw [if_neg z, if_neg (by omega), if_neg (by omega)]
theorem adJ_lo {n j k i : Nat} {σ : Sg} (hi : i < 16 + 11 * j) : adJ n σ j k i = σ i := by
  unfold adJ
  rw [if_neg (by omega), if_neg (by omega)]
def adZ (n : Nat) (σ : Sg) (p k : Nat) : Sg := fun i => if 16 + 11 * p ≤ i ∧ i < 16 + 11 * p + k then 0 else adJ n σ p 0 i
theorem adZ_0 {n p : Nat} {σ : Sg} : adJ n σ p 0 = adZ n σ p 0 := by
  funext i
  unfold adZ
  rw [if_neg (by omega)]
theorem adZ_s {n p k : Nat} {σ : Sg} : upd (adZ n σ p k) (16 + 11 * p + k) 0 = adZ n σ p (k + 1) := by
  funext i
  by_cases c : i = 16 + 11 * p + k
  · rw [c, upd_s]
    unfold adZ
    rw [if_pos (by omega)]
  · rw [upd_n c]
    unfold adZ
    by_cases z : 16 + 11 * p ≤ i ∧ i < 16 + 11 * p + k
    · rw [if_pos z, if_pos (by omega)]
    · rw [if_neg z, if_neg (by omega)]
theorem ad_fin {n p : Nat} {σ : Sg} {a b c d : Int32} (e : lposS σ a n = p) (hp : p ≤ n) : upd (upd (upd (upd (upd (upd (adZ n σ p 11) (16 + 11 * p + 0) a) (16 + 11 * p + 1) b) (16 + 11 * p + 2) c) (16 + 11 * p + 3) d) (16 + 11 * p + 7) 1) 6 (nI n + 1) = addS n a b c d σ := by
  rw [show nI n + 1 = nI (n + 1) from nI_1 n]
  funext i
  unfold addS
  rw [e]
  by_cases c6 : i = 6
  · rw [c6, upd_s, if_pos rfl]
  · rw [upd_n c6, if_neg c6]
    by_cases q : 16 ≤ i ∧ i < 27 + 11 * n
    · rw [if_pos q]
      by_cases c1 : (i - 16) / 11 < p
      · rw [if_pos c1, upd_n (by omega), upd_n (by omega), upd_n (by omega), upd_n (by omega), upd_n (by omega)]
        unfold adZ
        rw [if_neg (by omega), adJ_lo (by omega)]
      · rw [if_neg c1]
        by_cases c2 : (i - 16) / 11 = p
        · obtain ⟨f, hf, rfl⟩ : ∃ f, f < 11 ∧ i = 16 + 11 * p + f := ⟨i - (16 + 11 * p), by omega, by omega⟩
          rw [if_pos c2, show (16 + 11 * p + f - 16) % 11 = f by omega]
          unfold newF
          by_cases f7 : f = 7
          · rw [f7, upd_s]
            simp
          · rw [upd_n (by omega)]
            by_cases f3 : f = 3
            · rw [f3, upd_s]
              simp
            · rw [upd_n (by omega)]
              by_cases f2 : f = 2
              · rw [f2, upd_s]
                simp
              · rw [upd_n (by omega)]
                by_cases f1 : f = 1
                · rw [f1, upd_s]
                  simp
                · rw [upd_n (by omega)]
                  by_cases f0 : f = 0
                  · rw [f0, upd_s]
                    simp
                  · rw [upd_n (by omega), if_neg f0, if_neg f1, if_neg f2, if_neg f3, if_neg f7]
                    unfold adZ
                    rw [if_pos (by omega)]
        · rw [if_neg c2, upd_n (by omega), upd_n (by omega), upd_n (by omega), upd_n (by omega), upd_n (by omega)]
          unfold adZ adJ
          rw [if_neg (by omega), if_pos (by omega)]
    · rw [if_neg q, upd_n (by omega), upd_n (by omega), upd_n (by omega), upd_n (by omega), upd_n (by omega)]
      unfold adZ adJ
      rw [if_neg (by omega), if_neg (by omega), if_neg (by omega)]
def lfZ (n r : Nat) (σ : Sg) (j k : Nat) : Sg := fun i => if i = 6 then nI (n - 1) else if 16 + 11 * r ≤ i ∧ i < 16 + j then σ (i + 11) else if 16 + 11 * (n - 1) ≤ i ∧ i < 16 + 11 * (n - 1) + k then 0 else σ i
theorem lfZ_0 {n r : Nat} {σ : Sg} {v : Int32} (e : v = nI (n - 1)) : upd σ 6 v = lfZ n r σ (11 * r) 0 := by
  funext i
  unfold lfZ
  by_cases c : i = 6
  · rw [c, upd_s, if_pos rfl, e]
  · rw [upd_n c, if_neg c, if_neg (by omega), if_neg (by omega)]
theorem lfZ_s {n r j : Nat} {σ : Sg} (h : 11 * r ≤ j) : upd (lfZ n r σ j 0) (16 + j) (lfZ n r σ j 0 (16 + j + 11)) = lfZ n r σ (j + 1) 0 := by
  funext i
  by_cases c : i = 16 + j
  · rw [c, upd_s]
    unfold lfZ
    rw [if_neg (by omega), if_neg (by omega), if_neg (by omega), if_neg (by omega), if_pos (by omega)]
  · rw [upd_n c]
    unfold lfZ
    by_cases c6 : i = 6
    · rw [if_pos c6, if_pos c6]
    · rw [if_neg c6, if_neg c6]
      by_cases q : 16 + 11 * r ≤ i ∧ i < 16 + j
      · rw [if_pos q, if_pos (by omega)]
      · rw [if_neg q, if_neg (by omega), if_neg (by omega)]
theorem lfZ_z {n r k : Nat} {σ : Sg} : upd (lfZ n r σ (11 * (n - 1)) k) (16 + 11 * (n - 1) + k) 0 = lfZ n r σ (11 * (n - 1)) (k + 1) := by
  funext i
  by_cases c : i = 16 + 11 * (n - 1) + k
  · rw [c, upd_s]
    unfold lfZ
    rw [if_neg (by omega), if_neg (by omega), if_pos (by omega)]
  · rw [upd_n c]
    unfold lfZ
    by_cases c6 : i = 6
    · rw [if_pos c6, if_pos c6]
    · rw [if_neg c6, if_neg c6]
      by_cases q : 16 + 11 * r ≤ i ∧ i < 16 + 11 * (n - 1)
      · rw [if_pos q, if_pos q]
      · rw [if_neg q, if_neg q]
        by_cases z : 16 + 11 * (n - 1) ≤ i ∧ i < 16 + 11 * (n - 1) + k
        · rw [if_pos z, if_pos (by omega)]
        · rw [if_neg z, if_neg (by omega)]
theorem lfZ_11 {n r : Nat} {σ : Sg} (hn : 1 ≤ n) : lfZ n r σ (11 * (n - 1)) 11 = lifS n r σ := by
  funext i
  unfold lfZ lifS
  rw [show 16 + 11 * (n - 1) + 11 = 16 + 11 * n by omega]
theorem lco_t {σ : Sg} {a : Int32} {n : Nat} (h : lcoS σ a n ≠ -6) : rkS σ a n < n ∧ lcoS σ a n = nI (rkS σ a n) := by
  unfold lcoS at h ⊢
  by_cases c : rkS σ a n < n
  · exact ⟨c, if_pos c⟩
  · rw [if_neg c] at h
    exact absurd rfl h
theorem lco_f {σ : Sg} {a : Int32} {n : Nat} (h8 : n ≤ 8) (h : lcoS σ a n = -6) : ¬ rkS σ a n < n := fun c => by
  unfold lcoS at h
  rw [if_pos c] at h
  exact nI_m6 (by omega) h

set_option maxHeartbeats 4000000 in
set_option maxRecDepth 100000 in
theorem c_X6_loco {l : Launch} {G : Gm} (hj : Aj G) {I : Ii} {pm : Pm} {σ : Sg} {n h : Nat} (V : Iv n h σ) {hn : Nat} {hist : Nat → Sg} (M : MXH I hn hist) {a b c0 d : Int32} : CI l G yX6_loco (wz yX6_loco cX6_loco 7 (some .int)) (rmL 2) [.ref (G.2.2 16 0), .int a, .int b, .int c0, .int d] (upR I 17 0 σ) pm (fun r u => ∃ q, locoR a b c0 d σ q ∧ MCH I pm u r q σ hn hist) := by
  refine CI.walk hj (by decide +kernel) (by show _ ≤ 7; exact Nat.le_of_ble_eq_true rfl) ?_
  intro p e s m args below meth c F hr hlk
  have hn8 := V.2.1
  have hh20 := V.2.2.2.1
  have FIN : okL a b c0 d → ¬ rkS σ a n < n → n < 8 → ∀ ia, MXH ia (pushN hn) (pushH hn hist σ) → FH (up3 I 16 0 0 0) ia → ∀ j, j ≤ n → lposS σ a n = j → ∀ xj, xj = nI j → ∀ k, k ≤ 11 → ∀ xk, xk = nI k → GG p l e (rmL 2) s m args below meth c G (AA G) 7 0 0 (MQ below (va_Qi (fun (r : Int32) (u : Ii × Pm) => ∃ q, locoR a b c0 d σ q ∧ MCH I pm u r q σ hn hist) (fun (u : Ii × Pm) t => Wd G u.1 u.2 t.heap) (AA G)) args s 0 0 (AA G)) (upR ia 17 0 (adZ n σ j k)) pm [(0, .ref (G.2.2 16 0)), (1, .int a), (2, .int b), (3, .int c0), (4, .int d), (5, .int xj), (6, .int xk)] 151 [] := by
    intro hok hrk hn7 ia M2 fh j hjn ep xj ej
    refine dn_ind ?_
    intro k hk11 ihk xk ek
    have e6 : ∀ z1 z2 z3 z4 z5, upd (upd (upd (upd (upd (adZ n σ j k) (16 + 11 * j + 0) z1) (16 + 11 * j + 1) z2) (16 + 11 * j + 2) z3) (16 + 11 * j + 3) z4) (16 + 11 * j + 7) z5 6 = nI n := fun z1 z2 z3 z4 z5 => by
      rw [upd_n (by omega), upd_n (by omega), upd_n (by omega), upd_n (by omega), upd_n (by omega)]
      unfold adZ
      rw [if_neg (by omega), adJ_lo (by omega)]
      exact V.1
    refine g_iload F 6 dX6_loco_151 rfl ?_
    refine g_bipush (v := 11) F dX6_loco_153 (by decide) ?_
    refine g_icmp_ge F 173 dX6_loco_155 (by decide) (fun c_155 => ?_) (fun c_155 => ?_)
    · have n_155 := nx_get (a := k) (b := 11) ek rfl (by omega) (by omega) c_155
      refine g_aload_n F 0 dX6_loco_173 rfl rfl ?_
      refine g_iload F 5 dX6_loco_174 rfl ?_
      refine g_iconst (v := 0) F dX6_loco_176 (by decide) ?_
      refine g_iload_n F 1 dX6_loco_177 rfl rfl ?_
      refine g_callVv (na := 3) F 16 _ (c_X6_lay hj (r := j) (f := 0) ej rfl (by omega)) (by decide) rfl rfl lk_X6_50 rfl rfl (by decide +kernel) ⟨rfl, rfl, Nat.le_of_ble_eq_true rfl, Nat.le_of_ble_eq_true rfl, Nat.le_of_ble_eq_true rfl, Nat.le_of_ble_eq_true rfl, Nat.le_of_ble_eq_true rfl⟩ dX6_loco_178 (fun u_178 h_178 => ?_)
      subst h_178
      try dsimp only
      refine g_aload_n F 0 dX6_loco_181 rfl rfl ?_
      refine g_iload F 5 dX6_loco_182 rfl ?_
      refine g_iconst (v := 1) F dX6_loco_184 (by decide) ?_
      refine g_iload_n F 2 dX6_loco_185 rfl rfl ?_
      refine g_callVv (na := 3) F 16 _ (c_X6_lay hj (r := j) (f := 1) ej rfl (by omega)) (by decide) rfl rfl lk_X6_50 rfl rfl (by decide +kernel) ⟨rfl, rfl, Nat.le_of_ble_eq_true rfl, Nat.le_of_ble_eq_true rfl, Nat.le_of_ble_eq_true rfl, Nat.le_of_ble_eq_true rfl, Nat.le_of_ble_eq_true rfl⟩ dX6_loco_186 (fun u_186 h_186 => ?_)
      subst h_186
      try dsimp only
      refine g_aload_n F 0 dX6_loco_189 rfl rfl ?_
      refine g_iload F 5 dX6_loco_190 rfl ?_
      refine g_iconst (v := 2) F dX6_loco_192 (by decide) ?_
      refine g_iload_n F 3 dX6_loco_193 rfl rfl ?_
      refine g_callVv (na := 3) F 16 _ (c_X6_lay hj (r := j) (f := 2) ej rfl (by omega)) (by decide) rfl rfl lk_X6_50 rfl rfl (by decide +kernel) ⟨rfl, rfl, Nat.le_of_ble_eq_true rfl, Nat.le_of_ble_eq_true rfl, Nat.le_of_ble_eq_true rfl, Nat.le_of_ble_eq_true rfl, Nat.le_of_ble_eq_true rfl⟩ dX6_loco_194 (fun u_194 h_194 => ?_)
      subst h_194
      try dsimp only
      refine g_aload_n F 0 dX6_loco_197 rfl rfl ?_
      refine g_iload F 5 dX6_loco_198 rfl ?_
      refine g_iconst (v := 3) F dX6_loco_200 (by decide) ?_
      refine g_iload F 4 dX6_loco_201 rfl ?_
      refine g_callVv (na := 3) F 16 _ (c_X6_lay hj (r := j) (f := 3) ej rfl (by omega)) (by decide) rfl rfl lk_X6_50 rfl rfl (by decide +kernel) ⟨rfl, rfl, Nat.le_of_ble_eq_true rfl, Nat.le_of_ble_eq_true rfl, Nat.le_of_ble_eq_true rfl, Nat.le_of_ble_eq_true rfl, Nat.le_of_ble_eq_true rfl⟩ dX6_loco_203 (fun u_203 h_203 => ?_)
      subst h_203
      try dsimp only
      refine g_aload_n F 0 dX6_loco_206 rfl rfl ?_
      refine g_iload F 5 dX6_loco_207 rfl ?_
      refine g_bipush (v := 7) F dX6_loco_209 (by decide) ?_
      refine g_iconst (v := 1) F dX6_loco_211 (by decide) ?_
      refine g_callVv (na := 3) F 16 _ (c_X6_lay hj (r := j) (f := 7) ej rfl (by omega)) (by decide) rfl rfl lk_X6_50 rfl rfl (by decide +kernel) ⟨rfl, rfl, Nat.le_of_ble_eq_true rfl, Nat.le_of_ble_eq_true rfl, Nat.le_of_ble_eq_true rfl, Nat.le_of_ble_eq_true rfl, Nat.le_of_ble_eq_true rfl⟩ dX6_loco_212 (fun u_212 h_212 => ?_)
      subst h_212
      try dsimp only
      refine g_aload_n F 0 dX6_loco_215 rfl rfl ?_
      refine gf_16_1 F (by decide) mFL_X6_7 dX6_loco_216 ?_
      refine g_bipush (v := 6) F dX6_loco_219 (by decide) ?_
      refine g_dup2 F dX6_loco_221 rfl rfl ?_
      refine ga_17 (j := 6) F (by decide) rfl (by omega) dX6_loco_222 ?_
      refine g_eqi rd17 ?_
      refine g_eqi (e6 _ _ _ _ _) ?_
      refine g_iconst (v := 1) F dX6_loco_223 (by decide) ?_
      refine g_iadd F dX6_loco_224 ?_
      refine gs_17 (j := 6) F (by decide) rfl (by omega) dX6_loco_225 ?_
      refine g_I wr17 ?_
      refine g_I (congrArg (fun z => upR ia 17 0 z) (show _ = addS n a b c0 d σ by rw [show k = 11 by omega]; exact ad_fin ep hjn)) ?_
      refine g_aload_n F 0 dX6_loco_226 rfl rfl ?_
      refine gf_16_1 F (by decide) mFL_X6_7 dX6_loco_227 ?_
      refine g_bipush (v := 6) F dX6_loco_230 (by decide) ?_
      refine ga_17 (j := 6) F (by decide) rfl (by omega) dX6_loco_232 ?_
      refine g_eqi rd17 ?_
      refine g_iret F hr hlk rfl dX6_loco_233 ?_
      exact ⟨(nI (n + 1), addS n a b c0 d σ), Or.inr (Or.inr (Or.inr ⟨hok, by rw [V.nofe]; exact hrk, by rw [V.nofe]; exact hn7, by rw [V.nofe]⟩)), MCH.ok M2 fh (if_pos rfl) (nneg (by omega)) rfl⟩
    · have n_155 := nx_gef (a := k) (b := 11) ek rfl (by omega) (by omega) c_155
      refine g_aload_n F 0 dX6_loco_158 rfl rfl ?_
      refine g_iload F 5 dX6_loco_159 rfl ?_
      refine g_iload F 6 dX6_loco_161 rfl ?_
      refine g_iconst (v := 0) F dX6_loco_163 (by decide) ?_
      refine g_callVv (na := 3) F 16 _ (c_X6_lay hj (r := j) (f := k) ej ek (by omega)) (by decide) rfl rfl lk_X6_50 rfl rfl (by decide +kernel) ⟨rfl, rfl, Nat.le_of_ble_eq_true rfl, Nat.le_of_ble_eq_true rfl, Nat.le_of_ble_eq_true rfl, Nat.le_of_ble_eq_true rfl, Nat.le_of_ble_eq_true rfl⟩ dX6_loco_164 (fun u_164 h_164 => ?_)
      subst h_164
      try dsimp only
      refine g_iincC (q := 1) (L' := [(6, _), (0, _), (1, _), (2, _), (3, _), (4, _), (5, _)]) F 6 dX6_loco_167 (by decide) rfl (by decide) rfl ?_
      refine g_goto F 151 dX6_loco_170 (by decide) ?_
      refine g_sub [1, 2, 3, 4, 5, 6, 0] rfl ?_
      refine g_I (congrArg (fun z => upR ia 17 0 z) adZ_s) ?_
      exact ihk (by omega) _ (nx_add ek rfl)
  have LOOP : okL a b c0 d → ¬ rkS σ a n < n → n < 8 → ∀ ia, MXH ia (pushN hn) (pushH hn hist σ) → FH (up3 I 16 0 0 0) ia → ∀ j, j ≤ n → lposS σ a n = lposS σ a j → ∀ xj, xj = nI j → GG p l e (rmL 2) s m args below meth c G (AA G) 7 0 0 (MQ below (va_Qi (fun (r : Int32) (u : Ii × Pm) => ∃ q, locoR a b c0 d σ q ∧ MCH I pm u r q σ hn hist) (fun (u : Ii × Pm) t => Wd G u.1 u.2 t.heap) (AA G)) args s 0 0 (AA G)) (upR ia 17 0 (adJ n σ j 0)) pm [(0, .ref (G.2.2 16 0)), (1, .int a), (2, .int b), (3, .int c0), (4, .int d), (5, .int xj)] 90 [] := by
    intro hok hrk hn7 ia M2 fh
    refine up_ind ?_
    intro j ih hjn ep xj ej
    have INNER : 1 ≤ j → lposS σ a n = lposS σ a (j - 1) → ∀ k, k ≤ 11 → ∀ xk, xk = nI k → GG p l e (rmL 2) s m args below meth c G (AA G) 7 0 0 (MQ below (va_Qi (fun (r : Int32) (u : Ii × Pm) => ∃ q, locoR a b c0 d σ q ∧ MCH I pm u r q σ hn hist) (fun (u : Ii × Pm) t => Wd G u.1 u.2 t.heap) (AA G)) args s 0 0 (AA G)) (upR ia 17 0 (adJ n σ j k)) pm [(0, .ref (G.2.2 16 0)), (1, .int a), (2, .int b), (3, .int c0), (4, .int d), (5, .int xj), (6, .int xk)] 111 [] := by
      intro hj1 ep2
      refine dn_ind ?_
      intro k hk3 ihk xk ek
      refine g_iload F 6 dX6_loco_111 rfl ?_
      refine g_bipush (v := 11) F dX6_loco_113 (by decide) ?_
      refine g_icmp_ge F 142 dX6_loco_115 (by decide) (fun c_115 => ?_) (fun c_115 => ?_)
      · have n_115 := nx_get (a := k) (b := 11) ek rfl (by omega) (by omega) c_115
        refine g_iincC (q := -1) (L' := [(5, _), (0, _), (1, _), (2, _), (3, _), (4, _), (6, _)]) F 5 dX6_loco_142 (by decide) rfl (by decide) rfl ?_
        refine g_goto F 90 dX6_loco_145 (by decide) ?_
        refine g_sub [1, 2, 3, 4, 5, 0] rfl ?_
        refine g_I (congrArg (fun z => upR ia 17 0 z) (show adJ n σ j k = adJ n σ (j - 1) 0 by rw [show k = 11 by omega]; exact adJ_11 hj1 hjn)) ?_
        exact ih (j - 1) (by omega) (by omega) ep2 _ (nx_dec ej hj1)
      · have n_115 := nx_gef (a := k) (b := 11) ek rfl (by omega) (by omega) c_115
        refine g_aload_n F 0 dX6_loco_118 rfl rfl ?_
        refine g_iload F 5 dX6_loco_119 rfl ?_
        refine g_iload F 6 dX6_loco_121 rfl ?_
        refine g_aload_n F 0 dX6_loco_123 rfl rfl ?_
        refine g_iload F 5 dX6_loco_124 rfl ?_
        refine g_iconst (v := 1) F dX6_loco_126 (by decide) ?_
        refine g_isub F dX6_loco_127 ?_
        refine g_iload F 6 dX6_loco_128 rfl ?_
        refine g_callIv (na := 2) F 16 _ (c_X6_get hj (r := j - 1) (f := k) (nx_sub ej (b := 1) rfl hj1) ek (by omega)) (by decide) rfl rfl lk_X6_36 rfl rfl (by decide +kernel) ⟨rfl, rfl, Nat.le_of_ble_eq_true rfl, Nat.le_of_ble_eq_true rfl, Nat.le_of_ble_eq_true rfl, Nat.le_of_ble_eq_true rfl, Nat.le_of_ble_eq_true rfl⟩ dX6_loco_130 (fun r_130 u_130 h_130 => ?_)
        obtain ⟨rfl, rfl⟩ := h_130
        try dsimp only
        refine g_callVv (na := 3) F 16 _ (c_X6_lay hj (r := j) (f := k) ej ek (by omega)) (by decide) rfl rfl lk_X6_50 rfl rfl (by decide +kernel) ⟨rfl, rfl, Nat.le_of_ble_eq_true rfl, Nat.le_of_ble_eq_true rfl, Nat.le_of_ble_eq_true rfl, Nat.le_of_ble_eq_true rfl, Nat.le_of_ble_eq_true rfl⟩ dX6_loco_133 (fun u_133 h_133 => ?_)
        subst h_133
        try dsimp only
        refine g_iincC (q := 1) (L' := [(6, _), (0, _), (1, _), (2, _), (3, _), (4, _), (5, _)]) F 6 dX6_loco_136 (by decide) rfl (by decide) rfl ?_
        refine g_goto F 111 dX6_loco_139 (by decide) ?_
        refine g_sub [1, 2, 3, 4, 5, 6, 0] rfl ?_
        refine g_I (congrArg (fun z => upR ia 17 0 z) (adJ_s hj1 (by omega))) ?_
        exact ihk (by omega) _ (nx_add ek rfl)
    refine g_iload F 5 dX6_loco_90 rfl ?_
    refine g_if_le F 148 dX6_loco_92 (by decide) (fun c_92 => ?_) (fun c_92 => ?_)
    · have n_92 := nx_let (a := j) (b := 0) ej rfl (by omega) (by omega) c_92
      have EP : lposS σ a n = j := by rw [ep, show j = 0 by omega]; rfl
      refine g_iconst (v := 0) F dX6_loco_148 (by decide) ?_
      refine g_istore (L' := [(6, _), (0, _), (1, _), (2, _), (3, _), (4, _), (5, _)]) F dX6_loco_149 (by decide) rfl ?_
      refine g_sub [1, 2, 3, 4, 5, 6, 0] rfl ?_
      refine g_I (congrArg (fun z => upR ia 17 0 z) adZ_0) ?_
      exact FIN hok hrk hn7 ia M2 fh j hjn EP _ ej 0 (by decide) _ (by first | rfl | assumption)
    · have n_92 := nx_lef (a := j) (b := 0) ej rfl (by omega) (by omega) c_92
      refine g_aload_n F 0 dX6_loco_95 rfl rfl ?_
      refine g_iload F 5 dX6_loco_96 rfl ?_
      refine g_iconst (v := 1) F dX6_loco_98 (by decide) ?_
      refine g_isub F dX6_loco_99 ?_
      refine g_iconst (v := 0) F dX6_loco_100 (by decide) ?_
      refine g_callIv (na := 2) F 16 _ (c_X6_get0 hj (r := j - 1) (nx_sub ej (b := 1) rfl (by omega)) rfl (by omega)) (by decide) rfl rfl lk_X6_36 rfl rfl (by decide +kernel) ⟨rfl, rfl, Nat.le_of_ble_eq_true rfl, Nat.le_of_ble_eq_true rfl, Nat.le_of_ble_eq_true rfl, Nat.le_of_ble_eq_true rfl, Nat.le_of_ble_eq_true rfl⟩ dX6_loco_101 (fun r_101 u_101 h_101 => ?_)
      obtain ⟨rfl, rfl⟩ := h_101
      try dsimp only
      refine g_eqi (adJ_lo (by omega)) ?_
      refine g_iload_n F 1 dX6_loco_104 rfl rfl ?_
      refine g_icmp_le F 148 dX6_loco_105 (by decide) (fun c_105 => ?_) (fun c_105 => ?_)
      · have EP : lposS σ a n = j := by
          rw [ep]
          obtain ⟨i, rfl⟩ : ∃ i, j = i + 1 := ⟨j - 1, by omega⟩
          exact if_neg (Int32.not_lt.mpr c_105)
        refine g_iconst (v := 0) F dX6_loco_148 (by decide) ?_
        refine g_istore (L' := [(6, _), (0, _), (1, _), (2, _), (3, _), (4, _), (5, _)]) F dX6_loco_149 (by decide) rfl ?_
        refine g_sub [1, 2, 3, 4, 5, 6, 0] rfl ?_
        refine g_I (congrArg (fun z => upR ia 17 0 z) adZ_0) ?_
        exact FIN hok hrk hn7 ia M2 fh j hjn EP _ ej 0 (by decide) _ (by first | rfl | assumption)
      · have EP : lposS σ a n = lposS σ a (j - 1) := by
          rw [ep]
          obtain ⟨i, rfl⟩ : ∃ i, j = i + 1 := ⟨j - 1, by omega⟩
          exact if_pos (Int32.not_le.mp c_105)
        refine g_iconst (v := 0) F dX6_loco_108 (by decide) ?_
        refine g_istore (L' := [(6, _), (0, _), (1, _), (2, _), (3, _), (4, _), (5, _)]) F dX6_loco_109 (by decide) rfl ?_
        refine g_sub [1, 2, 3, 4, 5, 6, 0] rfl ?_
        exact INNER (by omega) EP 0 (by decide) _ (by first | rfl | assumption)
  refine g_aload_n F 0 dX6_loco_0 rfl rfl ?_
  refine g_iconst (v := 0) F dX6_loco_1 (by decide) ?_
  refine gp_16_0 F (by decide) mFL_X6_32 dX6_loco_2 ?_
  refine g_I (wr16 (by decide)) ?_
  refine g_iload_n F 1 dX6_loco_5 rfl rfl ?_
  refine g_iconst (v := 1) F dX6_loco_6 (by decide) ?_
  refine g_bipush (v := 99) F dX6_loco_7 (by decide) ?_
  refine g_callIs (na := 3) F (c_X6_in hj) lk_X6_54 rfl rfl (by decide +kernel) ⟨rfl, rfl, Nat.le_of_ble_eq_true rfl, Nat.le_of_ble_eq_true rfl, Nat.le_of_ble_eq_true rfl, Nat.le_of_ble_eq_true rfl, Nat.le_of_ble_eq_true rfl⟩ dX6_loco_9 (fun r_9 u_9 h_9 => ?_)
  obtain ⟨rfl, rfl⟩ := h_9
  try dsimp only
  refine g_if_eq F 46 dX6_loco_12 (by decide) (fun c_12 => ?_) (fun c_12 => ?_)
  · have N12 := bz_0.mp c_12
    refine g_bipush (v := -2) F dX6_loco_46 (by decide) ?_
    refine g_iret F hr hlk rfl dX6_loco_48 ?_
    have NO : ¬ okL a b c0 d := fun q => by
      first
      | exact N43 q.2.2.2
      | exact N31 q.2.2.1
      | exact N22 q.2.1
      | exact N12 q.1
    exact ⟨(-2, σ), Or.inl ⟨NO, rfl⟩, MCH.err M rfl (show (-2 : Int32) < 0 by decide) rfl⟩
  · have P12 := bz_n.mp c_12
    refine g_iload_n F 2 dX6_loco_15 rfl rfl ?_
    refine g_iconst (v := 1) F dX6_loco_16 (by decide) ?_
    refine g_bipush (v := 20) F dX6_loco_17 (by decide) ?_
    refine g_callIs (na := 3) F (c_X6_in hj) lk_X6_54 rfl rfl (by decide +kernel) ⟨rfl, rfl, Nat.le_of_ble_eq_true rfl, Nat.le_of_ble_eq_true rfl, Nat.le_of_ble_eq_true rfl, Nat.le_of_ble_eq_true rfl, Nat.le_of_ble_eq_true rfl⟩ dX6_loco_19 (fun r_19 u_19 h_19 => ?_)
    obtain ⟨rfl, rfl⟩ := h_19
    try dsimp only
    refine g_if_eq F 46 dX6_loco_22 (by decide) (fun c_22 => ?_) (fun c_22 => ?_)
    · have N22 := bz_0.mp c_22
      refine g_bipush (v := -2) F dX6_loco_46 (by decide) ?_
      refine g_iret F hr hlk rfl dX6_loco_48 ?_
      have NO : ¬ okL a b c0 d := fun q => by
        first
        | exact N43 q.2.2.2
        | exact N31 q.2.2.1
        | exact N22 q.2.1
        | exact N12 q.1
      exact ⟨(-2, σ), Or.inl ⟨NO, rfl⟩, MCH.err M rfl (show (-2 : Int32) < 0 by decide) rfl⟩
    · have P22 := bz_n.mp c_22
      refine g_iload_n F 3 dX6_loco_25 rfl rfl ?_
      refine g_iconst (v := 0) F dX6_loco_26 (by decide) ?_
      refine g_iconst (v := 2) F dX6_loco_27 (by decide) ?_
      refine g_callIs (na := 3) F (c_X6_in hj) lk_X6_54 rfl rfl (by decide +kernel) ⟨rfl, rfl, Nat.le_of_ble_eq_true rfl, Nat.le_of_ble_eq_true rfl, Nat.le_of_ble_eq_true rfl, Nat.le_of_ble_eq_true rfl, Nat.le_of_ble_eq_true rfl⟩ dX6_loco_28 (fun r_28 u_28 h_28 => ?_)
      obtain ⟨rfl, rfl⟩ := h_28
      try dsimp only
      refine g_if_eq F 46 dX6_loco_31 (by decide) (fun c_31 => ?_) (fun c_31 => ?_)
      · have N31 := bz_0.mp c_31
        refine g_bipush (v := -2) F dX6_loco_46 (by decide) ?_
        refine g_iret F hr hlk rfl dX6_loco_48 ?_
        have NO : ¬ okL a b c0 d := fun q => by
          first
          | exact N43 q.2.2.2
          | exact N31 q.2.2.1
          | exact N22 q.2.1
          | exact N12 q.1
        exact ⟨(-2, σ), Or.inl ⟨NO, rfl⟩, MCH.err M rfl (show (-2 : Int32) < 0 by decide) rfl⟩
      · have P31 := bz_n.mp c_31
        refine g_iload F 4 dX6_loco_34 rfl ?_
        refine g_iconst (v := 0) F dX6_loco_36 (by decide) ?_
        refine g_sipush (v := 799) F dX6_loco_37 (by decide) ?_
        refine g_callIs (na := 3) F (c_X6_in hj) lk_X6_54 rfl rfl (by decide +kernel) ⟨rfl, rfl, Nat.le_of_ble_eq_true rfl, Nat.le_of_ble_eq_true rfl, Nat.le_of_ble_eq_true rfl, Nat.le_of_ble_eq_true rfl, Nat.le_of_ble_eq_true rfl⟩ dX6_loco_40 (fun r_40 u_40 h_40 => ?_)
        obtain ⟨rfl, rfl⟩ := h_40
        try dsimp only
        refine g_if_ne F 49 dX6_loco_43 (by decide) (fun c_43 => ?_) (fun c_43 => ?_)
        · have P43 := bz_n.mp c_43
          refine g_aload_n F 0 dX6_loco_49 rfl rfl ?_
          refine g_iload_n F 1 dX6_loco_50 rfl rfl ?_
          refine g_callIv (na := 1) F 16 _ (c_X6_locoOf hj V.1 hn8) (by decide) rfl rfl lk_X6_87 rfl rfl (by decide +kernel) ⟨rfl, rfl, Nat.le_of_ble_eq_true rfl, Nat.le_of_ble_eq_true rfl, Nat.le_of_ble_eq_true rfl, Nat.le_of_ble_eq_true rfl, Nat.le_of_ble_eq_true rfl⟩ dX6_loco_51 (fun r_51 u_51 h_51 => ?_)
          obtain ⟨rfl, rfl⟩ := h_51
          try dsimp only
          refine g_bipush (v := -6) F dX6_loco_54 (by decide) ?_
          refine g_icmp_eq F 62 dX6_loco_56 (by decide) (fun c_56 => ?_) (fun c_56 => ?_)
          · have NR := lco_f hn8 c_56
            have OK : okL a b c0 d := ⟨P12, P22, P31, P43⟩
            refine g_aload_n F 0 dX6_loco_62 rfl rfl ?_
            refine gf_16_1 F (by decide) mFL_X6_7 dX6_loco_63 ?_
            refine g_bipush (v := 6) F dX6_loco_66 (by decide) ?_
            refine ga_17 (j := 6) F (by decide) rfl (by omega) dX6_loco_68 ?_
            refine g_eqi rd17 ?_
            refine g_bipush (v := 8) F dX6_loco_69 (by decide) ?_
            refine g_icmp_ne F 77 dX6_loco_71 (by decide) (fun c_71 => ?_) (fun c_71 => ?_)
            · have n_71 := nx_net (a := n) (b := 8) V.1 rfl (by omega) (by omega) c_71
              refine g_aload_n F 0 dX6_loco_77 rfl rfl ?_
              refine g_callVv (na := 0) F 16 _ (c_X6_records hj M.thr) (by decide) rfl rfl lk_X6_90 rfl rfl (by decide +kernel) ⟨rfl, rfl, Nat.le_of_ble_eq_true rfl, Nat.le_of_ble_eq_true rfl, Nat.le_of_ble_eq_true rfl, Nat.le_of_ble_eq_true rfl, Nat.le_of_ble_eq_true rfl⟩ dX6_loco_78 (fun u_78 h_78 => ?_)
              obtain ⟨ia, rfl, M2, fh⟩ := h_78
              try dsimp only
              refine g_aload_n F 0 dX6_loco_81 rfl rfl ?_
              refine gf_16_1 F (by decide) mFL_X6_7 dX6_loco_82 ?_
              refine g_bipush (v := 6) F dX6_loco_85 (by decide) ?_
              refine ga_17 (j := 6) F (by decide) rfl (by omega) dX6_loco_87 ?_
              refine g_eqi rd17 ?_
              refine g_topi (fun x5_88 ex5_88 => ?_)
              refine g_istore (L' := [(5, _), (0, _), (1, _), (2, _), (3, _), (4, _)]) F dX6_loco_88 (by decide) rfl ?_
              refine g_sub [1, 2, 3, 4, 5, 0] rfl ?_
              refine g_I (congrArg (fun z => upR ia 17 0 z) (adJ_0 (n := n)).symm) ?_
              exact LOOP OK NR (by omega) ia M2 fh n (Nat.le_refl _) rfl _ (by first | exact V.1 | exact ex5_88.trans V.1)
            · have n_71 := nx_nef (a := n) (b := 8) V.1 rfl (by omega) (by omega) c_71
              refine g_bipush (v := -4) F dX6_loco_74 (by decide) ?_
              refine g_iret F hr hlk rfl dX6_loco_76 ?_
              exact ⟨(-4, σ), Or.inr (Or.inr (Or.inl ⟨OK, by rw [V.nofe]; exact NR, by rw [V.nofe]; omega, rfl⟩)), MCH.err M rfl (show (-4 : Int32) < 0 by decide) rfl⟩
          · have YR := (lco_t c_56).1
            have OK : okL a b c0 d := ⟨P12, P22, P31, P43⟩
            refine g_bipush (v := -5) F dX6_loco_59 (by decide) ?_
            refine g_iret F hr hlk rfl dX6_loco_61 ?_
            exact ⟨(-5, σ), Or.inr (Or.inl ⟨OK, by rw [V.nofe]; exact YR, rfl⟩), MCH.err M rfl (show (-5 : Int32) < 0 by decide) rfl⟩
        · have N43 := bz_0.mp c_43
          refine g_bipush (v := -2) F dX6_loco_46 (by decide) ?_
          refine g_iret F hr hlk rfl dX6_loco_48 ?_
          have NO : ¬ okL a b c0 d := fun q => by
            first
            | exact N43 q.2.2.2
            | exact N31 q.2.2.1
            | exact N22 q.2.1
            | exact N12 q.1
          exact ⟨(-2, σ), Or.inl ⟨NO, rfl⟩, MCH.err M rfl (show (-2 : Int32) < 0 by decide) rfl⟩
set_option maxHeartbeats 4000000 in
set_option maxRecDepth 100000 in
theorem c_X6_lift {l : Launch} {G : Gm} (hj : Aj G) {I : Ii} {pm : Pm} {σ : Sg} {n h : Nat} (V : Iv n h σ) {hn : Nat} {hist : Nat → Sg} (M : MXH I hn hist) {a : Int32} : CI l G yX6_lift (wz yX6_lift cX6_lift 4 (some .int)) (rmL 2) [.ref (G.2.2 16 0), .int a] (upR I 17 0 σ) pm (fun r u => ∃ q, liftR a σ q ∧ MCH I pm u r q σ hn hist) := by
  refine CI.walk hj (by decide +kernel) (by show _ ≤ 4; exact Nat.le_of_ble_eq_true rfl) ?_
  intro p e s m args below meth c F hr hlk
  have hn8 := V.2.1
  have hh20 := V.2.2.2.1
  have LOOPZ : rkS σ a n < n → ∀ ia, MXH ia (pushN hn) (pushH hn hist σ) → FH (up3 I 16 0 0 0) ia → ∀ x2, ∀ j, j ≤ 11 → ∀ xj, xj = nI j → GG p l e (rmL 2) s m args below meth c G (AA G) 4 0 0 (MQ below (va_Qi (fun (r : Int32) (u : Ii × Pm) => ∃ q, liftR a σ q ∧ MCH I pm u r q σ hn hist) (fun (u : Ii × Pm) t => Wd G u.1 u.2 t.heap) (AA G)) args s 0 0 (AA G)) (upR ia 17 0 (lfZ n (rkS σ a n) σ (11 * (n - 1)) j)) pm [(0, .ref (G.2.2 16 0)), (1, .int a), (2, .int x2), (3, .int xj)] 82 [] := by
    intro hrk ia M2 fh x2
    refine dn_ind ?_
    intro j hj11 ih xj ej
    have b6 : lfZ n (rkS σ a n) σ (11 * (n - 1)) j 6 = nI (n - 1) := if_pos rfl
    refine g_iload_n F 3 dX6_lift_82 rfl rfl ?_
    refine g_bipush (v := 11) F dX6_lift_83 (by decide) ?_
    refine g_icmp_ge F 107 dX6_lift_85 (by decide) (fun c_85 => ?_) (fun c_85 => ?_)
    · have n_85 := nx_get (a := j) (b := 11) ej rfl (by omega) (by omega) c_85
      refine g_aload_n F 0 dX6_lift_107 rfl rfl ?_
      refine gf_16_1 F (by decide) mFL_X6_7 dX6_lift_108 ?_
      refine g_bipush (v := 6) F dX6_lift_111 (by decide) ?_
      refine ga_17 (j := 6) F (by decide) rfl (by omega) dX6_lift_113 ?_
      refine g_eqi rd17 ?_
      refine g_iret F hr hlk rfl dX6_lift_114 ?_
      exact ⟨(nI (n - 1), lifS n (rkS σ a n) σ), Or.inr ⟨by rw [V.nofe]; exact hrk, by rw [V.nofe]⟩, MCH.ok M2 fh b6 (nneg (by omega)) (by rw [show j = 11 by omega]; exact lfZ_11 (by omega))⟩
    · have n_85 := nx_gef (a := j) (b := 11) ej rfl (by omega) (by omega) c_85
      refine g_aload_n F 0 dX6_lift_88 rfl rfl ?_
      refine g_aload_n F 0 dX6_lift_89 rfl rfl ?_
      refine gf_16_1 F (by decide) mFL_X6_7 dX6_lift_90 ?_
      refine g_bipush (v := 6) F dX6_lift_93 (by decide) ?_
      refine ga_17 (j := 6) F (by decide) rfl (by omega) dX6_lift_95 ?_
      refine g_eqi rd17 ?_
      refine g_iload_n F 3 dX6_lift_96 rfl rfl ?_
      refine g_iconst (v := 0) F dX6_lift_97 (by decide) ?_
      refine g_callVv (na := 3) F 16 _ (c_X6_lay hj (r := n - 1) (f := j) b6 ej (by omega)) (by decide) rfl rfl lk_X6_50 rfl rfl (by decide +kernel) ⟨rfl, rfl, Nat.le_of_ble_eq_true rfl, Nat.le_of_ble_eq_true rfl, Nat.le_of_ble_eq_true rfl, Nat.le_of_ble_eq_true rfl, Nat.le_of_ble_eq_true rfl⟩ dX6_lift_98 (fun u_98 h_98 => ?_)
      subst h_98
      try dsimp only
      refine g_iincC (q := 1) (L' := [(3, _), (0, _), (1, _), (2, _)]) F 3 dX6_lift_101 (by decide) rfl (by decide) rfl ?_
      refine g_goto F 82 dX6_lift_104 (by decide) ?_
      refine g_sub [1, 2, 3, 0] rfl ?_
      refine g_I (congrArg (fun z => upR ia 17 0 z) lfZ_z) ?_
      exact ih (by omega) _ (nx_add ej rfl)
  have LOOP : rkS σ a n < n → ∀ ia, MXH ia (pushN hn) (pushH hn hist σ) → FH (up3 I 16 0 0 0) ia → ∀ x2, ∀ j, j ≤ 11 * (n - 1) → 11 * rkS σ a n ≤ j → ∀ xj, xj = nI j → GG p l e (rmL 2) s m args below meth c G (AA G) 4 0 0 (MQ below (va_Qi (fun (r : Int32) (u : Ii × Pm) => ∃ q, liftR a σ q ∧ MCH I pm u r q σ hn hist) (fun (u : Ii × Pm) t => Wd G u.1 u.2 t.heap) (AA G)) args s 0 0 (AA G)) (upR ia 17 0 (lfZ n (rkS σ a n) σ j 0)) pm [(0, .ref (G.2.2 16 0)), (1, .int a), (2, .int x2), (3, .int xj)] 39 [] := by
    intro hrk ia M2 fh x2
    refine dn_ind ?_
    intro j hj11 ih hlo xj ej
    have b6 : lfZ n (rkS σ a n) σ j 0 6 = nI (n - 1) := if_pos rfl
    refine g_iload_n F 3 dX6_lift_39 rfl rfl ?_
    refine g_bipush (v := 11) F dX6_lift_40 (by decide) ?_
    refine g_aload_n F 0 dX6_lift_42 rfl rfl ?_
    refine gf_16_1 F (by decide) mFL_X6_7 dX6_lift_43 ?_
    refine g_bipush (v := 6) F dX6_lift_46 (by decide) ?_
    refine ga_17 (j := 6) F (by decide) rfl (by omega) dX6_lift_48 ?_
    refine g_eqi rd17 ?_
    refine g_imul F dX6_lift_49 ?_
    refine g_icmp_ge F 80 dX6_lift_50 (by decide) (fun c_50 => ?_) (fun c_50 => ?_)
    · have n_50 := nx_get (a := j) (b := (11 * (n - 1))) ej (nx_mul rfl b6) (by omega) (by omega) c_50
      refine g_iconst (v := 0) F dX6_lift_80 (by decide) ?_
      refine g_istore_n (L' := [(3, _), (0, _), (1, _), (2, _)]) F dX6_lift_81 rfl (by decide) rfl ?_
      refine g_sub [1, 2, 3, 0] rfl ?_
      refine g_I (congrArg (fun z => upR ia 17 0 z) (show lfZ n (rkS σ a n) σ j 0 = lfZ n (rkS σ a n) σ (11 * (n - 1)) 0 by rw [show j = 11 * (n - 1) by omega])) ?_
      exact LOOPZ hrk ia M2 fh _ 0 (by decide) _ (by first | rfl | assumption)
    · have n_50 := nx_gef (a := j) (b := (11 * (n - 1))) ej (nx_mul rfl b6) (by omega) (by omega) c_50
      refine g_aload_n F 0 dX6_lift_53 rfl rfl ?_
      refine gf_16_1 F (by decide) mFL_X6_7 dX6_lift_54 ?_
      refine g_bipush (v := 16) F dX6_lift_57 (by decide) ?_
      refine g_iload_n F 3 dX6_lift_59 rfl rfl ?_
      refine g_iadd F dX6_lift_60 ?_
      refine g_aload_n F 0 dX6_lift_61 rfl rfl ?_
      refine gf_16_1 F (by decide) mFL_X6_7 dX6_lift_62 ?_
      refine g_bipush (v := 16) F dX6_lift_65 (by decide) ?_
      refine g_iload_n F 3 dX6_lift_67 rfl rfl ?_
      refine g_iadd F dX6_lift_68 ?_
      refine g_bipush (v := 11) F dX6_lift_69 (by decide) ?_
      refine g_iadd F dX6_lift_71 ?_
      refine ga_17 (j := ((16 + j) + 11)) F (by decide) (nx_add (nx_add rfl ej) rfl) (by omega) dX6_lift_72 ?_
      refine g_eqi rd17 ?_
      refine gs_17 (j := (16 + j)) F (by decide) (nx_add rfl ej) (by omega) dX6_lift_73 ?_
      refine g_I wr17 ?_
      refine g_iincC (q := 1) (L' := [(3, _), (0, _), (1, _), (2, _)]) F 3 dX6_lift_74 (by decide) rfl (by decide) rfl ?_
      refine g_goto F 39 dX6_lift_77 (by decide) ?_
      refine g_sub [1, 2, 3, 0] rfl ?_
      refine g_I (congrArg (fun z => upR ia 17 0 z) (lfZ_s hlo)) ?_
      exact ih (by omega) (by omega) _ (nx_add ej rfl)
  refine g_aload_n F 0 dX6_lift_0 rfl rfl ?_
  refine g_iconst (v := 0) F dX6_lift_1 (by decide) ?_
  refine gp_16_0 F (by decide) mFL_X6_32 dX6_lift_2 ?_
  refine g_I (wr16 (by decide)) ?_
  refine g_aload_n F 0 dX6_lift_5 rfl rfl ?_
  refine g_iload_n F 1 dX6_lift_6 rfl rfl ?_
  refine g_callIv (na := 1) F 16 _ (c_X6_locoOf hj V.1 hn8) (by decide) rfl rfl lk_X6_87 rfl rfl (by decide +kernel) ⟨rfl, rfl, Nat.le_of_ble_eq_true rfl, Nat.le_of_ble_eq_true rfl, Nat.le_of_ble_eq_true rfl, Nat.le_of_ble_eq_true rfl, Nat.le_of_ble_eq_true rfl⟩ dX6_lift_7 (fun r_7 u_7 h_7 => ?_)
  obtain ⟨rfl, rfl⟩ := h_7
  try dsimp only
  refine g_topi (fun x2_10 ex2_10 => ?_)
  refine g_istore_n (L' := [(2, _), (0, _), (1, _)]) F dX6_lift_10 rfl (by decide) rfl ?_
  refine g_iload_n F 0 dX6_lift_11 rfl rfl ?_
  refine g_bipush (v := -6) F dX6_lift_12 (by decide) ?_
  refine g_icmp_ne F 19 dX6_lift_14 (by decide) (fun c_14 => ?_) (fun c_14 => ?_)
  · have RK : rkS σ a n < n ∧ x2_10 = nI (rkS σ a n) := by
      have := lco_t (σ := σ) (a := a) (n := n) (by rw [← ex2_10]; exact c_14)
      exact ⟨this.1, ex2_10.trans this.2⟩
    refine g_aload_n F 1 dX6_lift_19 rfl rfl ?_
    refine g_callVv (na := 0) F 16 _ (c_X6_records hj M.thr) (by decide) rfl rfl lk_X6_90 rfl rfl (by decide +kernel) ⟨rfl, rfl, Nat.le_of_ble_eq_true rfl, Nat.le_of_ble_eq_true rfl, Nat.le_of_ble_eq_true rfl, Nat.le_of_ble_eq_true rfl, Nat.le_of_ble_eq_true rfl⟩ dX6_lift_20 (fun u_20 h_20 => ?_)
    obtain ⟨ia, rfl, M2, fh⟩ := h_20
    try dsimp only
    refine g_aload_n F 1 dX6_lift_23 rfl rfl ?_
    refine gf_16_1 F (by decide) mFL_X6_7 dX6_lift_24 ?_
    refine g_bipush (v := 6) F dX6_lift_27 (by decide) ?_
    refine g_dup2 F dX6_lift_29 rfl rfl ?_
    refine ga_17 (j := 6) F (by decide) rfl (by omega) dX6_lift_30 ?_
    refine g_eqi rd17 ?_
    refine g_iconst (v := 1) F dX6_lift_31 (by decide) ?_
    refine g_isub F dX6_lift_32 ?_
    refine gs_17 (j := 6) F (by decide) rfl (by omega) dX6_lift_33 ?_
    refine g_I wr17 ?_
    refine g_I (congrArg (fun z => upR ia 17 0 z) (lfZ_0 (r := rkS σ a n) (nx_sub V.1 (b := 1) rfl (by omega)))) ?_
    refine g_bipush (v := 11) F dX6_lift_34 (by decide) ?_
    refine g_iload_n F 0 dX6_lift_36 rfl rfl ?_
    refine g_imul F dX6_lift_37 ?_
    refine g_topi (fun x3_38 ex3_38 => ?_)
    refine g_istore_n (L' := [(3, _), (2, _), (0, _), (1, _)]) F dX6_lift_38 rfl (by decide) rfl ?_
    refine g_sub [2, 3, 1, 0] rfl ?_
    exact LOOP RK.1 ia M2 fh _ (11 * rkS σ a n) (by omega) (Nat.le_refl _) _ (by first | assumption | exact ex3_38.trans (nx_mul (a := 11) rfl RK.2))
  · have NR : ¬ rkS σ a n < n := lco_f hn8 (ex2_10.symm.trans c_14)
    refine g_iconst (v := -1) F dX6_lift_17 (by decide) ?_
    refine g_iret F hr hlk rfl dX6_lift_18 ?_
    exact ⟨(-1, σ), Or.inl ⟨by rw [V.nofe]; exact NR, rfl⟩, MCH.err M rfl (show (-1 : Int32) < 0 by decide) rfl⟩
set_option maxHeartbeats 4000000 in
set_option maxRecDepth 100000 in
theorem c_X6_noise {l : Launch} {G : Gm} (hj : Aj G) {I : Ii} {pm : Pm} {σ : Sg} {n h : Nat} (V : Iv n h σ) {hn : Nat} {hist : Nat → Sg} (M : MXH I hn hist) {x : Int32} : CI l G yX6_noise (wz yX6_noise cX6_noise 3 (some .int)) (rmL 1) [.ref (G.2.2 16 0), .int x] (upR I 17 0 σ) pm (fun r u => ∃ q, noiseR x σ q ∧ MCH I pm u r q σ hn hist) := by
  have hn8 := V.2.1
  have hh20 := V.2.2.2.1
  refine CI.walk hj (by decide +kernel) (by show _ ≤ 3; exact Nat.le_of_ble_eq_true rfl) ?_
  intro p e s m args below meth c F hr hlk
  refine g_aload_n F 0 dX6_noise_0 rfl rfl ?_
  refine g_iconst (v := 0) F dX6_noise_1 (by decide) ?_
  refine gp_16_0 F (by decide) mFL_X6_32 dX6_noise_2 ?_
  refine g_I (wr16 (by decide)) ?_
  refine g_iload_n F 1 dX6_noise_5 rfl rfl ?_
  refine g_iconst (v := 0) F dX6_noise_6 (by decide) ?_
  refine g_bipush (v := 9) F dX6_noise_7 (by decide) ?_
  refine g_callIs (na := 3) F (c_X6_in hj) lk_X6_54 rfl rfl (by decide +kernel) ⟨rfl, rfl, Nat.le_of_ble_eq_true rfl, Nat.le_of_ble_eq_true rfl, Nat.le_of_ble_eq_true rfl, Nat.le_of_ble_eq_true rfl, Nat.le_of_ble_eq_true rfl⟩ dX6_noise_9 (fun r_9 u_9 h_9 => ?_)
  obtain ⟨rfl, rfl⟩ := h_9
  try dsimp only
  refine g_if_ne F 18 dX6_noise_12 (by decide) (fun c_12 => ?_) (fun c_12 => ?_)
  · have P12 := bz_n.mp c_12
    refine g_aload_n F 0 dX6_noise_18 rfl rfl ?_
    refine g_callVv (na := 0) F 16 _ (c_X6_records hj M.thr) (by decide) rfl rfl lk_X6_90 rfl rfl (by decide +kernel) ⟨rfl, rfl, Nat.le_of_ble_eq_true rfl, Nat.le_of_ble_eq_true rfl, Nat.le_of_ble_eq_true rfl, Nat.le_of_ble_eq_true rfl, Nat.le_of_ble_eq_true rfl⟩ dX6_noise_19 (fun u_19 h_19 => ?_)
    obtain ⟨ia, rfl, M2, fh⟩ := h_19
    try dsimp only
    refine g_aload_n F 0 dX6_noise_22 rfl rfl ?_
    refine gf_16_1 F (by decide) mFL_X6_7 dX6_noise_23 ?_
    refine g_iconst (v := 1) F dX6_noise_26 (by decide) ?_
    refine ga_17 (j := 1) F (by decide) rfl (by omega) dX6_noise_27 ?_
    refine g_eqi rd17 ?_
    refine g_topi (fun x2_28 ex2_28 => ?_)
    refine g_istore_n (L' := [(2, _), (0, _), (1, _)]) F dX6_noise_28 rfl (by decide) rfl ?_
    refine g_aload_n F 1 dX6_noise_29 rfl rfl ?_
    refine gf_16_1 F (by decide) mFL_X6_7 dX6_noise_30 ?_
    refine g_iconst (v := 1) F dX6_noise_33 (by decide) ?_
    refine g_iload_n F 2 dX6_noise_34 rfl rfl ?_
    refine gs_17 (j := 1) F (by decide) rfl (by omega) dX6_noise_35 ?_
    refine g_I wr17 ?_
    refine g_iload_n F 0 dX6_noise_36 rfl rfl ?_
    refine g_iret F hr hlk rfl dX6_noise_37 ?_
    exact ⟨(σ 1, upd σ 1 x), Or.inr ⟨P12, rfl⟩, MCH.ok M2 fh (by first | exact ex2_28 | rfl) (nneg_i V.2.2.2.2.2.2.1.1) rfl⟩
  · have N12 := bz_0.mp c_12
    refine g_bipush (v := -2) F dX6_noise_15 (by decide) ?_
    refine g_iret F hr hlk rfl dX6_noise_17 ?_
    exact ⟨(-2, σ), Or.inl ⟨N12, rfl⟩, MCH.err M rfl (show (-2 : Int32) < 0 by decide) rfl⟩
set_option maxHeartbeats 4000000 in
set_option maxRecDepth 100000 in
theorem c_X6_order {l : Launch} {G : Gm} (hj : Aj G) {I : Ii} {pm : Pm} {σ : Sg} {n h : Nat} (V : Iv n h σ) {hn : Nat} {hist : Nat → Sg} (M : MXH I hn hist) {a d t : Int32} : CI l G yX6_order (wz yX6_order cX6_order 5 (some .int)) (rmL 2) [.ref (G.2.2 16 0), .int a, .int d, .int t] (upR I 17 0 σ) pm (fun r u => ∃ q, ordR a d t σ q ∧ MCH I pm u r q σ hn hist) := by
  have hn8 := V.2.1
  have hh20 := V.2.2.2.1
  refine CI.walk hj (by decide +kernel) (by show _ ≤ 5; exact Nat.le_of_ble_eq_true rfl) ?_
  intro p e s m args below meth c F hr hlk
  refine g_aload_n F 0 dX6_order_0 rfl rfl ?_
  refine g_iconst (v := 0) F dX6_order_1 (by decide) ?_
  refine gp_16_0 F (by decide) mFL_X6_32 dX6_order_2 ?_
  refine g_I (wr16 (by decide)) ?_
  refine g_aload_n F 0 dX6_order_5 rfl rfl ?_
  refine g_iload_n F 1 dX6_order_6 rfl rfl ?_
  refine g_iload_n F 2 dX6_order_7 rfl rfl ?_
  refine g_iload_n F 3 dX6_order_8 rfl rfl ?_
  refine g_callIv (na := 3) F 16 _ (c_X6_refusesOrder hj V) (by decide) rfl rfl lk_X6_93 rfl rfl (by decide +kernel) ⟨rfl, rfl, Nat.le_of_ble_eq_true rfl, Nat.le_of_ble_eq_true rfl, Nat.le_of_ble_eq_true rfl, Nat.le_of_ble_eq_true rfl, Nat.le_of_ble_eq_true rfl⟩ dX6_order_9 (fun r_9 u_9 h_9 => ?_)
  obtain ⟨hc, rfl⟩ := h_9
  try dsimp only
  refine g_topi (fun x4_12 ex4_12 => ?_)
  refine g_istore (L' := [(4, _), (0, _), (1, _), (2, _), (3, _)]) F dX6_order_12 (by decide) rfl ?_
  refine g_iload F 0 dX6_order_14 rfl ?_
  refine g_if_eq F 22 dX6_order_16 (by decide) (fun c_16 => ?_) (fun c_16 => ?_)
  · have OK : okO a d t ∧ h < 20 := by
      have e0 := ex4_12.symm.trans c_16
      rcases hc with ⟨-, e2⟩ | ⟨-, -, e2⟩ | ⟨h1, h2, -⟩
      · exact absurd (e2.symm.trans e0) (by decide)
      · exact absurd (e2.symm.trans e0) (by decide)
      · exact ⟨h1, h2⟩
    refine g_aload_n F 1 dX6_order_22 rfl rfl ?_
    refine g_callVv (na := 0) F 16 _ (c_X6_records hj M.thr) (by decide) rfl rfl lk_X6_90 rfl rfl (by decide +kernel) ⟨rfl, rfl, Nat.le_of_ble_eq_true rfl, Nat.le_of_ble_eq_true rfl, Nat.le_of_ble_eq_true rfl, Nat.le_of_ble_eq_true rfl, Nat.le_of_ble_eq_true rfl⟩ dX6_order_23 (fun u_23 h_23 => ?_)
    obtain ⟨ia, rfl, M2, fh⟩ := h_23
    try dsimp only
    refine g_aload_n F 1 dX6_order_26 rfl rfl ?_
    refine g_iload_n F 2 dX6_order_27 rfl rfl ?_
    refine g_iload_n F 3 dX6_order_28 rfl rfl ?_
    refine g_iload_n F 4 dX6_order_29 rfl rfl ?_
    refine g_callIv (na := 3) F 16 _ (c_X6_laysOrder hj V OK.2) (by decide) rfl rfl lk_X6_96 rfl rfl (by decide +kernel) ⟨rfl, rfl, Nat.le_of_ble_eq_true rfl, Nat.le_of_ble_eq_true rfl, Nat.le_of_ble_eq_true rfl, Nat.le_of_ble_eq_true rfl, Nat.le_of_ble_eq_true rfl⟩ dX6_order_30 (fun r_30 u_30 h_30 => ?_)
    obtain ⟨rfl, rfl⟩ := h_30
    try dsimp only
    refine g_iret F hr hlk rfl dX6_order_33 ?_
    exact ⟨(nI (h + 1), ordS h a d t σ), Or.inr (Or.inr ⟨OK.1, by rw [V.hofe]; exact OK.2, by rw [V.hofe]⟩), MCH.ok M2 fh rfl (nneg (by omega)) rfl⟩
  · refine g_iload F 0 dX6_order_19 rfl ?_
    refine g_iret F hr hlk rfl dX6_order_21 ?_
    rcases hc with ⟨h1, e2⟩ | ⟨h1, h2, e2⟩ | ⟨h1, h2, e2⟩
    · exact ⟨(-2, σ), Or.inl ⟨h1, rfl⟩, MCH.err M (ex4_12.trans e2) (show (-2 : Int32) < 0 by decide) rfl⟩
    · exact ⟨(-4, σ), Or.inr (Or.inl ⟨h1, by rw [V.hofe]; exact h2, rfl⟩), MCH.err M (ex4_12.trans e2) (show (-4 : Int32) < 0 by decide) rfl⟩
    · exact absurd (ex4_12.trans e2) c_16
set_option maxHeartbeats 4000000 in
set_option maxRecDepth 100000 in
theorem c_X6_frame {l : Launch} {G : Gm} (hj : Aj G) {I : Ii} {pm : Pm} {σ : Sg} {n h : Nat} (V : Iv n h σ) {hn : Nat} {hist : Nat → Sg} (M : MXH I hn hist) {a d t : Int32} : CI l G yX6_frame (wz yX6_frame cX6_frame 5 (some .int)) (rmL 4) [.ref (G.2.2 16 0), .int a, .int d, .int t] (upR I 17 0 σ) pm (fun r u => ∃ q, frmR a d t σ q ∧ MCH I pm u r q σ hn hist) := by
  have hn8 := V.2.1
  have hh20 := V.2.2.2.1
  refine CI.walk hj (by decide +kernel) (by show _ ≤ 5; exact Nat.le_of_ble_eq_true rfl) ?_
  intro p e s m args below meth c F hr hlk
  refine g_aload_n F 0 dX6_frame_0 rfl rfl ?_
  refine g_iconst (v := 0) F dX6_frame_1 (by decide) ?_
  refine gp_16_0 F (by decide) mFL_X6_32 dX6_frame_2 ?_
  refine g_I (wr16 (by decide)) ?_
  refine g_iload_n F 1 dX6_frame_5 rfl rfl ?_
  refine g_iload_n F 2 dX6_frame_6 rfl rfl ?_
  refine g_iload_n F 3 dX6_frame_7 rfl rfl ?_
  refine g_callIs (na := 3) F (c_X6_refusesFrame hj) lk_X6_99 rfl rfl (by decide +kernel) ⟨rfl, rfl, Nat.le_of_ble_eq_true rfl, Nat.le_of_ble_eq_true rfl, Nat.le_of_ble_eq_true rfl, Nat.le_of_ble_eq_true rfl, Nat.le_of_ble_eq_true rfl⟩ dX6_frame_8 (fun r_8 u_8 h_8 => ?_)
  obtain ⟨hc, rfl⟩ := h_8
  try dsimp only
  refine g_topi (fun x4_11 ex4_11 => ?_)
  refine g_istore (L' := [(4, _), (0, _), (1, _), (2, _), (3, _)]) F dX6_frame_11 (by decide) rfl ?_
  refine g_iload F 0 dX6_frame_13 rfl ?_
  refine g_if_eq F 21 dX6_frame_15 (by decide) (fun c_15 => ?_) (fun c_15 => ?_)
  · have OK : okF a d t := by
      have e0 := ex4_11.symm.trans c_15
      rcases hc with ⟨-, e2⟩ | ⟨h1, -⟩
      · exact absurd (e2.symm.trans e0) (by decide)
      · exact h1
    refine g_aload_n F 1 dX6_frame_21 rfl rfl ?_
    refine g_callVv (na := 0) F 16 _ (c_X6_records hj M.thr) (by decide) rfl rfl lk_X6_90 rfl rfl (by decide +kernel) ⟨rfl, rfl, Nat.le_of_ble_eq_true rfl, Nat.le_of_ble_eq_true rfl, Nat.le_of_ble_eq_true rfl, Nat.le_of_ble_eq_true rfl, Nat.le_of_ble_eq_true rfl⟩ dX6_frame_22 (fun u_22 h_22 => ?_)
    obtain ⟨ia, rfl, M2, fh⟩ := h_22
    try dsimp only
    refine g_aload_n F 1 dX6_frame_25 rfl rfl ?_
    refine g_iload_n F 2 dX6_frame_26 rfl rfl ?_
    refine g_iload_n F 3 dX6_frame_27 rfl rfl ?_
    refine g_iload_n F 4 dX6_frame_28 rfl rfl ?_
    refine g_callIv (na := 3) F 16 _ (c_X6_comes hj V ⟨i_le.mp OK.2.1.1, i_le.mp OK.2.1.2⟩) (by decide) rfl rfl lk_X6_66 rfl rfl (by decide +kernel) ⟨rfl, rfl, Nat.le_of_ble_eq_true rfl, Nat.le_of_ble_eq_true rfl, Nat.le_of_ble_eq_true rfl, Nat.le_of_ble_eq_true rfl, Nat.le_of_ble_eq_true rfl⟩ dX6_frame_29 (fun r_29 u_29 h_29 => ?_)
    obtain ⟨rfl, rfl⟩ := h_29
    try dsimp only
    refine g_iret F hr hlk rfl dX6_frame_32 ?_
    exact ⟨((comS n a d t σ).2, (comS n a d t σ).1), Or.inr ⟨OK, by rw [V.nofe]⟩, MCH.ok M2 fh rfl (com_nn (by omega)) rfl⟩
  · refine g_iload F 0 dX6_frame_18 rfl ?_
    refine g_iret F hr hlk rfl dX6_frame_20 ?_
    rcases hc with ⟨h1, e2⟩ | ⟨h1, e2⟩
    · exact ⟨(-2, σ), Or.inl ⟨h1, rfl⟩, MCH.err M (ex4_11.trans e2) (show (-2 : Int32) < 0 by decide) rfl⟩
    · exact absurd (ex4_11.trans e2) c_15
set_option maxHeartbeats 4000000 in
set_option maxRecDepth 100000 in
theorem c_X6_shorts {l : Launch} {G : Gm} (hj : Aj G) {I : Ii} {pm : Pm} {σ : Sg} {n h : Nat} (V : Iv n h σ) {hn : Nat} {hist : Nat → Sg} (M : MXH I hn hist) {b t : Int32} : CI l G yX6_shorts (wz yX6_shorts cX6_shorts 5 (some .int)) (rmL 2) [.ref (G.2.2 16 0), .int b, .int t] (upR I 17 0 σ) pm (fun r u => ∃ q, shoR b t σ q ∧ MCH I pm u r q σ hn hist) := by
  have hn8 := V.2.1
  have hh20 := V.2.2.2.1
  refine CI.walk hj (by decide +kernel) (by show _ ≤ 5; exact Nat.le_of_ble_eq_true rfl) ?_
  intro p e s m args below meth c F hr hlk
  refine g_aload_n F 0 dX6_shorts_0 rfl rfl ?_
  refine g_iconst (v := 0) F dX6_shorts_1 (by decide) ?_
  refine gp_16_0 F (by decide) mFL_X6_32 dX6_shorts_2 ?_
  refine g_I (wr16 (by decide)) ?_
  refine g_iload_n F 1 dX6_shorts_5 rfl rfl ?_
  refine g_iload_n F 2 dX6_shorts_6 rfl rfl ?_
  refine g_callIs (na := 2) F (c_X6_refusesShorts hj) lk_X6_102 rfl rfl (by decide +kernel) ⟨rfl, rfl, Nat.le_of_ble_eq_true rfl, Nat.le_of_ble_eq_true rfl, Nat.le_of_ble_eq_true rfl, Nat.le_of_ble_eq_true rfl, Nat.le_of_ble_eq_true rfl⟩ dX6_shorts_7 (fun r_7 u_7 h_7 => ?_)
  obtain ⟨hc, rfl⟩ := h_7
  try dsimp only
  refine g_topi (fun x3_10 ex3_10 => ?_)
  refine g_istore_n (L' := [(3, _), (0, _), (1, _), (2, _)]) F dX6_shorts_10 rfl (by decide) rfl ?_
  refine g_iload_n F 0 dX6_shorts_11 rfl rfl ?_
  refine g_if_eq F 17 dX6_shorts_12 (by decide) (fun c_12 => ?_) (fun c_12 => ?_)
  · have OK : (0 ≤ b ∧ b ≤ 7) ∧ (0 ≤ t ∧ t ≤ 99) := by
      have e0 := ex3_10.symm.trans c_12
      rcases hc with ⟨-, e2⟩ | ⟨-, -, e2⟩ | ⟨h1, h2, -⟩
      · exact absurd (e2.symm.trans e0) (by decide)
      · exact absurd (e2.symm.trans e0) (by decide)
      · exact ⟨h1, h2⟩
    have RG := rng (M := 7) (m := 7) rfl OK.1.1 OK.1.2
    have RG1 := RG.1
    refine g_aload_n F 1 dX6_shorts_17 rfl rfl ?_
    refine g_callVv (na := 0) F 16 _ (c_X6_records hj M.thr) (by decide) rfl rfl lk_X6_90 rfl rfl (by decide +kernel) ⟨rfl, rfl, Nat.le_of_ble_eq_true rfl, Nat.le_of_ble_eq_true rfl, Nat.le_of_ble_eq_true rfl, Nat.le_of_ble_eq_true rfl, Nat.le_of_ble_eq_true rfl⟩ dX6_shorts_18 (fun u_18 h_18 => ?_)
    obtain ⟨ia, rfl, M2, fh⟩ := h_18
    try dsimp only
    refine g_aload_n F 1 dX6_shorts_21 rfl rfl ?_
    refine gf_16_1 F (by decide) mFL_X6_7 dX6_shorts_22 ?_
    refine g_bipush (v := 8) F dX6_shorts_25 (by decide) ?_
    refine g_iload_n F 2 dX6_shorts_27 rfl rfl ?_
    refine g_iadd F dX6_shorts_28 ?_
    refine ga_17 (j := (8 + b.toInt.toNat)) F (by decide) (nx_add (a := 8) rfl RG.2) (by omega) dX6_shorts_29 ?_
    refine g_eqi rd17 ?_
    refine g_topi (fun x4_30 ex4_30 => ?_)
    refine g_istore (L' := [(4, _), (3, _), (0, _), (1, _), (2, _)]) F dX6_shorts_30 (by decide) rfl ?_
    refine g_aload_n F 2 dX6_shorts_32 rfl rfl ?_
    refine gf_16_1 F (by decide) mFL_X6_7 dX6_shorts_33 ?_
    refine g_bipush (v := 8) F dX6_shorts_36 (by decide) ?_
    refine g_iload_n F 3 dX6_shorts_38 rfl rfl ?_
    refine g_iadd F dX6_shorts_39 ?_
    refine g_iload_n F 4 dX6_shorts_40 rfl rfl ?_
    refine gs_17 (j := (8 + b.toInt.toNat)) F (by decide) (nx_add (a := 8) rfl RG.2) (by omega) dX6_shorts_41 ?_
    refine g_I wr17 ?_
    refine g_iload F 0 dX6_shorts_42 rfl ?_
    refine g_iret F hr hlk rfl dX6_shorts_44 ?_
    exact ⟨(σ (8 + b.toInt.toNat), upd σ (8 + b.toInt.toNat) t), Or.inr (Or.inr ⟨OK.1, OK.2, rfl⟩), MCH.ok M2 fh (by first | exact ex4_30 | rfl) (nneg_i (V.2.2.2.2.2.1 _ (by omega)).1) rfl⟩
  · refine g_iload_n F 0 dX6_shorts_15 rfl rfl ?_
    refine g_iret F hr hlk rfl dX6_shorts_16 ?_
    rcases hc with ⟨h1, e2⟩ | ⟨h1, h2, e2⟩ | ⟨h1, h2, e2⟩
    · exact ⟨(-1, σ), Or.inl ⟨h1, rfl⟩, MCH.err M (ex3_10.trans e2) (show (-1 : Int32) < 0 by decide) rfl⟩
    · exact ⟨(-2, σ), Or.inr (Or.inl ⟨h1, h2, rfl⟩), MCH.err M (ex3_10.trans e2) (show (-2 : Int32) < 0 by decide) rfl⟩
    · exact absurd (ex3_10.trans e2) c_12
set_option maxHeartbeats 4000000 in
set_option maxRecDepth 100000 in
theorem c_X6_pass {l : Launch} {G : Gm} (hj : Aj G) {I : Ii} {pm : Pm} {σ : Sg} {n h : Nat} (V : Iv n h σ) {hn : Nat} {hist : Nat → Sg} (M : MXH I hn hist) {x : Int32} : CI l G yX6_pass (wz yX6_pass cX6_pass 3 (some .int)) (rmL 7) [.ref (G.2.2 16 0), .int x] (upR I 17 0 σ) pm (fun r u => ∃ q, pasR x σ q ∧ MCH I pm u r q σ hn hist) := by
  have hn8 := V.2.1
  have hh20 := V.2.2.2.1
  refine CI.walk hj (by decide +kernel) (by show _ ≤ 3; exact Nat.le_of_ble_eq_true rfl) ?_
  intro p e s m args below meth c F hr hlk
  refine g_aload_n F 0 dX6_pass_0 rfl rfl ?_
  refine g_iconst (v := 0) F dX6_pass_1 (by decide) ?_
  refine gp_16_0 F (by decide) mFL_X6_32 dX6_pass_2 ?_
  refine g_I (wr16 (by decide)) ?_
  refine g_aload_n F 0 dX6_pass_5 rfl rfl ?_
  refine g_iload_n F 1 dX6_pass_6 rfl rfl ?_
  refine g_callIv (na := 1) F 16 _ (c_X6_refusesPass hj) (by decide) rfl rfl lk_X6_106 rfl rfl (by decide +kernel) ⟨rfl, rfl, Nat.le_of_ble_eq_true rfl, Nat.le_of_ble_eq_true rfl, Nat.le_of_ble_eq_true rfl, Nat.le_of_ble_eq_true rfl, Nat.le_of_ble_eq_true rfl⟩ dX6_pass_7 (fun r_7 u_7 h_7 => ?_)
  obtain ⟨hc, rfl⟩ := h_7
  try dsimp only
  refine g_topi (fun x2_10 ex2_10 => ?_)
  refine g_istore_n (L' := [(2, _), (0, _), (1, _)]) F dX6_pass_10 rfl (by decide) rfl ?_
  refine g_iload_n F 0 dX6_pass_11 rfl rfl ?_
  refine g_if_eq F 17 dX6_pass_12 (by decide) (fun c_12 => ?_) (fun c_12 => ?_)
  · have OK : (1 ≤ x ∧ x ≤ 99) ∧ ¬ 99999 < σ 0 + x := by
      have e0 := ex2_10.symm.trans c_12
      rcases hc with ⟨-, e2⟩ | ⟨-, -, e2⟩ | ⟨h1, h2, -⟩
      · exact absurd (e2.symm.trans e0) (by decide)
      · exact absurd (e2.symm.trans e0) (by decide)
      · exact ⟨h1, h2⟩
    have RG := rng (M := 99) (m := 99) rfl (Int32.le_trans (by decide) OK.1.1) OK.1.2
    have RG1 := RG.1
    refine g_aload_n F 1 dX6_pass_17 rfl rfl ?_
    refine g_callVv (na := 0) F 16 _ (c_X6_records hj M.thr) (by decide) rfl rfl lk_X6_90 rfl rfl (by decide +kernel) ⟨rfl, rfl, Nat.le_of_ble_eq_true rfl, Nat.le_of_ble_eq_true rfl, Nat.le_of_ble_eq_true rfl, Nat.le_of_ble_eq_true rfl, Nat.le_of_ble_eq_true rfl⟩ dX6_pass_18 (fun u_18 h_18 => ?_)
    obtain ⟨ia, rfl, M2, fh⟩ := h_18
    try dsimp only
    refine g_aload_n F 1 dX6_pass_21 rfl rfl ?_
    refine g_iload_n F 2 dX6_pass_22 rfl rfl ?_
    refine g_callIv (na := 1) F 16 _ (c_X6_ticks hj V RG.2 (by omega)) (by decide) rfl rfl lk_X6_109 rfl rfl (by decide +kernel) ⟨rfl, rfl, Nat.le_of_ble_eq_true rfl, Nat.le_of_ble_eq_true rfl, Nat.le_of_ble_eq_true rfl, Nat.le_of_ble_eq_true rfl, Nat.le_of_ble_eq_true rfl⟩ dX6_pass_23 (fun r_23 u_23 h_23 => ?_)
    obtain ⟨rfl, rfl⟩ := h_23
    try dsimp only
    refine g_iret F hr hlk rfl dX6_pass_26 ?_
    exact ⟨((itS n h σ x.toInt.toNat).2, (itS n h σ x.toInt.toNat).1), Or.inr (Or.inr ⟨OK.1, OK.2, by rw [V.nofe, V.hofe]⟩), MCH.ok M2 fh rfl (it_nn (by omega)) rfl⟩
  · refine g_iload_n F 0 dX6_pass_15 rfl rfl ?_
    refine g_iret F hr hlk rfl dX6_pass_16 ?_
    rcases hc with ⟨h1, e2⟩ | ⟨h1, h2, e2⟩ | ⟨h1, h2, e2⟩
    · exact ⟨(-2, σ), Or.inl ⟨h1, rfl⟩, MCH.err M (ex2_10.trans e2) (show (-2 : Int32) < 0 by decide) rfl⟩
    · exact ⟨(-5, σ), Or.inr (Or.inl ⟨h1, h2, rfl⟩), MCH.err M (ex2_10.trans e2) (show (-5 : Int32) < 0 by decide) rfl⟩
    · exact absurd (ex2_10.trans e2) c_12
