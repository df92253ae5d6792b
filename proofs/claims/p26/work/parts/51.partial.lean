/-! PART 51: a partial world: names that stand already; the machine of the constructors -/
def WQ (G : Gm) (S : Nat → Nat → Prop) (E : Nat → Nat → va_E) (sz : Nat) (H : Heap) : Prop := H.size = sz ∧ ∀ K i, S K i → i < cbK K ∧ G.2.2 K i < sz ∧ va_at G.1 vwCl (G.2.2 K i, E K i) H
/-- the constructors' links of nest mates -/
def NC (U : State) : Prop := va_Nw (.methodLinkNest RX1 19 yX4_init RX5) U ∧ va_Nw (.methodLinkNest RX1 28 yX2_init RX5) U ∧ va_Nw (.methodLinkNest RX5 36 yX3_init RX5) U ∧ va_AO RX1 U ∧ va_AO RX2 U
theorem NC.warm {s U : State} (hW : s.WarmedH U.vm) (h : NC s) : NC U := ⟨h.1.warmM hW, h.2.1.warmM hW, h.2.2.1.warmM hW, h.2.2.2.1.moved hW.alike, h.2.2.2.2.moved hW.alike⟩
theorem NC.same {s U : State} (hW : s.vm = U.vm) (h : NC s) : NC U := ⟨h.1.same rfl hW, h.2.1.same rfl hW, h.2.2.1.same rfl hW, h.2.2.2.1.moved (by rw [hW]; exact Vm.Alike.refl U.vm), h.2.2.2.2.moved (by rw [hW]; exact Vm.Alike.refl U.vm)⟩
def FN (p : Program) (s : State) (m : MethodId) (args : Array Value) (c : Code) (cc : ByteArray) (nL : Nat) (own : String) (G : Gm) (A : Nat → Prop) : Prop := CallFix p m c cc nL s args wsL_law own ∧ va_K G.1 vwCl (tyz G) s ∧ NC s ∧ Aj G ∧ ∀ q, s.heap.size ≤ q → A q
def GN (p : Program) (l : Launch) (e : Env) (R : Room) (s : State) (m : MethodId) (args : Array Value) (below : List Frame) (meth : Method) (c : Code) (G : Gm) (A : Nat → Prop) (nL ce sl : Nat) (Q : State → Prop) (S : Nat → Nat → Prop) (E : Nat → Nat → va_E) (sz : Nat) (L : List (Nat × Value)) (pc : Nat) (st : List Value) : Prop :=
  ∀ (H : Heap) (locs : List Loc) (ls : Array Slot), WQ G S E sz H → va_S A s.heap H locs → lv_has ls nL L → W p l e R s m args below meth c H locs ce sl Q (F0 m pc ls st)
section NROWS
variable {p : Program} {l : Launch} {e : Env} {R : Room} {s : State} {m : MethodId} {args : Array Value} {below : List Frame} {meth : Method} {c : Code} {G : Gm} {A : Nat → Prop} {nL ce sl : Nat} {Q : State → Prop} {S : Nat → Nat → Prop} {E : Nat → Nat → va_E} {sz : Nat} {L : List (Nat × Value)} {pc : Nat} {st rest : List Value} {cc : ByteArray} {own : String}
theorem n_iconst (F : FN p s m args c cc nL own G A) {n : Int} {v : Int32} (hd : decode cc pc = .ok (.iconst n, 1)) (hv : Int32.ofInt n = v) (k : GN p l e R s m args below meth c G A nL ce sl Q S E sz L (pc + 1) (.int v :: st)) : GN p l e R s m args below meth c G A nL ce sl Q S E sz L pc st := fun H locs ls h1 h2 h3 => lv_iconst F.1.1 F.1.2.1 hd hv (k H locs ls h1 h2 h3)
theorem n_bipush (F : FN p s m args c cc nL own G A) {n : Int} {v : Int32} (hd : decode cc pc = .ok (.bipush n, 2)) (hv : (Int8.ofInt n).toInt32 = v) (k : GN p l e R s m args below meth c G A nL ce sl Q S E sz L (pc + 2) (.int v :: st)) : GN p l e R s m args below meth c G A nL ce sl Q S E sz L pc st := fun H locs ls h1 h2 h3 => lv_bipush F.1.1 F.1.2.1 hd hv (k H locs ls h1 h2 h3)
theorem n_sipush (F : FN p s m args c cc nL own G A) {n : Int} {v : Int32} (hd : decode cc pc = .ok (.sipush n, 3)) (hv : (Int16.ofInt n).toInt32 = v) (k : GN p l e R s m args below meth c G A nL ce sl Q S E sz L (pc + 3) (.int v :: st)) : GN p l e R s m args below meth c G A nL ce sl Q S E sz L pc st := fun H locs ls h1 h2 h3 => lv_sipush F.1.1 F.1.2.1 hd hv (k H locs ls h1 h2 h3)
theorem n_iload_n (F : FN p s m args c cc nL own G A) {k : Fin 4} {i : Nat} {x : Int32} (j : Nat) (hd : decode cc pc = .ok (.iload_n k, 1)) (hi : (k : Nat) = i) (hl : L[j]? = some (i, .int x)) (kk : GN p l e R s m args below meth c G A nL ce sl Q S E sz L (pc + 1) (.int x :: st)) : GN p l e R s m args below meth c G A nL ce sl Q S E sz L pc st := fun H locs ls h1 h2 h3 => lv_iload_n F.1.1 F.1.2.1 hd hi (lv_at h3 j hl) (kk H locs ls h1 h2 h3)
theorem n_aload_n (F : FN p s m args c cc nL own G A) {k : Fin 4} {i x : Nat} (j : Nat) (hd : decode cc pc = .ok (.aload_n k, 1)) (hi : (k : Nat) = i) (hl : L[j]? = some (i, .ref x)) (kk : GN p l e R s m args below meth c G A nL ce sl Q S E sz L (pc + 1) (.ref x :: st)) : GN p l e R s m args below meth c G A nL ce sl Q S E sz L pc st := fun H locs ls h1 h2 h3 => lv_aload_n F.1.1 F.1.2.1 hd hi (lv_at h3 j hl) (kk H locs ls h1 h2 h3)
theorem n_istore_n (F : FN p s m args c cc nL own G A) {k : Fin 4} {i : Nat} {x : Int32} {L' : List (Nat × Value)} (hd : decode cc pc = .ok (.istore_n k, 1)) (hi : (k : Nat) = i) (hn : i < nL) (hl : (i, Value.int x) :: L.filter (fun q => !(q.1 == i) && !(q.1 + 1 == i && q.2.category == 2)) = L') (kk : GN p l e R s m args below meth c G A nL ce sl Q S E sz L' (pc + 1) rest) : GN p l e R s m args below meth c G A nL ce sl Q S E sz L pc (.int x :: rest) := fun H locs ls h1 h2 h3 => lv_istore_n F.1.1 F.1.2.1 hd hi h3 hn hl (fun ls' h' => kk H locs ls' h1 h2 h')
theorem n_iinc (F : FN p s m args c cc nL own G A) {i : Nat} {n : Int} {x v : Int32} {L' : List (Nat × Value)} (j : Nat) (hd : decode cc pc = .ok (.iinc i n, 3)) (hk : L[j]? = some (i, .int x)) (hv : x + Int32.ofInt n = v) (hn : i < nL) (hl : (i, Value.int v) :: L.filter (fun q => !(q.1 == i) && !(q.1 + 1 == i && q.2.category == 2)) = L') (kk : GN p l e R s m args below meth c G A nL ce sl Q S E sz L' (pc + 3) st) : GN p l e R s m args below meth c G A nL ce sl Q S E sz L pc st := fun H locs ls h1 h2 h3 => lv_iinc F.1.1 F.1.2.1 hd h3 hk hv hn hl (fun ls' h' => kk H locs ls' h1 h2 h')
theorem n_goto (F : FN p s m args c cc nL own G A) {off : Int} (tgt : Nat) (hd : decode cc pc = .ok (.goto off, 3)) (ht : (pc : Int) + off = (tgt : Int)) (k : GN p l e R s m args below meth c G A nL ce sl Q S E sz L tgt st) : GN p l e R s m args below meth c G A nL ce sl Q S E sz L pc st := fun H locs ls h1 h2 h3 => lv_goto F.1.1 F.1.2.1 hd ht (k H locs ls h1 h2 h3)
theorem n_dup (F : FN p s m args c cc nL own G A) {v : Value} (hd : decode cc pc = .ok (.dup, 1)) (hv : v.category = 1) (k : GN p l e R s m args below meth c G A nL ce sl Q S E sz L (pc + 1) (v :: v :: rest)) : GN p l e R s m args below meth c G A nL ce sl Q S E sz L pc (v :: rest) := fun H locs ls h1 h2 h3 => lv_dup F.1.1 F.1.2.1 hd hv (k H locs ls h1 h2 h3)
theorem n_icmp_ge (F : FN p s m args c cc nL own G A) {x y : Int32} {off : Int} (tgt : Nat) (hd : decode cc pc = .ok (.if_icmp .ge off, 3)) (ht : (pc : Int) + off = (tgt : Int)) (kt : y ≤ x → GN p l e R s m args below meth c G A nL ce sl Q S E sz L tgt rest) (kf : ¬ y ≤ x → GN p l e R s m args below meth c G A nL ce sl Q S E sz L (pc + 3) rest) : GN p l e R s m args below meth c G A nL ce sl Q S E sz L pc (.int y :: .int x :: rest) := fun H locs ls h1 h2 h3 => lv_icmp_ge F.1.1 F.1.2.1 hd ht (fun q => kt q H locs ls h1 h2 h3) (fun q => kf q H locs ls h1 h2 h3)
theorem n_sub {L' : List (Nat × Value)} (ks : List Nat) (hl : lv_pick L ks = L') (k : GN p l e R s m args below meth c G A nL ce sl Q S E sz L' pc st) : GN p l e R s m args below meth c G A nL ce sl Q S E sz L pc st := fun H locs ls h1 h2 h3 => k H locs ls h1 h2 (lv_sub h3 ks hl)
theorem n_topi {x : Int32} (k : ∀ y : Int32, y = x → GN p l e R s m args below meth c G A nL ce sl Q S E sz L pc (.int y :: rest)) : GN p l e R s m args below meth c G A nL ce sl Q S E sz L pc (.int x :: rest) := k x rfl
def adS (S : Nat → Nat → Prop) (K i : Nat) : Nat → Nat → Prop := fun a b => S a b ∨ (a = K ∧ b = i)
def upE (E : Nat → Nat → va_E) (K i : Nat) (v : va_E) : Nat → Nat → va_E := fun a b => if a = K ∧ b = i then v else E a b
theorem WQ.push {H H1 : Heap} {K i : Nat} {v : va_E} (h : WQ G S E sz H) (hi : i < cbK K) (hK : G.2.2 K i = sz) (z : H1.size = sz + 1) (o1 : ∀ q : Nat, q < sz → H1[q]? = H[q]?) (hv : va_at G.1 vwCl (sz, v) H1) : WQ G (adS S K i) (upE E K i v) (sz + 1) H1 := by
  refine ⟨z, fun a b hab => ?_⟩
  unfold upE
  by_cases q : a = K ∧ b = i
  · obtain ⟨rfl, rfl⟩ := q
    rw [if_pos ⟨rfl, rfl⟩, hK]
    exact ⟨hi, Nat.lt_succ_self _, hv⟩
  · rw [if_neg q]
    obtain ⟨h1, h2, h3⟩ := h.2 a b (hab.resolve_right q)
    exact ⟨h1, Nat.lt_succ_of_lt h2, h3.kept (o1 _ h2)⟩
theorem WQ.set {H H1 : Heap} {K i : Nat} {v : va_E} (h : WQ G S E sz H) (hj : Aj G) (hS : S K i) (z : H1.size = H.size) (oq : ∀ q : Nat, q ≠ G.2.2 K i → H1[q]? = H[q]?) (hv : va_at G.1 vwCl (G.2.2 K i, v) H1) : WQ G S (upE E K i v) sz H1 := by
  refine ⟨z.trans h.1, fun a b hab => ?_⟩
  obtain ⟨h1, h2, h3⟩ := h.2 a b hab
  unfold upE
  by_cases q : a = K ∧ b = i
  · obtain ⟨rfl, rfl⟩ := q
    rw [if_pos ⟨rfl, rfl⟩]
    exact ⟨h1, h2, hv⟩
  · rw [if_neg q]
    exact ⟨h1, h2, h3.kept (oq _ (fun e => q (hj a b K i h1 (h.2 K i hS).1 e)))⟩
theorem vaS_push {A : Nat → Prop} {H0 H H1 : Heap} {locs : List Loc} (hS : va_S A H0 H locs) (z : H1.size = H.size + 1) (o1 : ∀ q : Nat, q < H.size → H1[q]? = H[q]?) : va_S A H0 H1 locs := ⟨Nat.le_trans hS.1 (by omega), fun x h1 h2 => (o1 x (Nat.lt_of_lt_of_le h1 hS.1)).trans (hS.2.1 x h1 h2), hS.2.2⟩
theorem n_new (F : FN p s m args c cc nL own G A) {C : String} {T : u_T} {N ci index K i : Nat} (hin : ∀ w ∈ u_ws C T N, w ∈ wsL_law) (ty : Nat → FieldType) (hty : ∀ k, k < N → parseFieldDescriptor (T k).2.2.1 = some (ty k)) (hcl : Cond.classLink own index C ∈ wsL_law) (hinst : Cond.instantiable C N ∈ wsL_law) (hini : Cond.initialized C ∈ wsL_law) (hc : vwCl[ci]? = some (C, T, N)) {fs : List Value} (hfs : ∀ j, j < N → defaultValue (ty j) = vp_V fs j) (hcells : ce + 1 ≤ R.cells) (hslots : sl + N ≤ R.slots) (hi : i < cbK K) (hK : G.2.2 K i = sz) (hd : decode cc pc = .ok (.new index, 3))
    (kk : GN p l e R s m args below meth c G A nL (ce + 1) (sl + N) Q (adS S K i) (upE E K i (.inr (ci, fs))) (sz + 1) L (pc + 3) (.ref (G.2.2 K i) :: rest)) : GN p l e R s m args below meth c G A nL ce sl Q S E sz L pc rest := by
  intro H locs ls h1 h2 h3
  have hKn := F.2.1.1 ci _ hc
  have w := F.1.2.2.2.2
  refine W.newcK F.1.1 F.1.2.1 F.1.2.2.2.1 (w _ hcl) (w _ hinst) (w _ hini) rfl hd hcells hslots hKn.2.1 rfl fun H1 kC hkC e1 z1 o1 => ?_
  have hz := h1.1
  rw [hz] at e1 z1 o1 ⊢
  have := kk H1 locs ls (h1.push hi hK z1 o1 ⟨_, hc, (u_born ty w hin hKn hkC e1 hty).to hfs⟩) (vaS_push h2 (by rw [z1, hz]) (by rw [hz]; exact o1)) h3
  rw [hK] at this
  exact this
theorem n_newa (F : FN p s m args c cc nL own G A) {atype : ArrayType} {ty : FieldType} (hty : newarray.typeOf atype = ty) (harr : Cond.arrayClass ty ∈ wsL_law) (t0 : Nat) (ht : (tyz G)[t0]? = some (G.2.1 t0, ty)) (hra : va_RA s (G.2.1 t0) ty → s.vm.findClass ("[" ++ ty.toString) = some (G.2.1 t0)) (hdf : defaultValue ty = .int 0) {K i N' : Nat} {n : Int32} (hn : ¬ n < 0) (hN : n.toNatClampNeg = N') (hbytes : N' * componentBytes ty ≤ 536870912) (hcells : ce + 1 ≤ R.cells) (hslots : sl + N' ≤ R.slots) (hi : i < cbK K) (hK : G.2.2 K i = sz) (hd : decode cc pc = .ok (.newarray atype, 2))
    (kk : GN p l e R s m args below meth c G A nL (ce + 1) (sl + N') Q (adS S K i) (upE E K i (.inl (G.2.1 t0, N', .inl (fun _ => 0)))) (sz + 1) L (pc + 2) (.ref (G.2.2 K i) :: rest)) : GN p l e R s m args below meth c G A nL ce sl Q S E sz L pc (.int n :: rest) := by
  subst hty
  intro H locs ls h1 h2 h3
  have hz := h1.1
  refine va_newaK F.1.1 F.1.2.1 (F.1.2.2.2.2 _ harr) rfl hd rfl hn hN hbytes hcells hslots hz fun H1 cA e1 z1 o1 hAr hNm => ?_
  have hcA : cA = G.2.1 t0 := Option.some.inj (hNm.symm.trans (hra (F.2.1.2 t0 _ ht).2))
  subst hcA
  have := kk H1 locs ls (h1.push hi hK z1 o1 (show H1[sz]? = some (vp_cell _ _) by rw [e1, hdf]; rfl)) (vaS_push h2 (by rw [z1, hz]) (by rw [hz]; exact o1)) h3
  rw [hK] at this
  exact this
theorem n_newq (F : FN p s m args c cc nL own G A) {C : String} {index : Nat} (hcl : Cond.classLink own index C ∈ wsL_law) (hao : va_AO C s) (t0 : Nat) (ht : (tyz G)[t0]? = some (G.2.1 t0, .object C)) {K i N' : Nat} {n : Int32} (hn : ¬ n < 0) (hN : n.toNatClampNeg = N') (hbytes : N' * 4 ≤ 536870912) (hcells : ce + 1 ≤ R.cells) (hslots : sl + N' ≤ R.slots) (hi : i < cbK K) (hK : G.2.2 K i = sz) (hd : decode cc pc = .ok (.anewarray index, 3))
    (kk : GN p l e R s m args below meth c G A nL (ce + 1) (sl + N') Q (adS S K i) (upE E K i (.inl (G.2.1 t0, N', .inr (.inr (.inr (.inr (fun _ => none))))))) (sz + 1) L (pc + 3) (.ref (G.2.2 K i) :: rest)) : GN p l e R s m args below meth c G A nL ce sl Q S E sz L pc (.int n :: rest) := by
  subst hN
  intro H locs ls h1 h2 h3
  have hz := h1.1
  refine W.anew F.1.1 F.1.2.1 F.1.2.2.2.1 (F.1.2.2.2.2 _ hcl) (va_AO.use hao) rfl hd rfl hn hbytes hcells hslots fun cA kA comp f1 f2 f3 f4 => ?_
  obtain ⟨kA2, comp2, g1, g2, g3, g4⟩ := (F.2.1.2 t0 _ ht).2
  have hcA : cA = G.2.1 t0 := Option.some.inj (f1.symm.trans g4)
  subst hcA
  generalize hH1 : H.push ({ cls := G.2.1 t0, slots := Array.replicate n.toNatClampNeg .null, vm := .none } : Cell) = H1
  have z1 : H1.size = sz + 1 := by rw [← hH1, Array.size_push, hz]
  have e1 : H1[sz]? = some (arrV (G.2.1 t0) n.toNatClampNeg (fun _ => .null)) := by rw [← hz, ← hH1, Array.getElem?_push_size, ← arrV_new]
  have o1 : ∀ q : Nat, q < sz → H1[q]? = H[q]? := fun q hq => by rw [← hH1, Array.getElem?_push, if_neg (by omega)]
  have := kk H1 locs ls (h1.push hi hK z1 o1 (show H1[sz]? = some (vp_cell _ _) by rw [e1]; rfl)) (vaS_push h2 (by rw [z1, hz]) (by rw [hz]; exact o1)) h3
  rw [hK] at this
  rw [hz]
  exact this
theorem n_put (F : FN p s m args c cc nL own G A) {C : String} {T : u_T} {N ci index K i : Nat} {fs : List Value} {v : Value} {ty : FieldType} (hin : ∀ w ∈ u_ws C T N, w ∈ wsL_law) (ty0 : Nat → FieldType) (hty : ∀ k, k < N → parseFieldDescriptor (T k).2.2.1 = some (ty0 k)) (hnm : ∀ a, a < N → ∀ b, b < N → a ≠ b → (T a).2.1 ≠ (T b).2.1) (hc : vwCl[ci]? = some (C, T, N)) (hSK : S K i) (he : E K i = .inr (ci, fs)) (k : Nat) (hk : k < N) (hw : Cond.fieldLink own index (T k).1 (T k).2.1 (T k).2.2.1 ∈ wsL_law) (hfin : (T k).2.2.2 = false ∨ ((T k).2.2.2 = true ∧ meth.name = "<init>" ∧ (T k).1 = own)) (hdt : parseFieldDescriptor (T k).2.2.1 = some ty) (hn : narrow ty v = v) (hfit : fits ty v = true) (hl : k < fs.length) (hAK : A (G.2.2 K i)) (hd : decode cc pc = .ok (.putfield index, 3))
    (kk : GN p l e R s m args below meth c G A nL ce sl Q S (upE E K i (.inr (ci, fs.set k v))) sz L (pc + 3) rest) : GN p l e R s m args below meth c G A nL ce sl Q S E sz L pc (v :: .ref (G.2.2 K i) :: rest) := by
  intro H locs ls h1 h2 h3
  have hP : va_P G.1 vwCl [(G.2.2 K i, .inr (ci, fs))] H := fun j q hq => by
    cases j with
    | zero =>
      cases hq
      have := (h1.2 K i hSK).2.2
      rw [he] at this
      exact this
    | succ j => simp at hq
  have hD : va_D (fun q => q = G.2.2 K i) [(G.2.2 K i, .inr (ci, fs))] := ⟨fun a b x y ha hb _ => by
    cases a with
    | zero => cases b with
      | zero => rfl
      | succ b => simp at hb
    | succ a => simp at ha, fun j q hq => by
    cases j with
    | zero => cases hq; rfl
    | succ j => simp at hq⟩
  have fin : ∀ H' : Heap, H'.size = H.size → (∀ q : Nat, q ≠ G.2.2 K i → H'[q]? = H[q]?) → va_at G.1 vwCl (G.2.2 K i, .inr (ci, fs.set k v)) H' → ∀ locs1, va_S A s.heap H' locs1 → W p l e R s m args below meth c H' locs1 ce sl Q (F0 m (pc + 3) ls rest) := fun H' z oq hv locs1 hS1 => kk H' locs1 ls (h1.set F.2.2.2.1 hSK z oq hv) hS1 h3
  have hap := va_apart (own := own) F.1.2.2.2.2 hin ty0 hty hnm F.2.1 hc
  have h10 := hP 0 _ rfl
  obtain ⟨r, g1, cell, q1, q2, q3, q4⟩ := h10
  have hr : r = (C, T, N) := Option.some.inj (g1.symm.trans hc)
  subst hr
  obtain ⟨hS, hfc, kC, hkC, hkind⟩ := F.2.1.1 ci _ hc
  obtain ⟨cf, kf, fi, f, hi2, hsl⟩ := hS k hk
  have hlay := F.1.2.2.2.2 _ (hin _ (u_in_lay hk))
  unfold u_lay at hlay
  have hst := (u_facts hfc hkC (u_lays F.1.2.2.2.2 hin hk) hi2).1
  rcases hfin with hfin | ⟨hfin, hin2, hdecl⟩
  · rw [if_neg (by rw [hfin]; decide)] at hlay
    have h6 := u_store hfc hkC hkind hlay hi2 hdt hn hfit
    refine W.putK F.1.1 F.1.2.1 (f := f) ⟨F.1.2.2.2.1, F.1.2.2.2.2 _ hw, ⟨_, _, _, hi2⟩, hst⟩ (by rw [q2]; exact h6) q1 q3 (by rw [hsl]; exact k2_hasslot (q4 k hk)) rfl rfl hd fun H' e1 e2 e3 => ?_
    rw [hsl] at e1 ⊢
    exact fin H' e2 e3 ⟨_, hc, t_OB.to (V := updV (vp_V fs) k v) ⟨_, e1, q2, q3, t_set q4 hap hk v⟩ (fun j _ => vp_updV_set hl v j)⟩ _ (h2.put e2 e3 hAK)
  · rw [if_pos hfin] at hlay
    have hcf : m.cls = cf := by
      obtain ⟨_, _, c', _, _, _, -, -, hf', -, -, -, hown2, -⟩ := Cond.laysFinal_spec hlay
      have e1 : c' = cf := by have := hi2.symm.trans hf'; simp at this; exact this.1.symm
      rw [hdecl] at hown2
      rw [← e1]; exact Option.some.inj (F.1.2.2.2.1.symm.trans hown2)
    have h6 := u_fits hfc hkC hkind (Or.inr hlay) hi2 hdt hn hfit
    refine W.putFinK F.1.1 F.1.2.1 F.1.2.2.2.1 (F.1.2.2.2.2 _ hw) hi2 hst hcf hin2 (by rw [q2]; exact h6) q1 q3 (by rw [hsl]; exact k2_hasslot (q4 k hk)) rfl rfl hd fun H' e1 e2 e3 => ?_
    rw [hsl] at e1 ⊢
    exact fin H' e2 e3 ⟨_, hc, t_OB.to (V := updV (vp_V fs) k v) ⟨_, e1, q2, q3, t_set q4 hap hk v⟩ (fun j _ => vp_updV_set hl v j)⟩ _ (h2.put e2 e3 hAK)
theorem n_objInit (F : FN p s m args c cc nL own G A) {idx a : Nat} (hw : Cond.methodLink own idx objectInit ∈ wsL_law) (hm : Cond.instanceMethod objectInit ∈ wsL_law) (hco : Cond.code objectInit ⟨#[0xb1]⟩ 1 none ∈ wsL_law) (hml : c.maxLocals = nL) (hfr : 1 ≤ R.frames) (hlo : 2 * (F0 m pc (#[] : Array Slot) []).monitorRoom + (rest.map fun v => v.category).sum + 12 ≤ R.locals) (hd : decode cc pc = .ok (.invokespecial idx, 3)) (kk : GN p l e R s m args below meth c G A nL ce sl Q S E sz L (pc + 3) rest) : GN p l e R s m args below meth c G A nL ce sl Q S E sz L pc (.ref a :: rest) := fun H locs ls h1 h2 h3 =>
  W.objInit F.1.1 F.1.2.1 F.1.2.2.2.1 (F.1.2.2.2.2 _ hw) (F.1.2.2.2.2 _ hm) (F.1.2.2.2.2 _ hco) rfl (by rw [hml]; exact h3.1) rfl hd hfr hlo (kk H locs ls h1 h2 h3)
theorem WQ.one {H : Heap} {K i : Nat} {v : va_E} (h : WQ G S E sz H) (hSK : S K i) (he : E K i = v) : va_P G.1 vwCl [(G.2.2 K i, v)] H := fun j q hq => by
  cases j with
  | zero =>
    cases hq
    have := (h.2 K i hSK).2.2
    rw [he] at this
    exact this
  | succ j => simp at hq
theorem n_get (F : FN p s m args c cc nL own G A) {C : String} {T : u_T} {N ci index K i : Nat} {fs : List Value} {v : Value} (hin : ∀ w ∈ u_ws C T N, w ∈ wsL_law) (hc : vwCl[ci]? = some (C, T, N)) (hSK : S K i) (he : E K i = .inr (ci, fs)) (k : Nat) (hk : k < N) (hw : Cond.fieldLink own index (T k).1 (T k).2.1 (T k).2.2.1 ∈ wsL_law) (hv : fs[k]? = some v) (hd : decode cc pc = .ok (.getfield index, 3)) (kk : GN p l e R s m args below meth c G A nL ce sl Q S E sz L (pc + 3) (v :: rest)) : GN p l e R s m args below meth c G A nL ce sl Q S E sz L pc (.ref (G.2.2 K i) :: rest) := fun H locs ls h1 h2 h3 =>
  va_get (D := G.1) (cl := vwCl) (tys := tyz G) (ws := [(G.2.2 K i, .inr (ci, fs))]) F.1.1 F.1.2.1 F.1.2.2.2.2 hin F.1.2.2.2.1 F.2.1 (h1.one hSK he) 0 rfl hc k hk (F.1.2.2.2.2 _ hw) (fun _ h => h) hv hd (kk H locs ls h1 h2 h3)
theorem n_ast (F : FN p s m args c cc nL own G A) {K i K' i' n t0 ci : Nat} {r : vw_C} {vs : List Value} {f : Nat → Option Nat} {j : Int32} (hSK : S K i) (he : E K i = .inl (G.2.1 t0, n, .inr (.inr (.inr (.inr f))))) (ht : (tyz G)[t0]? = some (G.2.1 t0, .object r.1)) (hSv : S K' i') (hev : E K' i' = .inr (ci, vs)) (hc : vwCl[ci]? = some r) (hx : vp_in j n) (hAK : A (G.2.2 K i)) (hd : decode cc pc = .ok (.aastore, 1))
    (kk : GN p l e R s m args below meth c G A nL ce sl Q S (upE E K i (.inl (G.2.1 t0, n, .inr (.inr (.inr (.inr (va_up f j.toNatClampNeg (some (G.2.2 K' i'))))))))) sz L (pc + 1) rest) : GN p l e R s m args below meth c G A nL ce sl Q S E sz L pc (.ref (G.2.2 K' i') :: .int j :: .ref (G.2.2 K i) :: rest) := by
  intro H locs ls h1 h2 h3
  have hlt : j.toNatClampNeg < n := Nat.not_le.mp fun q => hx (Or.inr q)
  have h0 : ¬ j < 0 := fun q => hx (Or.inl q)
  have hV := (h1.2 K' i' hSv).2.2
  rw [hev] at hV
  obtain ⟨r', hr', cellV, g1, g2, g3, -⟩ := hV
  have hcls := (F.2.1.1 ci r hc).2
  obtain ⟨kA, comp, k1, k2, k3, -⟩ := (F.2.1.2 t0 _ ht).2
  have hcomp : comp = G.1.1 ci := Option.some.inj (k3.symm.trans hcls.1)
  subst hcomp
  obtain ⟨kC, hkC, -⟩ := hcls.2
  have hcell := (h1.2 K i hSK).2.2
  rw [he] at hcell
  refine W.aast F.1.1 F.1.2.1 (H := H) hcell (fun q h => by cases h) (fun h => by cases h) k1 k2 rfl hkC ⟨h0, by show _ < (arrV _ _ _).slots.size; rw [arrV_size]; exact hlt⟩ g1 (fun q h => by rw [g3] at h; cases h) (by rw [g2]; exact hkC) (by rw [g2]; exact va_assign hcls) rfl rfl hd fun H1 e1 z oq => ?_
  refine kk H1 _ ls (h1.set F.2.2.2.1 hSK z oq ?_) (h2.put z oq hAK) h3
  show H1[G.2.2 K i]? = some (vp_cell _ _)
  rw [e1]
  rw [vp_cell_q, vp_cell_q, arrV_store]
  congr 2
  funext q
  by_cases hq : q = j.toNatClampNeg
  · subst hq
    simp [updV, va_up, va_rf]
  · simp [updV, va_up, hq]
end NROWS
