/-! PART 51: a partial world: names that stand already; the machine of the constructors -/
def WQ (G : Gm) (S : Nat → Nat → Prop) (E : Nat → Nat → va_E) (sz : Nat) (H : Heap) : Prop := H.size = sz ∧ ∀ K i, S K i → i < cbK K ∧ G.2.2 K i < sz ∧ va_at G.1 vwCl (G.2.2 K i, E K i) H
/-- the constructors' links of nest mates -/
def NC (U : State) : Prop := va_Nw (.methodLinkNest RX1 19 yX4_init RX4) U ∧ va_Nw (.methodLinkNest RX1 28 yX2_init RX2) U ∧ va_Nw (.methodLinkNest RX5 36 yX3_init RX3) U ∧ va_AO RX1 U ∧ va_AO RX2 U
theorem NC.warm {s U : State} (hW : s.WarmedH U.vm) (h : NC s) : NC U := ⟨h.1.warmM hW, h.2.1.warmM hW, h.2.2.1.warmM hW, h.2.2.2.1.moved hW.alike, h.2.2.2.2.moved hW.alike⟩
theorem NC.same {s U : State} (hW : s.vm = U.vm) (h : NC s) : NC U := ⟨h.1.same rfl hW, h.2.1.same rfl hW, h.2.2.1.same rfl hW, h.2.2.2.1.moved (by rw [hW]; exact Vm.Alike.refl U.vm), h.2.2.2.2.moved (by rw [hW]; exact Vm.Alike.refl U.vm)⟩
def FN (p : Program) (s : State) (m : MethodId) (args : Array Value) (c : Code) (cc : ByteArray) (nL : Nat) (own : String) (G : Gm) (A : Nat → Prop) : Prop := CallFix p m c cc nL s args wsL_law own ∧ va_K G.1 vwCl (tyz G) s ∧ NC s ∧ Aj G ∧ ∀ q, s.heap.size ≤ q → A q
def GN (p : Program) (l : Launch) (e : Env) (R : Room) (s : State) (m : MethodId) (args : Array Value) (below : List Frame) (meth : Method) (c : Code) (G : Gm) (A : Nat → Prop) (nL ce sl : Nat) (Q : State → Prop) (S : Nat → Nat → Prop) (E : Nat → Nat → va_E) (sz : Nat) (L : List (Nat × Value)) (pc : Nat) (st : List Value) : Prop :=
  ∀ (H : Heap) (locs : List Loc) (ls : Array Slot), WQ G S E sz H → va_S A s.heap H locs → lv_has ls nL L → W p l e R s m args below meth c H locs ce sl Q (F0 m pc ls st)
section NROWS
variable {p : Program} {l : Launch} {e : Env} {R : Room} {s : State} {m : MethodId} {args : Array Value} {below : List Frame} {meth : Method} {c : Code} {G : Gm} {A : Nat → Prop} {nL ce sl : Nat} {Q : State → Prop} {S : Nat → Nat → Prop} {E : Nat → Nat → va_E} {sz : Nat} {L : List (Nat × Value)} {pc : Nat} {st rest : List Value} {cc : ByteArray} {own : String}
theorem n_iconst (F : FN p s m args c cc nL own G A) {n : Int} {v : Int32} (hd : decode cc pc = .ok (.iconst n, 1)) (hv : Int32.ofInt n = v) (k : GN p l e R s m args below meth c G A nL ce sl Q S E sz L (pc + 1) (.int v :: st)) : GN p l e R s m args below meth c G A nL ce sl Q S E sz L pc st := fun H locs ls h1 h2 h3 => lv_iconst F.1.1 F.1.2.1 hd hv (k H locs ls h1 h2 h3)
theorem n_bipush (F : FN p s m args c cc nL own G A) {n : Int} {v : Int32} (hd : decode cc pc = .ok (.bipush n, 2)) (hv : (Int8.ofInt n).toInt32 = v) (k : GN p l e R s m args below meth c G A nL ce sl Q S E sz L (pc + 2) (.int v :: st)) : GN p l e R s m args below meth c G A nL ce sl Q S E sz L pc st := fun H locs ls h1 h2 h3 => lv_bipush F.1.1 F.1.2.1 hd hv (k H locs ls h1 h2 h3)
theorem n_sipush (F : FN p s m args c cc nL own G A) {n : Int} {v : Int32} (hd : decode cc pc = .ok (.sipush n, 3)) (hv : (Int16.ofInt n).toInt32 = v) (k : GN p l e R s m args below meth c G A nL ce sl Q S E sz L (pc + 3) (.int v :: st)) : GN p l e R s m args below meth c G A nL ce sl Q S E sz L pc st := fun H locs ls h1 h2 h3 => lv_sipush F.1.1 F.1.2.1 hd hv (k H locs ls h1 h2 h3)
theorem n_iload_n (F : FN p s m args c cc nL own G A) {k : Fin 4} {i : Nat} {x : Int32} (j : Nat) (hd : decode cc pc = .ok (.iload_n k, 1)) (hi : (k : Nat) = i) (hl : L[j]? = some (i, .int x)) (kk : GN p l e R s m args below meth c G A nL ce sl Q S E sz L (pc + 1) (.int x :: st)) : GN p l e R s m args below meth c G A nL ce sl Q S E sz L pc st := fun H locs ls h1 h2 h3 => lv_iload_n F.1.1 F.1.2.1 hd hi (lv_at h3 j hl) (kk H locs ls h1 h2 h3)
theorem n_aload_n (F : FN p s m args c cc nL own G A) {k : Fin 4} {i x : Nat} (j : Nat) (hd : decode cc pc = .ok (.aload_n k, 1)) (hi : (k : Nat) = i) (hl : L[j]? = some (i, .ref x)) (kk : GN p l e R s m args below meth c G A nL ce sl Q S E sz L (pc + 1) (.ref x :: st)) : GN p l e R s m args below meth c G A nL ce sl Q S E sz L pc st := fun H locs ls h1 h2 h3 => lv_aload_n F.1.1 F.1.2.1 hd hi (lv_at h3 j hl) (kk H locs ls h1 h2 h3)
theorem n_istore_n (F : FN p s m args c cc nL own G A) {k : Fin 4} {i : Nat} {x : Int32} {L' : List (Nat × Value)} (hd : decode cc pc = .ok (.istore_n k, 1)) (hi : (k : Nat) = i) (hn : i < nL) (hl : (i, Value.int x) :: L.filter (fun q => !(q.1 == i) && !(q.1 + 1 == i && q.2.category == 2)) = L') (kk : GN p l e R s m args below meth c G A nL ce sl Q S E sz L' (pc + 1) rest) : GN p l e R s m args below meth c G A nL ce sl Q S E sz L pc (.int x :: rest) := fun H locs ls h1 h2 h3 => lv_istore_n F.1.1 F.1.2.1 hd hi h3 hn hl (fun ls' h' => kk H locs ls' h1 h2 h')
theorem n_iinc (F : FN p s m args c cc nL own G A) {i : Nat} {n : Int} {x v : Int32} {L' : List (Nat × Value)} (j : Nat) (hd : decode cc pc = .ok (.iinc i n, 3)) (hk : L[j]? = some (i, .int x)) (hv : x + Int32.ofInt n = v) (hn : i < nL) (hl : (i, Value.int v) :: L.filter (fun q => !(q.1 == i) && !(q.1 + 1 == i && q.2.category == 2)) = L') (kk : GN p l e R s m args below meth c G A nL ce sl Q S E sz L' (pc + 3) st) : GN p l e R s m args below meth c G A nL ce sl Q S E sz L pc st := fun H locs ls h1 h2 h3 => lv_iinc F.1.1 F.1.2.1 hd h3 hk hv hn hl (fun ls' h' => kk H locs ls' h1 h2 h')
theorem n_goto (F : FN p s m args c cc nL own G A) {off : Int} (tgt : Nat) (hd : decode cc pc = .ok (.goto off, 3)) (ht : (pc : Int) + off = (tgt : Int)) (k : GN p l e R s m args below meth c G A nL ce sl Q S E sz L tgt st) : GN p l e R s m args below meth c G A nL ce sl Q S E sz L pc st := fun H locs ls h1 h2 h3 => lv_goto F.1.1 F.1.2.1 hd ht (k H locs ls h1 h2 h3)
theorem n_dup (F : FN p s m args c cc nL own G A) {v : Value} (hd : decode cc pc = .ok (.dup, 1)) (hv : v.category = 1) (k : GN p l e R s m args below meth c G A nL ce sl Q S E sz L (pc + 1) (v :: v :: rest)) : GN p l e R s m args below meth c G A nL ce sl Q S E sz L pc (v :: rest) := fun H locs ls h1 h2 h3 => lv_dup F.1.1 F.1.2.1 hd hv (k H locs ls h1 h2 h3)
theorem n_icmp_ge (F : FN p s m args c cc nL own G A) {x y : Int32} {off : Int} (tgt : Nat) (hd : decode cc pc = .ok (.if_icmp .ge off, 3)) (ht : (pc : Int) + off = (tgt : Int)) (kt : y ≤ x → GN p l e R s m args below meth c G A nL ce sl Q S E sz L tgt rest) (kf : ¬ y ≤ x → GN p l e R s m args below meth c G A nL ce sl Q S E sz L (pc + 3) rest) : GN p l e R s m args below meth c G A nL ce sl Q S E sz L pc (.int y :: .int x :: rest) := fun H locs ls h1 h2 h3 => lv_icmp_ge F.1.1 F.1.2.1 hd ht (fun q => kt q H locs ls h1 h2 h3) (fun q => kf q H locs ls h1 h2 h3)
theorem n_sub {L' : List (Nat × Value)} (ks : List Nat) (hl : lv_pick L ks = L') (k : GN p l e R s m args below meth c G A nL ce sl Q S E sz L' pc st) : GN p l e R s m args below meth c G A nL ce sl Q S E sz L pc st := fun H locs ls h1 h2 h3 => k H locs ls h1 h2 (lv_sub h3 ks hl)
theorem n_topi {x : Int32} (k : ∀ y : Int32, y = x → GN p l e R s m args below meth c G A nL ce sl Q S E sz L pc (.int y :: rest)) : GN p l e R s m args below meth c G A nL ce sl Q S E sz L pc (.int x :: rest) := k x rfl
def adS (S : Nat → Nat → Prop) (K i : Nat) : Nat → Nat → Prop := fun a b => S a b ∨ (a = K ∧ b = i)
def upE (E : Nat → Nat → va_E) (K i : Nat) (v : va_E) : Nat → Nat → va_E := fun a b => if a = K ∧ b = i then v else E a b
theorem WQ.push {H H1 : Heap} {K i : Nat} {v : va_E} (h : WQ G S E sz H) (hi : i < cbK K) (hK : G.2.2 K i = sz) (z : H1.size = sz + 1) (o1 : ∀ q : Nat, q < sz → H1[q]? = H[q]?) (hv : va_at G.1 vwCl (sz, v) H1) : WQ G (adS S K i) (upE E K i v) (sz + 1) H1 := by
  refine ⟨z, fun a b hab => ?_⟩
  unfold upE
  by_cases q : a = K ∧ b = i
  · obtain ⟨rfl, rfl⟩ := q
    rw [if_pos ⟨rfl, rfl⟩, hK]
    exact ⟨hi, Nat.lt_succ_self _, hv⟩
  · rw [if_neg q]
    obtain ⟨h1, h2, h3⟩ := h.2 a b (hab.resolve_right q)
    exact ⟨h1, Nat.lt_succ_of_lt h2, h3.kept (o1 _ h2)⟩
theorem WQ.set {H H1 : Heap} {K i : Nat} {v : va_E} (h : WQ G S E sz H) (hj : Aj G) (hS : S K i) (z : H1.size = H.size) (oq : ∀ q : Nat, q ≠ G.2.2 K i → H1[q]? = H[q]?) (hv : va_at G.1 vwCl (G.2.2 K i, v) H1) : WQ G S (upE E K i v) sz H1 := by
  refine ⟨z.trans h.1, fun a b hab => ?_⟩
  obtain ⟨h1, h2, h3⟩ := h.2 a b hab
  unfold upE
  by_cases q : a = K ∧ b = i
  · obtain ⟨rfl, rfl⟩ := q
    rw [if_pos ⟨rfl, rfl⟩]
    exact ⟨h1, h2, hv⟩
  · rw [if_neg q]
    exact ⟨h1, h2, h3.kept (oq _ (fun e => q (hj a b K i h1 (h.2 K i hS).1 e)))⟩
theorem vaS_push {A : Nat → Prop} {H0 H H1 : Heap} {locs : List Loc} (hS : va_S A H0 H locs) (z : H1.size = H.size + 1) (o1 : ∀ q : Nat, q < H.size → H1[q]? = H[q]?) : va_S A H0 H1 locs := ⟨Nat.le_trans hS.1 (by omega), fun x h1 h2 => (o1 x (Nat.lt_of_lt_of_le h1 hS.1)).trans (hS.2.1 x h1 h2), hS.2.2⟩
theorem n_new (F : FN p s m args c cc nL own G A) {C : String} {T : u_T} {N ci index K i : Nat} (hin : ∀ w ∈ u_ws C T N, w ∈ wsL_law) (ty : Nat → FieldType) (hty : ∀ k, k < N → parseFieldDescriptor (T k).2.2.1 = some (ty k)) (hcl : Cond.classLink own index C ∈ wsL_law) (hinst : Cond.instantiable C N ∈ wsL_law) (hini : Cond.initialized C ∈ wsL_law) (hc : vwCl[ci]? = some (C, T, N)) {fs : List Value} (hfs : ∀ j, j < N → defaultValue (ty j) = vp_V fs j) (hcells : ce + 1 ≤ R.cells) (hslots : sl + N ≤ R.slots) (hi : i < cbK K) (hK : G.2.2 K i = sz) (hd : decode cc pc = .ok (.new index, 3))
    (kk : GN p l e R s m args below meth c G A nL (ce + 1) (sl + N) Q (adS S K i) (upE E K i (.inr (ci, fs))) (sz + 1) L (pc + 3) (.ref (G.2.2 K i) :: rest)) : GN p l e R s m args below meth c G A nL ce sl Q S E sz L pc rest := by
  intro H locs ls h1 h2 h3
  have hKn := F.2.1.1 ci _ hc
  have w := F.1.2.2.2.2
  refine W.newcK F.1.1 F.1.2.1 F.1.2.2.2.1 (w _ hcl) (w _ hinst) (w _ hini) rfl hd hcells hslots hKn.2.1 rfl fun H1 kC hkC e1 z1 o1 => ?_
  have hz := h1.1
  rw [hz] at e1 z1 o1 ⊢
  have := kk H1 locs ls (h1.push hi hK z1 o1 ⟨_, hc, (u_born ty w hin hKn hkC e1 hty).to hfs⟩) (vaS_push h2 (by rw [z1, hz]) (by rw [hz]; exact o1)) h3
  rw [hK] at this
  exact this
end NROWS
