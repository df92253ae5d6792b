/-! THE WORLD of this claim: every cell has a name (kind, number); ad gives its address. Kinds: 0 Layout, 1 its row of locos, 2 Station, 3..5 its rows, 6 shortTicks, 7 Loco (8 * layout + number), 8 the class, 9 History, 10 its row, 11 slots, 12 saved, 13 Pad, 14 text, 15 numbers, 16 the reference, 17 s, 18 aside, 19 undos, 20 slots, 21 hasSlot, 22 pad, 23 told -/
abbrev Ii : Type := Nat → Nat → Nat → Int32
abbrev Pm : Type := Nat → Nat → Nat
abbrev Gm : Type := va_G × (Nat → ClassId) × (Nat → Nat → Nat)
def cbK : Nat → Nat
  | 0 => 11
  | 1 => 11
  | 2 => 11
  | 3 => 11
  | 4 => 11
  | 5 => 11
  | 6 => 11
  | 7 => 88
  | 8 => 1
  | 9 => 1
  | 10 => 1
  | 11 => 1
  | 12 => 1
  | 13 => 1
  | 14 => 1
  | 15 => 1
  | _ => 0
def cvv (cy : Nat → ClassId) (ad : Nat → Nat → Nat) (I : Ii) (pm : Pm) (K i : Nat) : va_E := match K with
  | 0 => .inr (1, [.ref (ad 1 i), .ref (ad 2 i), .ref (ad 6 i), .int (I 0 i 3), .int (I 0 i 4), .int (I 0 i 5), .int (I 0 i 6), .int (I 0 i 7), .int (I 0 i 8), .int (I 0 i 9)])
  | 1 => .inl (cy 4, 8, .inr (.inr (.inr (.inr (fun r => some (ad 7 (8 * i + pm i r)))))))
  | 2 => .inr (4, [.ref (ad 3 i), .ref (ad 4 i), .ref (ad 5 i), .int (I 2 i 3)])
  | 3 => .inl (cy 1, 20, .inl (I 3 i))
  | 4 => .inl (cy 1, 20, .inl (I 4 i))
  | 5 => .inl (cy 1, 20, .inl (I 5 i))
  | 6 => .inl (cy 1, 8, .inl (I 6 i))
  | 7 => .inr (2, [.int (I 7 i 0), .int (I 7 i 1), .int (I 7 i 2), .int (I 7 i 3), .int (I 7 i 4), .int (I 7 i 5), .int (I 7 i 6), .int (I 7 i 7), .int (I 7 i 8), .int (I 7 i 9), .int (I 7 i 10)])
  | 8 => .inr (5, [.ref (ad 0 0), .ref (ad 0 1), .ref (ad 9 0), .ref (ad 11 0), .ref (ad 12 0), .ref (ad 13 0)])
  | 9 => .inr (0, [.ref (ad 10 0), .int (I 9 i 1), .int (I 9 i 2)])
  | 10 => .inl (cy 3, 7, .inr (.inr (.inr (.inr (fun r => some (ad 0 (4 + r)))))))
  | 11 => .inl (cy 3, 2, .inr (.inr (.inr (.inr (fun r => some (ad 0 (2 + r)))))))
  | 12 => .inl (cy 2, 2, .inl (I 12 i))
  | 13 => .inr (3, [.ref (ad 14 0), .int (I 13 i 1), .int (I 13 i 2), .int (I 13 i 3), .ref (ad 15 0), .int (I 13 i 5)])
  | 14 => .inl (cy 0, 80, .inl (I 14 i))
  | 15 => .inl (cy 1, 3, .inl (I 15 i))
  | _ => .inl (cy 1, 0, .inl (fun _ => 0))
def Wd (G : Gm) (I : Ii) (pm : Pm) (H : Heap) : Prop := ∀ K i, i < cbK K → va_at G.1 vwCl (G.2.2 K i, cvv G.2.1 G.2.2 I pm K i) H
def AA (G : Gm) : Nat → Prop := fun q => ∃ K i, i < cbK K ∧ q = G.2.2 K i
def Aj (G : Gm) : Prop := ∀ K i K' i', i < cbK K → i' < cbK K' → G.2.2 K i = G.2.2 K' i' → K = K' ∧ i = i'
def tyz (G : Gm) : List (ClassId × FieldType) := [(G.2.1 0, .char), (G.2.1 1, .int), (G.2.1 2, .boolean), (G.2.1 3, .object "LocoFrames$Layout"), (G.2.1 4, .object "LocoFrames$Loco")]
/-- the links of nest mates: they are no good words, so they are carried beside the tables -/
def NN (U : State) : Prop := va_Nw (.methodLinkNest RX1 64 yX5_within RX5) U ∧ va_Nw (.methodLinkNest RX4 31 yX5_within RX5) U ∧ va_Nw (.methodLinkNest RX1 83 yX5_isBlock RX5) U ∧ va_Nw (.methodLinkNest RX2 45 yX5_curveSpeed RX5) U ∧ True
theorem NN.warm {s U : State} (hW : s.WarmedH U.vm) (h : NN s) : NN U := ⟨h.1.warmM hW, h.2.1.warmM hW, h.2.2.1.warmM hW, h.2.2.2.1.warmM hW, trivial⟩
theorem NN.same {s U : State} (hW : s.vm = U.vm) (h : NN s) : NN U := ⟨h.1.same rfl hW, h.2.1.same rfl hW, h.2.2.1.same rfl hW, h.2.2.2.1.same rfl hW, trivial⟩
def PP (G : Gm) (I : Ii) (pm : Pm) : State → Prop := fun U => Wd G I pm U.heap ∧ va_K G.1 vwCl (tyz G) U ∧ NN U
def up3 (I : Ii) (K i j : Nat) (v : Int32) : Ii := fun a b c => if a = K ∧ b = i ∧ c = j then v else I a b c
def upR (I : Ii) (K i : Nat) (f : Nat → Int32) : Ii := fun a b c => if a = K ∧ b = i then f c else I a b c
def upP (pm : Pm) (k r v : Nat) : Pm := fun a b => if a = k ∧ b = r then v else pm a b
theorem up3_s {I : Ii} {K i j : Nat} {v : Int32} : up3 I K i j v K i j = v := by simp [up3]
theorem up3_n {I : Ii} {K i j a b c : Nat} {v : Int32} (h : ¬ (a = K ∧ b = i ∧ c = j)) : up3 I K i j v a b c = I a b c := by simp [up3, h]
theorem up3_k {I : Ii} {K i j a b c : Nat} {v : Int32} (h : a ≠ K) : up3 I K i j v a b c = I a b c := by simp [up3, h]
theorem upR_s {I : Ii} {K i : Nat} {f : Nat → Int32} : upR I K i f K i = f := by funext c; simp [upR]
theorem upR_n {I : Ii} {K i a b c : Nat} {f : Nat → Int32} (h : ¬ (a = K ∧ b = i)) : upR I K i f a b c = I a b c := by simp [upR, h]
theorem up3_R {I : Ii} {K i j : Nat} {v : Int32} : up3 I K i j v = upR I K i (upd (I K i) j v) := by
  funext a b c
  by_cases h : a = K ∧ b = i
  · obtain ⟨rfl, rfl⟩ := h
    simp [up3, upR, upd]
  · simp only [upR, up3, h, if_false]
    rw [if_neg (fun q => h ⟨q.1, q.2.1⟩)]
theorem cvv_cong {cy : Nat → ClassId} {ad : Nat → Nat → Nat} {I I' : Ii} {pm pm' : Pm} {K i : Nat} (h : ∀ c, I' K i c = I K i c) (hp : K = 1 → ∀ r, pm' i r = pm i r) : cvv cy ad I' pm' K i = cvv cy ad I pm K i := by
  have hf : I' K i = I K i := funext h
  unfold cvv
  split <;> first | (simp only [h]; done) | (simp only [hf]; done) | (simp only [hp rfl]; done) | rfl
theorem Wd.put {G : Gm} {I I' : Ii} {pm pm' : Pm} {H H1 : Heap} {K i : Nat} (h : Wd G I pm H) (hj : Aj G) (hi : i < cbK K) (he : va_at G.1 vwCl (G.2.2 K i, cvv G.2.1 G.2.2 I' pm' K i) H1) (oq : ∀ q : Nat, q ≠ G.2.2 K i → H1[q]? = H[q]?)
    (hc : ∀ a b, ¬ (a = K ∧ b = i) → cvv G.2.1 G.2.2 I' pm' a b = cvv G.2.1 G.2.2 I pm a b) : Wd G I' pm' H1 := by
  intro a b hb
  by_cases hab : a = K ∧ b = i
  · obtain ⟨rfl, rfl⟩ := hab
    exact he
  · rw [hc a b hab]
    exact (h a b hb).kept (oq _ fun q => hab (hj a b K i hb hi q))
theorem Wd.one {G : Gm} {I : Ii} {pm : Pm} {H : Heap} (h : Wd G I pm H) {K i : Nat} (hi : i < cbK K) : va_P G.1 vwCl [(G.2.2 K i, cvv G.2.1 G.2.2 I pm K i)] H := by
  intro k q hk
  cases k with
  | zero => cases hk; exact h K i hi
  | succ k => simp at hk
/-- what a walk of a method holds on to -/
def FX (p : Program) (s : State) (m : MethodId) (args : Array Value) (c : Code) (cc : ByteArray) (nL : Nat) (own : String) (G : Gm) (A : Nat → Prop) : Prop :=
  CallFix p m c cc nL s args wsL_law own ∧ va_K G.1 vwCl (tyz G) s ∧ NN s ∧ Aj G ∧ ∀ K i, i < cbK K → A (G.2.2 K i)
def GG (p : Program) (l : Launch) (e : Env) (R : Room) (s : State) (m : MethodId) (args : Array Value) (below : List Frame) (meth : Method) (c : Code) (G : Gm) (A : Nat → Prop) (nL ce sl : Nat) (Q : State → Prop) (I : Ii) (pm : Pm) (L : List (Nat × Value)) (pc : Nat) (st : List Value) : Prop :=
  ∀ (H : Heap) (locs : List Loc) (ls : Array Slot), Wd G I pm H → va_S A s.heap H locs → lv_has ls nL L → W p l e R s m args below meth c H locs ce sl Q (F0 m pc ls st)
def bz (c : Prop) [Decidable c] : Int32 := if c then 1 else 0
theorem bz_0 {c : Prop} [Decidable c] : bz c = 0 ↔ ¬ c := by unfold bz; split <;> simp_all
theorem bz_1 {c : Prop} [Decidable c] : bz c = 1 ↔ c := by unfold bz; split <;> simp_all
theorem bz_n {c : Prop} [Decidable c] : ¬ bz c = 0 ↔ c := by unfold bz; split <;> simp_all
def wz (y : MethodName) (b : ByteArray) (n : Nat) (r : Option FieldType) : List Cond := Cond.code y b n r :: wsL_law
def rmL (d : Nat) : Room := { frames := d, cells := 0, slots := 0, locals := 27 * d }
/-- contracts: an int, nothing, a loco or null -/
def CI (l : Launch) (G : Gm) (y : MethodName) (ws : List Cond) (rm : Room) (av : List Value) (I : Ii) (pm : Pm) (post : Int32 → Ii × Pm → Prop) : Prop := Met l y ws rm (va_Pc av (PP G I pm)) (va_Qi post (fun u t => Wd G u.1 u.2 t.heap) (AA G)) 0 0 (AA G)
def CV (l : Launch) (G : Gm) (y : MethodName) (ws : List Cond) (rm : Room) (av : List Value) (I : Ii) (pm : Pm) (post : Ii × Pm → Prop) : Prop := Met l y ws rm (va_Pc av (PP G I pm)) (va_Qv post (fun u t => Wd G u.1 u.2 t.heap) (AA G)) 0 0 (AA G)
def CQ (l : Launch) (G : Gm) (y : MethodName) (ws : List Cond) (rm : Room) (av : List Value) (I : Ii) (pm : Pm) (post : Option Nat → Ii × Pm → Prop) : Prop := Met l y ws rm (va_Pc av (PP G I pm)) (va_Qq post (fun u t => Wd G u.1 u.2 t.heap) (AA G)) 0 0 (AA G)
theorem PP.blind {G : Gm} {I : Ii} {pm : Pm} {av : List Value} : FrameBlind (va_Pc av (PP G I pm)) := fun a U g mk q => ⟨q.1, q.2.1, va_K.moved (u := U) (U := U.calling g mk a) (Vm.Alike.refl U.vm) q.2.2.1, NN.same rfl q.2.2.2⟩
section BASE
variable {p : Program} {l : Launch} {e : Env} {R : Room} {s : State} {m : MethodId} {args : Array Value} {below : List Frame} {meth : Method} {c : Code} {G : Gm} {A : Nat → Prop} {nL ce sl : Nat} {Q : State → Prop} {I : Ii} {pm : Pm} {L : List (Nat × Value)} {pc : Nat} {st rest : List Value} {cc : ByteArray} {own : String}
theorem FX.w (F : FX p s m args c cc nL own G A) {w : Cond} (h : w ∈ wsL_law) : w.before args s = true := F.1.2.2.2.2 w h
theorem g_iconst (F : FX p s m args c cc nL own G A) {n : Int} {v : Int32} (hd : decode cc pc = .ok (.iconst n, 1)) (hv : Int32.ofInt n = v) (k : GG p l e R s m args below meth c G A nL ce sl Q I pm L (pc + 1) (.int v :: st)) : GG p l e R s m args below meth c G A nL ce sl Q I pm L pc st := fun H locs ls h1 h2 h3 => lv_iconst F.1.1 F.1.2.1 hd hv (k H locs ls h1 h2 h3)
theorem g_bipush (F : FX p s m args c cc nL own G A) {n : Int} {v : Int32} (hd : decode cc pc = .ok (.bipush n, 2)) (hv : (Int8.ofInt n).toInt32 = v) (k : GG p l e R s m args below meth c G A nL ce sl Q I pm L (pc + 2) (.int v :: st)) : GG p l e R s m args below meth c G A nL ce sl Q I pm L pc st := fun H locs ls h1 h2 h3 => lv_bipush F.1.1 F.1.2.1 hd hv (k H locs ls h1 h2 h3)
theorem g_sipush (F : FX p s m args c cc nL own G A) {n : Int} {v : Int32} (hd : decode cc pc = .ok (.sipush n, 3)) (hv : (Int16.ofInt n).toInt32 = v) (k : GG p l e R s m args below meth c G A nL ce sl Q I pm L (pc + 3) (.int v :: st)) : GG p l e R s m args below meth c G A nL ce sl Q I pm L pc st := fun H locs ls h1 h2 h3 => lv_sipush F.1.1 F.1.2.1 hd hv (k H locs ls h1 h2 h3)
theorem g_lconst (F : FX p s m args c cc nL own G A) {n : Fin 2} {v : Int64} (hd : decode cc pc = .ok (.lconst n, 1)) (hv : Int64.ofNat (n : Nat) = v) (k : GG p l e R s m args below meth c G A nL ce sl Q I pm L (pc + 1) (.long v :: st)) : GG p l e R s m args below meth c G A nL ce sl Q I pm L pc st := fun H locs ls h1 h2 h3 => lv_lconst F.1.1 F.1.2.1 hd hv (k H locs ls h1 h2 h3)
theorem g_ldc (F : FX p s m args c cc nL own G A) {index : Nat} {v : Int32} (hw : Jvm.Cond.constant own index v ∈ wsL_law) (hd : decode cc pc = .ok (.ldc index, 2)) (k : GG p l e R s m args below meth c G A nL ce sl Q I pm L (pc + 2) (.int v :: st)) : GG p l e R s m args below meth c G A nL ce sl Q I pm L pc st := fun H locs ls h1 h2 h3 => lv_ldc F.1.1 F.1.2.1 F.1.2.2.2.1 (F.w hw) hd (k H locs ls h1 h2 h3)
theorem g_ldc2 (F : FX p s m args c cc nL own G A) {index : Nat} {v : Int64} (hw : Jvm.Cond.constantLong own index v ∈ wsL_law) (hd : decode cc pc = .ok (.ldc2_w index, 3)) (k : GG p l e R s m args below meth c G A nL ce sl Q I pm L (pc + 3) (.long v :: st)) : GG p l e R s m args below meth c G A nL ce sl Q I pm L pc st := fun H locs ls h1 h2 h3 => lv_ldc2 F.1.1 F.1.2.1 F.1.2.2.2.1 (F.w hw) hd (k H locs ls h1 h2 h3)
theorem g_iload_n (F : FX p s m args c cc nL own G A) {k : Fin 4} {i : Nat} {x : Int32} (j : Nat) (hd : decode cc pc = .ok (.iload_n k, 1)) (hi : (k : Nat) = i) (hl : L[j]? = some (i, .int x)) (kk : GG p l e R s m args below meth c G A nL ce sl Q I pm L (pc + 1) (.int x :: st)) : GG p l e R s m args below meth c G A nL ce sl Q I pm L pc st := fun H locs ls h1 h2 h3 => lv_iload_n F.1.1 F.1.2.1 hd hi (lv_at h3 j hl) (kk H locs ls h1 h2 h3)
theorem g_iload (F : FX p s m args c cc nL own G A) {i : Nat} {x : Int32} (j : Nat) (hd : decode cc pc = .ok (.iload i, 2)) (hl : L[j]? = some (i, .int x)) (kk : GG p l e R s m args below meth c G A nL ce sl Q I pm L (pc + 2) (.int x :: st)) : GG p l e R s m args below meth c G A nL ce sl Q I pm L pc st := fun H locs ls h1 h2 h3 => lv_iload F.1.1 F.1.2.1 hd (lv_at h3 j hl) (kk H locs ls h1 h2 h3)
theorem g_lload_n (F : FX p s m args c cc nL own G A) {k : Fin 4} {i : Nat} {x : Int64} (j : Nat) (hd : decode cc pc = .ok (.lload_n k, 1)) (hi : (k : Nat) = i) (hl : L[j]? = some (i, .long x)) (kk : GG p l e R s m args below meth c G A nL ce sl Q I pm L (pc + 1) (.long x :: st)) : GG p l e R s m args below meth c G A nL ce sl Q I pm L pc st := fun H locs ls h1 h2 h3 => lv_lload_n F.1.1 F.1.2.1 hd hi (lv_at h3 j hl) (kk H locs ls h1 h2 h3)
theorem g_lload (F : FX p s m args c cc nL own G A) {i : Nat} {x : Int64} (j : Nat) (hd : decode cc pc = .ok (.lload i, 2)) (hl : L[j]? = some (i, .long x)) (kk : GG p l e R s m args below meth c G A nL ce sl Q I pm L (pc + 2) (.long x :: st)) : GG p l e R s m args below meth c G A nL ce sl Q I pm L pc st := fun H locs ls h1 h2 h3 => lv_lload F.1.1 F.1.2.1 hd (lv_at h3 j hl) (kk H locs ls h1 h2 h3)
theorem g_aload_n (F : FX p s m args c cc nL own G A) {k : Fin 4} {i x : Nat} (j : Nat) (hd : decode cc pc = .ok (.aload_n k, 1)) (hi : (k : Nat) = i) (hl : L[j]? = some (i, .ref x)) (kk : GG p l e R s m args below meth c G A nL ce sl Q I pm L (pc + 1) (.ref x :: st)) : GG p l e R s m args below meth c G A nL ce sl Q I pm L pc st := fun H locs ls h1 h2 h3 => lv_aload_n F.1.1 F.1.2.1 hd hi (lv_at h3 j hl) (kk H locs ls h1 h2 h3)
theorem g_aload (F : FX p s m args c cc nL own G A) {i x : Nat} (j : Nat) (hd : decode cc pc = .ok (.aload i, 2)) (hl : L[j]? = some (i, .ref x)) (kk : GG p l e R s m args below meth c G A nL ce sl Q I pm L (pc + 2) (.ref x :: st)) : GG p l e R s m args below meth c G A nL ce sl Q I pm L pc st := fun H locs ls h1 h2 h3 => lv_aload F.1.1 F.1.2.1 hd (lv_at h3 j hl) (kk H locs ls h1 h2 h3)
theorem g_istore_n (F : FX p s m args c cc nL own G A) {k : Fin 4} {i : Nat} {x : Int32} {L' : List (Nat × Value)} (hd : decode cc pc = .ok (.istore_n k, 1)) (hi : (k : Nat) = i) (hn : i < nL) (hl : (i, Value.int x) :: L.filter (fun q => !(q.1 == i) && !(q.1 + 1 == i && q.2.category == 2)) = L') (kk : GG p l e R s m args below meth c G A nL ce sl Q I pm L' (pc + 1) rest) : GG p l e R s m args below meth c G A nL ce sl Q I pm L pc (.int x :: rest) := fun H locs ls h1 h2 h3 => lv_istore_n F.1.1 F.1.2.1 hd hi h3 hn hl (fun ls' h' => kk H locs ls' h1 h2 h')
theorem g_istore (F : FX p s m args c cc nL own G A) {i : Nat} {x : Int32} {L' : List (Nat × Value)} (hd : decode cc pc = .ok (.istore i, 2)) (hn : i < nL) (hl : (i, Value.int x) :: L.filter (fun q => !(q.1 == i) && !(q.1 + 1 == i && q.2.category == 2)) = L') (kk : GG p l e R s m args below meth c G A nL ce sl Q I pm L' (pc + 2) rest) : GG p l e R s m args below meth c G A nL ce sl Q I pm L pc (.int x :: rest) := fun H locs ls h1 h2 h3 => lv_istore F.1.1 F.1.2.1 hd h3 hn hl (fun ls' h' => kk H locs ls' h1 h2 h')
theorem g_astore_n (F : FX p s m args c cc nL own G A) {k : Fin 4} {i : Nat} {x : Nat} {L' : List (Nat × Value)} (hd : decode cc pc = .ok (.astore_n k, 1)) (hi : (k : Nat) = i) (hn : i < nL) (hl : (i, Value.ref x) :: L.filter (fun q => !(q.1 == i) && !(q.1 + 1 == i && q.2.category == 2)) = L') (kk : GG p l e R s m args below meth c G A nL ce sl Q I pm L' (pc + 1) rest) : GG p l e R s m args below meth c G A nL ce sl Q I pm L pc (.ref x :: rest) := fun H locs ls h1 h2 h3 => lv_astore_n F.1.1 F.1.2.1 hd hi h3 hn hl (fun ls' h' => kk H locs ls' h1 h2 h')
theorem g_astore (F : FX p s m args c cc nL own G A) {i : Nat} {x : Nat} {L' : List (Nat × Value)} (hd : decode cc pc = .ok (.astore i, 2)) (hn : i < nL) (hl : (i, Value.ref x) :: L.filter (fun q => !(q.1 == i) && !(q.1 + 1 == i && q.2.category == 2)) = L') (kk : GG p l e R s m args below meth c G A nL ce sl Q I pm L' (pc + 2) rest) : GG p l e R s m args below meth c G A nL ce sl Q I pm L pc (.ref x :: rest) := fun H locs ls h1 h2 h3 => lv_astore F.1.1 F.1.2.1 hd h3 hn hl (fun ls' h' => kk H locs ls' h1 h2 h')
theorem g_astore_nN (F : FX p s m args c cc nL own G A) {k : Fin 4} {i : Nat} {L' : List (Nat × Value)} (hd : decode cc pc = .ok (.astore_n k, 1)) (hi : (k : Nat) = i) (hn : i < nL) (hl : (i, Value.null) :: L.filter (fun q => !(q.1 == i) && !(q.1 + 1 == i && q.2.category == 2)) = L') (kk : GG p l e R s m args below meth c G A nL ce sl Q I pm L' (pc + 1) rest) : GG p l e R s m args below meth c G A nL ce sl Q I pm L pc (.null :: rest) := fun H locs ls h1 h2 h3 => lv_astore_nN F.1.1 F.1.2.1 hd hi h3 hn hl (fun ls' h' => kk H locs ls' h1 h2 h')
theorem g_astoreN (F : FX p s m args c cc nL own G A) {i : Nat} {L' : List (Nat × Value)} (hd : decode cc pc = .ok (.astore i, 2)) (hn : i < nL) (hl : (i, Value.null) :: L.filter (fun q => !(q.1 == i) && !(q.1 + 1 == i && q.2.category == 2)) = L') (kk : GG p l e R s m args below meth c G A nL ce sl Q I pm L' (pc + 2) rest) : GG p l e R s m args below meth c G A nL ce sl Q I pm L pc (.null :: rest) := fun H locs ls h1 h2 h3 => lv_astoreN F.1.1 F.1.2.1 hd h3 hn hl (fun ls' h' => kk H locs ls' h1 h2 h')
theorem g_aload_nN (F : FX p s m args c cc nL own G A) {k : Fin 4} {i : Nat} (j : Nat) (hd : decode cc pc = .ok (.aload_n k, 1)) (hi : (k : Nat) = i) (hl : L[j]? = some (i, .null)) (kk : GG p l e R s m args below meth c G A nL ce sl Q I pm L (pc + 1) (.null :: st)) : GG p l e R s m args below meth c G A nL ce sl Q I pm L pc st := fun H locs ls h1 h2 h3 => lv_aload_nN F.1.1 F.1.2.1 hd hi (lv_at h3 j hl) (kk H locs ls h1 h2 h3)
theorem g_aloadN (F : FX p s m args c cc nL own G A) {i : Nat} (j : Nat) (hd : decode cc pc = .ok (.aload i, 2)) (hl : L[j]? = some (i, .null)) (kk : GG p l e R s m args below meth c G A nL ce sl Q I pm L (pc + 2) (.null :: st)) : GG p l e R s m args below meth c G A nL ce sl Q I pm L pc st := fun H locs ls h1 h2 h3 => lv_aloadN F.1.1 F.1.2.1 hd (lv_at h3 j hl) (kk H locs ls h1 h2 h3)
theorem g_lstore (F : FX p s m args c cc nL own G A) {i : Nat} {x : Int64} {L' : List (Nat × Value)} (hd : decode cc pc = .ok (.lstore i, 2)) (hn : i + 1 < nL) (hl : (i, Value.long x) :: L.filter (fun q => !(q.1 == i) && (!(q.1 == i + 1) && !(q.1 + 1 == i && q.2.category == 2))) = L') (kk : GG p l e R s m args below meth c G A nL ce sl Q I pm L' (pc + 2) rest) : GG p l e R s m args below meth c G A nL ce sl Q I pm L pc (.long x :: rest) := fun H locs ls h1 h2 h3 => lv_lstore F.1.1 F.1.2.1 hd h3 hn hl (fun ls' h' => kk H locs ls' h1 h2 h')
theorem g_iinc (F : FX p s m args c cc nL own G A) {i : Nat} {n : Int} {x v : Int32} {L' : List (Nat × Value)} (j : Nat) (hd : decode cc pc = .ok (.iinc i n, 3)) (hk : L[j]? = some (i, .int x)) (hv : x + Int32.ofInt n = v) (hn : i < nL) (hl : (i, Value.int v) :: L.filter (fun q => !(q.1 == i) && !(q.1 + 1 == i && q.2.category == 2)) = L') (kk : GG p l e R s m args below meth c G A nL ce sl Q I pm L' (pc + 3) st) : GG p l e R s m args below meth c G A nL ce sl Q I pm L pc st := fun H locs ls h1 h2 h3 => lv_iinc F.1.1 F.1.2.1 hd h3 hk hv hn hl (fun ls' h' => kk H locs ls' h1 h2 h')
theorem g_topi {x : Int32} (k : ∀ y : Int32, y = x → GG p l e R s m args below meth c G A nL ce sl Q I pm L pc (.int y :: rest)) : GG p l e R s m args below meth c G A nL ce sl Q I pm L pc (.int x :: rest) := k x rfl
theorem g_eqi {x y : Int32} (h : x = y) (k : GG p l e R s m args below meth c G A nL ce sl Q I pm L pc (.int y :: rest)) : GG p l e R s m args below meth c G A nL ce sl Q I pm L pc (.int x :: rest) := h ▸ k
theorem g_sub {L' : List (Nat × Value)} (ks : List Nat) (hl : lv_pick L ks = L') (k : GG p l e R s m args below meth c G A nL ce sl Q I pm L' pc st) : GG p l e R s m args below meth c G A nL ce sl Q I pm L pc st := fun H locs ls h1 h2 h3 => k H locs ls h1 h2 (lv_sub h3 ks hl)
theorem g_I {I' : Ii} (h : I = I') (k : GG p l e R s m args below meth c G A nL ce sl Q I' pm L pc st) : GG p l e R s m args below meth c G A nL ce sl Q I pm L pc st := h ▸ k
theorem g_tern1 {x : Int32} (q : Prop) [Decidable q] (a b : Int32) (pcJ : Nat) (hbr : (q → GG p l e R s m args below meth c G A nL ce sl Q I pm L pcJ (.int a :: rest)) → (¬ q → GG p l e R s m args below meth c G A nL ce sl Q I pm L pcJ (.int b :: rest)) → GG p l e R s m args below meth c G A nL ce sl Q I pm L pc (.int x :: rest)) (kk : GG p l e R s m args below meth c G A nL ce sl Q I pm L pcJ (.int (if q then a else b) :: rest)) : GG p l e R s m args below meth c G A nL ce sl Q I pm L pc (.int x :: rest) :=
  hbr (fun h => by rw [if_pos h] at kk; exact kk) (fun h => by rw [if_neg h] at kk; exact kk)
theorem g_tern2 {x y : Int32} (q : Prop) [Decidable q] (a b : Int32) (pcJ : Nat) (hbr : (q → GG p l e R s m args below meth c G A nL ce sl Q I pm L pcJ (.int a :: rest)) → (¬ q → GG p l e R s m args below meth c G A nL ce sl Q I pm L pcJ (.int b :: rest)) → GG p l e R s m args below meth c G A nL ce sl Q I pm L pc (.int y :: .int x :: rest)) (kk : GG p l e R s m args below meth c G A nL ce sl Q I pm L pcJ (.int (if q then a else b) :: rest)) : GG p l e R s m args below meth c G A nL ce sl Q I pm L pc (.int y :: .int x :: rest) :=
  hbr (fun h => by rw [if_pos h] at kk; exact kk) (fun h => by rw [if_neg h] at kk; exact kk)
theorem g_goto (F : FX p s m args c cc nL own G A) {off : Int} (tgt : Nat) (hd : decode cc pc = .ok (.goto off, 3)) (ht : (pc : Int) + off = (tgt : Int)) (k : GG p l e R s m args below meth c G A nL ce sl Q I pm L tgt st) : GG p l e R s m args below meth c G A nL ce sl Q I pm L pc st := fun H locs ls h1 h2 h3 => lv_goto F.1.1 F.1.2.1 hd ht (k H locs ls h1 h2 h3)
theorem g_dup (F : FX p s m args c cc nL own G A) {v : Value} (hd : decode cc pc = .ok (.dup, 1)) (hv : v.category = 1) (k : GG p l e R s m args below meth c G A nL ce sl Q I pm L (pc + 1) (v :: v :: rest)) : GG p l e R s m args below meth c G A nL ce sl Q I pm L pc (v :: rest) := fun H locs ls h1 h2 h3 => lv_dup F.1.1 F.1.2.1 hd hv (k H locs ls h1 h2 h3)
theorem g_dup2 (F : FX p s m args c cc nL own G A) {v w : Value} (hd : decode cc pc = .ok (.dup2, 1)) (hv : v.category = 1) (hw : w.category = 1) (k : GG p l e R s m args below meth c G A nL ce sl Q I pm L (pc + 1) (v :: w :: v :: w :: rest)) : GG p l e R s m args below meth c G A nL ce sl Q I pm L pc (v :: w :: rest) := fun H locs ls h1 h2 h3 => lv_dup2_11 F.1.1 F.1.2.1 hd hv hw (k H locs ls h1 h2 h3)
theorem g_pop (F : FX p s m args c cc nL own G A) {v : Value} (hd : decode cc pc = .ok (.pop, 1)) (hv : v.category = 1) (k : GG p l e R s m args below meth c G A nL ce sl Q I pm L (pc + 1) rest) : GG p l e R s m args below meth c G A nL ce sl Q I pm L pc (v :: rest) := fun H locs ls h1 h2 h3 => lv_pop F.1.1 F.1.2.1 hd hv (k H locs ls h1 h2 h3)
theorem g_null (F : FX p s m args c cc nL own G A) (hd : decode cc pc = .ok (.aconst_null, 1)) (k : GG p l e R s m args below meth c G A nL ce sl Q I pm L (pc + 1) (.null :: st)) : GG p l e R s m args below meth c G A nL ce sl Q I pm L pc st := fun H locs ls h1 h2 h3 => lv_null F.1.1 F.1.2.1 hd (k H locs ls h1 h2 h3)
theorem g_ifnull (F : FX p s m args c cc nL own G A) {x : Nat} {off : Int} (hd : decode cc pc = .ok (.ifnull off, 3)) (k : GG p l e R s m args below meth c G A nL ce sl Q I pm L (pc + 3) rest) : GG p l e R s m args below meth c G A nL ce sl Q I pm L pc (.ref x :: rest) := fun H locs ls h1 h2 h3 => lv_ifnull F.1.1 F.1.2.1 hd (k H locs ls h1 h2 h3)
theorem g_ifnullN (F : FX p s m args c cc nL own G A) {off : Int} (tgt : Nat) (hd : decode cc pc = .ok (.ifnull off, 3)) (ht : (pc : Int) + off = (tgt : Int)) (k : GG p l e R s m args below meth c G A nL ce sl Q I pm L tgt rest) : GG p l e R s m args below meth c G A nL ce sl Q I pm L pc (.null :: rest) := fun H locs ls h1 h2 h3 => lv_ifnullN F.1.1 F.1.2.1 hd ht (k H locs ls h1 h2 h3)
theorem g_ifnonnull (F : FX p s m args c cc nL own G A) {x : Nat} {off : Int} (tgt : Nat) (hd : decode cc pc = .ok (.ifnonnull off, 3)) (ht : (pc : Int) + off = (tgt : Int)) (k : GG p l e R s m args below meth c G A nL ce sl Q I pm L tgt rest) : GG p l e R s m args below meth c G A nL ce sl Q I pm L pc (.ref x :: rest) := fun H locs ls h1 h2 h3 => lv_ifnonnull F.1.1 F.1.2.1 hd ht (k H locs ls h1 h2 h3)
theorem g_ifnonnullN (F : FX p s m args c cc nL own G A) {off : Int} (hd : decode cc pc = .ok (.ifnonnull off, 3)) (k : GG p l e R s m args below meth c G A nL ce sl Q I pm L (pc + 3) rest) : GG p l e R s m args below meth c G A nL ce sl Q I pm L pc (.null :: rest) := fun H locs ls h1 h2 h3 => lv_ifnonnullN F.1.1 F.1.2.1 hd (k H locs ls h1 h2 h3)
theorem g_iadd (F : FX p s m args c cc nL own G A) {x y : Int32} (hd : decode cc pc = .ok (.iadd, 1)) (k : GG p l e R s m args below meth c G A nL ce sl Q I pm L (pc + 1) (.int (x + y) :: rest)) : GG p l e R s m args below meth c G A nL ce sl Q I pm L pc (.int y :: .int x :: rest) := fun H locs ls h1 h2 h3 => lv_iadd F.1.1 F.1.2.1 hd (k H locs ls h1 h2 h3)
theorem g_isub (F : FX p s m args c cc nL own G A) {x y : Int32} (hd : decode cc pc = .ok (.isub, 1)) (k : GG p l e R s m args below meth c G A nL ce sl Q I pm L (pc + 1) (.int (x - y) :: rest)) : GG p l e R s m args below meth c G A nL ce sl Q I pm L pc (.int y :: .int x :: rest) := fun H locs ls h1 h2 h3 => lv_isub F.1.1 F.1.2.1 hd (k H locs ls h1 h2 h3)
theorem g_imul (F : FX p s m args c cc nL own G A) {x y : Int32} (hd : decode cc pc = .ok (.imul, 1)) (k : GG p l e R s m args below meth c G A nL ce sl Q I pm L (pc + 1) (.int (x * y) :: rest)) : GG p l e R s m args below meth c G A nL ce sl Q I pm L pc (.int y :: .int x :: rest) := fun H locs ls h1 h2 h3 => lv_imul F.1.1 F.1.2.1 hd (k H locs ls h1 h2 h3)
theorem g_iand (F : FX p s m args c cc nL own G A) {x y : Int32} (hd : decode cc pc = .ok (.iand, 1)) (k : GG p l e R s m args below meth c G A nL ce sl Q I pm L (pc + 1) (.int (x &&& y) :: rest)) : GG p l e R s m args below meth c G A nL ce sl Q I pm L pc (.int y :: .int x :: rest) := fun H locs ls h1 h2 h3 => lv_iand F.1.1 F.1.2.1 hd (k H locs ls h1 h2 h3)
theorem g_ior (F : FX p s m args c cc nL own G A) {x y : Int32} (hd : decode cc pc = .ok (.ior, 1)) (k : GG p l e R s m args below meth c G A nL ce sl Q I pm L (pc + 1) (.int (x ||| y) :: rest)) : GG p l e R s m args below meth c G A nL ce sl Q I pm L pc (.int y :: .int x :: rest) := fun H locs ls h1 h2 h3 => lv_ior F.1.1 F.1.2.1 hd (k H locs ls h1 h2 h3)
theorem g_ixor (F : FX p s m args c cc nL own G A) {x y : Int32} (hd : decode cc pc = .ok (.ixor, 1)) (k : GG p l e R s m args below meth c G A nL ce sl Q I pm L (pc + 1) (.int (x ^^^ y) :: rest)) : GG p l e R s m args below meth c G A nL ce sl Q I pm L pc (.int y :: .int x :: rest) := fun H locs ls h1 h2 h3 => lv_ixor F.1.1 F.1.2.1 hd (k H locs ls h1 h2 h3)
theorem g_idiv (F : FX p s m args c cc nL own G A) {x y : Int32} (hd : decode cc pc = .ok (.idiv, 1)) (hne : ¬ y = 0) (k : GG p l e R s m args below meth c G A nL ce sl Q I pm L (pc + 1) (.int (x / y) :: rest)) : GG p l e R s m args below meth c G A nL ce sl Q I pm L pc (.int y :: .int x :: rest) := fun H locs ls h1 h2 h3 => lv_idiv F.1.1 F.1.2.1 hd hne (k H locs ls h1 h2 h3)
theorem irem_eq (x y : Int32) : x - x / y * y = x % y := by
  apply Int32.toInt_inj.mp
  have h := Int32.toInt_bmod_size (x % y)
  rw [← h, Int32.toInt_sub, Int32.toInt_mul, Int32.toInt_div, Int32.toInt_mod, Int.bmod_mul_bmod, Int.sub_bmod_bmod, Int.tmod_def, Int.mul_comm]
theorem g_irem (F : FX p s m args c cc nL own G A) {x y : Int32} (hd : decode cc pc = .ok (.irem, 1)) (hne : ¬ y = 0) (k : GG p l e R s m args below meth c G A nL ce sl Q I pm L (pc + 1) (.int (x % y) :: rest)) : GG p l e R s m args below meth c G A nL ce sl Q I pm L pc (.int y :: .int x :: rest) := fun H locs ls h1 h2 h3 => lv_irem F.1.1 F.1.2.1 hd hne (by rw [irem_eq]; exact k H locs ls h1 h2 h3)
theorem g_ineg (F : FX p s m args c cc nL own G A) {x : Int32} (hd : decode cc pc = .ok (.ineg, 1)) (k : GG p l e R s m args below meth c G A nL ce sl Q I pm L (pc + 1) (.int (-x) :: rest)) : GG p l e R s m args below meth c G A nL ce sl Q I pm L pc (.int x :: rest) := fun H locs ls h1 h2 h3 => lv_ineg F.1.1 F.1.2.1 hd (k H locs ls h1 h2 h3)
theorem g_i2l (F : FX p s m args c cc nL own G A) {x : Int32} (hd : decode cc pc = .ok (.i2l, 1)) (k : GG p l e R s m args below meth c G A nL ce sl Q I pm L (pc + 1) (.long x.toInt64 :: rest)) : GG p l e R s m args below meth c G A nL ce sl Q I pm L pc (.int x :: rest) := fun H locs ls h1 h2 h3 => lv_i2l F.1.1 F.1.2.1 hd rfl (k H locs ls h1 h2 h3)
theorem g_l2i (F : FX p s m args c cc nL own G A) {x : Int64} (hd : decode cc pc = .ok (.l2i, 1)) (k : GG p l e R s m args below meth c G A nL ce sl Q I pm L (pc + 1) (.int x.toInt32 :: rest)) : GG p l e R s m args below meth c G A nL ce sl Q I pm L pc (.long x :: rest) := fun H locs ls h1 h2 h3 => lv_l2i F.1.1 F.1.2.1 hd rfl (k H locs ls h1 h2 h3)
theorem g_i2c (F : FX p s m args c cc nL own G A) {x : Int32} (hd : decode cc pc = .ok (.i2c, 1)) (k : GG p l e R s m args below meth c G A nL ce sl Q I pm L (pc + 1) (.int (x.toUInt32 % 65536).toInt32 :: rest)) : GG p l e R s m args below meth c G A nL ce sl Q I pm L pc (.int x :: rest) := fun H locs ls h1 h2 h3 => lv_i2c F.1.1 F.1.2.1 hd rfl (k H locs ls h1 h2 h3)
theorem g_lushr (F : FX p s m args c cc nL own G A) {x : Int64} {y : Int32} (hd : decode cc pc = .ok (.lushr, 1)) (k : GG p l e R s m args below meth c G A nL ce sl Q I pm L (pc + 1) (.long (x.toUInt64 >>> (y.toInt64.toUInt64 &&& Int64.toUInt64 63)).toInt64 :: rest)) : GG p l e R s m args below meth c G A nL ce sl Q I pm L pc (.int y :: .long x :: rest) := fun H locs ls h1 h2 h3 => lv_lushr F.1.1 F.1.2.1 hd rfl (k H locs ls h1 h2 h3)
theorem g_lshl (F : FX p s m args c cc nL own G A) {x : Int64} {y : Int32} (hd : decode cc pc = .ok (.lshl, 1)) (k : GG p l e R s m args below meth c G A nL ce sl Q I pm L (pc + 1) (.long (x <<< (y.toInt64 &&& 63)) :: rest)) : GG p l e R s m args below meth c G A nL ce sl Q I pm L pc (.int y :: .long x :: rest) := fun H locs ls h1 h2 h3 => lv_lshl F.1.1 F.1.2.1 hd rfl (k H locs ls h1 h2 h3)
theorem g_land (F : FX p s m args c cc nL own G A) {x y : Int64} (hd : decode cc pc = .ok (.land, 1)) (k : GG p l e R s m args below meth c G A nL ce sl Q I pm L (pc + 1) (.long (x &&& y) :: rest)) : GG p l e R s m args below meth c G A nL ce sl Q I pm L pc (.long y :: .long x :: rest) := fun H locs ls h1 h2 h3 => lv_land F.1.1 F.1.2.1 hd (k H locs ls h1 h2 h3)
theorem g_lor (F : FX p s m args c cc nL own G A) {x y : Int64} (hd : decode cc pc = .ok (.lor, 1)) (k : GG p l e R s m args below meth c G A nL ce sl Q I pm L (pc + 1) (.long (x ||| y) :: rest)) : GG p l e R s m args below meth c G A nL ce sl Q I pm L pc (.long y :: .long x :: rest) := fun H locs ls h1 h2 h3 => lv_lor F.1.1 F.1.2.1 hd (k H locs ls h1 h2 h3)
theorem g_lcmp (F : FX p s m args c cc nL own G A) {x y : Int64} (hd : decode cc pc = .ok (.lcmp, 1)) (k : GG p l e R s m args below meth c G A nL ce sl Q I pm L (pc + 1) (.int (lg_cmp x y) :: rest)) : GG p l e R s m args below meth c G A nL ce sl Q I pm L pc (.long y :: .long x :: rest) := fun H locs ls h1 h2 h3 => W.lcmp F.1.1 F.1.2.1 hd (k H locs ls h1 h2 h3)
theorem g_if_eq (F : FX p s m args c cc nL own G A) {x : Int32} {off : Int} (tgt : Nat) (hd : decode cc pc = .ok (.ifCond .eq off, 3)) (ht : (pc : Int) + off = (tgt : Int)) (kt : x = 0 → GG p l e R s m args below meth c G A nL ce sl Q I pm L tgt rest) (kf : ¬ x = 0 → GG p l e R s m args below meth c G A nL ce sl Q I pm L (pc + 3) rest) : GG p l e R s m args below meth c G A nL ce sl Q I pm L pc (.int x :: rest) := fun H locs ls h1 h2 h3 => lv_if_eq F.1.1 F.1.2.1 hd ht (fun q => kt q H locs ls h1 h2 h3) (fun q => kf q H locs ls h1 h2 h3)
theorem g_icmp_eq (F : FX p s m args c cc nL own G A) {x y : Int32} {off : Int} (tgt : Nat) (hd : decode cc pc = .ok (.if_icmp .eq off, 3)) (ht : (pc : Int) + off = (tgt : Int)) (kt : x = y → GG p l e R s m args below meth c G A nL ce sl Q I pm L tgt rest) (kf : ¬ x = y → GG p l e R s m args below meth c G A nL ce sl Q I pm L (pc + 3) rest) : GG p l e R s m args below meth c G A nL ce sl Q I pm L pc (.int y :: .int x :: rest) := fun H locs ls h1 h2 h3 => lv_icmp_eq F.1.1 F.1.2.1 hd ht (fun q => kt q H locs ls h1 h2 h3) (fun q => kf q H locs ls h1 h2 h3)
theorem g_if_ne (F : FX p s m args c cc nL own G A) {x : Int32} {off : Int} (tgt : Nat) (hd : decode cc pc = .ok (.ifCond .ne off, 3)) (ht : (pc : Int) + off = (tgt : Int)) (kt : ¬ x = 0 → GG p l e R s m args below meth c G A nL ce sl Q I pm L tgt rest) (kf : x = 0 → GG p l e R s m args below meth c G A nL ce sl Q I pm L (pc + 3) rest) : GG p l e R s m args below meth c G A nL ce sl Q I pm L pc (.int x :: rest) := fun H locs ls h1 h2 h3 => lv_if_ne F.1.1 F.1.2.1 hd ht (fun q => kt q H locs ls h1 h2 h3) (fun q => kf q H locs ls h1 h2 h3)
theorem g_icmp_ne (F : FX p s m args c cc nL own G A) {x y : Int32} {off : Int} (tgt : Nat) (hd : decode cc pc = .ok (.if_icmp .ne off, 3)) (ht : (pc : Int) + off = (tgt : Int)) (kt : ¬ x = y → GG p l e R s m args below meth c G A nL ce sl Q I pm L tgt rest) (kf : x = y → GG p l e R s m args below meth c G A nL ce sl Q I pm L (pc + 3) rest) : GG p l e R s m args below meth c G A nL ce sl Q I pm L pc (.int y :: .int x :: rest) := fun H locs ls h1 h2 h3 => lv_icmp_ne F.1.1 F.1.2.1 hd ht (fun q => kt q H locs ls h1 h2 h3) (fun q => kf q H locs ls h1 h2 h3)
theorem g_if_lt (F : FX p s m args c cc nL own G A) {x : Int32} {off : Int} (tgt : Nat) (hd : decode cc pc = .ok (.ifCond .lt off, 3)) (ht : (pc : Int) + off = (tgt : Int)) (kt : x < 0 → GG p l e R s m args below meth c G A nL ce sl Q I pm L tgt rest) (kf : ¬ x < 0 → GG p l e R s m args below meth c G A nL ce sl Q I pm L (pc + 3) rest) : GG p l e R s m args below meth c G A nL ce sl Q I pm L pc (.int x :: rest) := fun H locs ls h1 h2 h3 => lv_if_lt F.1.1 F.1.2.1 hd ht (fun q => kt q H locs ls h1 h2 h3) (fun q => kf q H locs ls h1 h2 h3)
theorem g_icmp_lt (F : FX p s m args c cc nL own G A) {x y : Int32} {off : Int} (tgt : Nat) (hd : decode cc pc = .ok (.if_icmp .lt off, 3)) (ht : (pc : Int) + off = (tgt : Int)) (kt : x < y → GG p l e R s m args below meth c G A nL ce sl Q I pm L tgt rest) (kf : ¬ x < y → GG p l e R s m args below meth c G A nL ce sl Q I pm L (pc + 3) rest) : GG p l e R s m args below meth c G A nL ce sl Q I pm L pc (.int y :: .int x :: rest) := fun H locs ls h1 h2 h3 => lv_icmp_lt F.1.1 F.1.2.1 hd ht (fun q => kt q H locs ls h1 h2 h3) (fun q => kf q H locs ls h1 h2 h3)
theorem g_if_ge (F : FX p s m args c cc nL own G A) {x : Int32} {off : Int} (tgt : Nat) (hd : decode cc pc = .ok (.ifCond .ge off, 3)) (ht : (pc : Int) + off = (tgt : Int)) (kt : 0 ≤ x → GG p l e R s m args below meth c G A nL ce sl Q I pm L tgt rest) (kf : ¬ 0 ≤ x → GG p l e R s m args below meth c G A nL ce sl Q I pm L (pc + 3) rest) : GG p l e R s m args below meth c G A nL ce sl Q I pm L pc (.int x :: rest) := fun H locs ls h1 h2 h3 => lv_if_ge F.1.1 F.1.2.1 hd ht (fun q => kt q H locs ls h1 h2 h3) (fun q => kf q H locs ls h1 h2 h3)
theorem g_icmp_ge (F : FX p s m args c cc nL own G A) {x y : Int32} {off : Int} (tgt : Nat) (hd : decode cc pc = .ok (.if_icmp .ge off, 3)) (ht : (pc : Int) + off = (tgt : Int)) (kt : y ≤ x → GG p l e R s m args below meth c G A nL ce sl Q I pm L tgt rest) (kf : ¬ y ≤ x → GG p l e R s m args below meth c G A nL ce sl Q I pm L (pc + 3) rest) : GG p l e R s m args below meth c G A nL ce sl Q I pm L pc (.int y :: .int x :: rest) := fun H locs ls h1 h2 h3 => lv_icmp_ge F.1.1 F.1.2.1 hd ht (fun q => kt q H locs ls h1 h2 h3) (fun q => kf q H locs ls h1 h2 h3)
theorem g_if_gt (F : FX p s m args c cc nL own G A) {x : Int32} {off : Int} (tgt : Nat) (hd : decode cc pc = .ok (.ifCond .gt off, 3)) (ht : (pc : Int) + off = (tgt : Int)) (kt : 0 < x → GG p l e R s m args below meth c G A nL ce sl Q I pm L tgt rest) (kf : ¬ 0 < x → GG p l e R s m args below meth c G A nL ce sl Q I pm L (pc + 3) rest) : GG p l e R s m args below meth c G A nL ce sl Q I pm L pc (.int x :: rest) := fun H locs ls h1 h2 h3 => lv_if_gt F.1.1 F.1.2.1 hd ht (fun q => kt q H locs ls h1 h2 h3) (fun q => kf q H locs ls h1 h2 h3)
theorem g_icmp_gt (F : FX p s m args c cc nL own G A) {x y : Int32} {off : Int} (tgt : Nat) (hd : decode cc pc = .ok (.if_icmp .gt off, 3)) (ht : (pc : Int) + off = (tgt : Int)) (kt : y < x → GG p l e R s m args below meth c G A nL ce sl Q I pm L tgt rest) (kf : ¬ y < x → GG p l e R s m args below meth c G A nL ce sl Q I pm L (pc + 3) rest) : GG p l e R s m args below meth c G A nL ce sl Q I pm L pc (.int y :: .int x :: rest) := fun H locs ls h1 h2 h3 => lv_icmp_gt F.1.1 F.1.2.1 hd ht (fun q => kt q H locs ls h1 h2 h3) (fun q => kf q H locs ls h1 h2 h3)
theorem g_if_le (F : FX p s m args c cc nL own G A) {x : Int32} {off : Int} (tgt : Nat) (hd : decode cc pc = .ok (.ifCond .le off, 3)) (ht : (pc : Int) + off = (tgt : Int)) (kt : x ≤ 0 → GG p l e R s m args below meth c G A nL ce sl Q I pm L tgt rest) (kf : ¬ x ≤ 0 → GG p l e R s m args below meth c G A nL ce sl Q I pm L (pc + 3) rest) : GG p l e R s m args below meth c G A nL ce sl Q I pm L pc (.int x :: rest) := fun H locs ls h1 h2 h3 => lv_if_le F.1.1 F.1.2.1 hd ht (fun q => kt q H locs ls h1 h2 h3) (fun q => kf q H locs ls h1 h2 h3)
theorem g_icmp_le (F : FX p s m args c cc nL own G A) {x y : Int32} {off : Int} (tgt : Nat) (hd : decode cc pc = .ok (.if_icmp .le off, 3)) (ht : (pc : Int) + off = (tgt : Int)) (kt : x ≤ y → GG p l e R s m args below meth c G A nL ce sl Q I pm L tgt rest) (kf : ¬ x ≤ y → GG p l e R s m args below meth c G A nL ce sl Q I pm L (pc + 3) rest) : GG p l e R s m args below meth c G A nL ce sl Q I pm L pc (.int y :: .int x :: rest) := fun H locs ls h1 h2 h3 => lv_icmp_le F.1.1 F.1.2.1 hd ht (fun q => kt q H locs ls h1 h2 h3) (fun q => kf q H locs ls h1 h2 h3)
theorem g_tableOut (F : FX p s m args c cc nL own G A) {dflt lo hi : Int} {offs : Array Int} {len : Nat} {x : Int32} (tgt : Nat) (hd : decode cc pc = .ok (.tableswitch dflt lo hi offs, len)) (h : x.toInt < lo ∨ hi < x.toInt) (ht : (pc : Int) + dflt = (tgt : Int)) (k : GG p l e R s m args below meth c G A nL ce sl Q I pm L tgt rest) : GG p l e R s m args below meth c G A nL ce sl Q I pm L pc (.int x :: rest) := fun H locs ls h1 h2 h3 => lv_tableOut F.1.1 F.1.2.1 hd h ht (k H locs ls h1 h2 h3)
theorem g_tableIn (F : FX p s m args c cc nL own G A) {dflt lo hi : Int} {offs : Array Int} {len : Nat} {x : Int32} {off : Int} (tgt : Nat) (hd : decode cc pc = .ok (.tableswitch dflt lo hi offs, len)) (h1' : ¬ x.toInt < lo) (h2' : ¬ hi < x.toInt) (ho : offs[(x.toInt - lo).toNat]? = some off) (ht : (pc : Int) + off = (tgt : Int)) (k : GG p l e R s m args below meth c G A nL ce sl Q I pm L tgt rest) : GG p l e R s m args below meth c G A nL ce sl Q I pm L pc (.int x :: rest) := fun H locs ls h1 h2 h3 => lv_tableIn F.1.1 F.1.2.1 hd h1' h2' ho ht (k H locs ls h1 h2 h3)
theorem g_lookup (F : FX p s m args c cc nL own G A) {dflt : Int} {ps : Array (Int × Int)} {len : Nat} {x : Int32} {off : Int} (tgt : Nat) (hd : decode cc pc = .ok (.lookupswitch dflt ps, len)) (hp : (ps.toList.zip (ps.toList.drop 1)).all (fun (a, next) => a.1 < next.1) = true) (ho : Op.lookupswitch.offset ps.toList dflt x.toInt = off) (ht : (pc : Int) + off = (tgt : Int)) (k : GG p l e R s m args below meth c G A nL ce sl Q I pm L tgt rest) : GG p l e R s m args below meth c G A nL ce sl Q I pm L pc (.int x :: rest) := fun H locs ls h1 h2 h3 => lv_lookup F.1.1 F.1.2.1 hd hp ho ht (k H locs ls h1 h2 h3)
/-- a field is read: what the world has there -/
theorem g_get (F : FX p s m args c cc nL own G A) {C : String} {T : u_T} {N ci index K i : Nat} {fs : List Value} {v : Value} (hin : ∀ w ∈ u_ws C T N, w ∈ wsL_law) (hc : vwCl[ci]? = some (C, T, N)) (hi : i < cbK K) (he : cvv G.2.1 G.2.2 I pm K i = .inr (ci, fs)) (k : Nat) (hk : k < N) (hw : Cond.fieldLink own index (T k).1 (T k).2.1 (T k).2.2.1 ∈ wsL_law) (hv : fs[k]? = some v) (hd : decode cc pc = .ok (.getfield index, 3)) (kk : GG p l e R s m args below meth c G A nL ce sl Q I pm L (pc + 3) (v :: rest)) : GG p l e R s m args below meth c G A nL ce sl Q I pm L pc (.ref (G.2.2 K i) :: rest) := fun H locs ls h1 h2 h3 =>
  va_get (D := G.1) (cl := vwCl) (tys := tyz G) (ws := [(G.2.2 K i, .inr (ci, fs))]) F.1.1 F.1.2.1 F.1.2.2.2.2 hin F.1.2.2.2.1 F.2.1 (he ▸ h1.one hi) 0 rfl hc k hk (F.w hw) (fun _ h => h) hv hd (kk H locs ls h1 h2 h3)
theorem g_put (F : FX p s m args c cc nL own G A) {C : String} {T : u_T} {N ci index K i : Nat} {fs : List Value} {x : Int32} {ty : FieldType} (hin : ∀ w ∈ u_ws C T N, w ∈ wsL_law) (ty0 : Nat → FieldType) (hty : ∀ k, k < N → parseFieldDescriptor (T k).2.2.1 = some (ty0 k)) (hnm : ∀ a, a < N → ∀ b, b < N → a ≠ b → (T a).2.1 ≠ (T b).2.1) (hc : vwCl[ci]? = some (C, T, N)) (hi : i < cbK K) (he : cvv G.2.1 G.2.2 I pm K i = .inr (ci, fs)) (k : Nat) (hk : k < N) (hw : Cond.fieldLink own index (T k).1 (T k).2.1 (T k).2.2.1 ∈ wsL_law) (hfin : (T k).2.2.2 = false) (hdt : parseFieldDescriptor (T k).2.2.1 = some ty) (hn : narrow ty (.int x) = .int x) (hfit : fits ty (.int x) = true) (hl : k < fs.length)
    (he' : cvv G.2.1 G.2.2 (up3 I K i k x) pm K i = .inr (ci, fs.set k (.int x))) (hd : decode cc pc = .ok (.putfield index, 3)) (kk : GG p l e R s m args below meth c G A nL ce sl Q (up3 I K i k x) pm L (pc + 3) rest) : GG p l e R s m args below meth c G A nL ce sl Q I pm L pc (.int x :: .ref (G.2.2 K i) :: rest) := by
  intro H locs ls h1 h2 h3
  have hap := va_apart (own := own) F.1.2.2.2.2 hin ty0 hty hnm F.2.1 hc
  have h10 := h1 K i hi
  rw [he] at h10
  obtain ⟨r, g1, cell, q1, q2, q3, q4⟩ := h10
  have hr : r = (C, T, N) := Option.some.inj (g1.symm.trans hc)
  subst hr
  obtain ⟨hS, hfc, kC, hkC, hkind⟩ := F.2.1.1 ci _ hc
  obtain ⟨cf, kf, fi, f, hi2, hsl⟩ := hS k hk
  have hlay := F.1.2.2.2.2 _ (hin _ (u_in_lay hk))
  unfold u_lay at hlay
  rw [if_neg (by rw [hfin]; decide)] at hlay
  have hst := (u_facts hfc hkC (u_lays F.1.2.2.2.2 hin hk) hi2).1
  have h6 := u_store hfc hkC hkind hlay hi2 hdt hn hfit
  refine W.putK F.1.1 F.1.2.1 (f := f) ⟨F.1.2.2.2.1, F.w hw, ⟨_, _, _, hi2⟩, hst⟩ (by rw [q2]; exact h6) q1 q3 (by rw [hsl]; exact k2_hasslot (q4 k hk)) rfl rfl hd fun H' e1 e2 e3 => ?_
  rw [hsl] at e1 ⊢
  refine kk H' _ ls (h1.put F.2.2.2.1 hi ?_ e3 (fun a b hab => cvv_cong (fun j => up3_n (fun q => hab ⟨q.1, q.2.1⟩)) (fun _ _ => rfl))) (h2.put e2 e3 (F.2.2.2.2 K i hi)) h3
  rw [he']
  exact ⟨_, hc, t_OB.to (V := updV (vp_V fs) k (.int x)) ⟨_, e1, q2, q3, t_set q4 hap hk (.int x)⟩ (fun j _ => vp_updV_set hl (.int x) j)⟩
theorem g_iald (F : FX p s m args c cc nL own G A) {K i n : Nat} {f : Nat → Int32} {x : Int32} (hi : i < cbK K) (he : cvv G.2.1 G.2.2 I pm K i = .inl (G.2.1 1, n, .inl f)) (hx : vp_in x n) (hd : decode cc pc = .ok (.iaload, 1)) (kk : GG p l e R s m args below meth c G A nL ce sl Q I pm L (pc + 1) (.int (f x.toNatClampNeg) :: rest)) : GG p l e R s m args below meth c G A nL ce sl Q I pm L pc (.int x :: .ref (G.2.2 K i) :: rest) := fun H locs ls h1 h2 h3 =>
  va_iald (D := G.1) (cl := vwCl) (tys := tyz G) (ws := [(G.2.2 K i, .inl (G.2.1 1, n, .inl f))]) F.1.1 F.1.2.1 F.2.1 (he ▸ h1.one hi) 0 1 rfl rfl hx hd (kk H locs ls h1 h2 h3)
theorem g_zald (F : FX p s m args c cc nL own G A) {K i n : Nat} {f : Nat → Int32} {x : Int32} (hi : i < cbK K) (he : cvv G.2.1 G.2.2 I pm K i = .inl (G.2.1 2, n, .inl f)) (hx : vp_in x n) (hd : decode cc pc = .ok (.baload, 1)) (kk : GG p l e R s m args below meth c G A nL ce sl Q I pm L (pc + 1) (.int (f x.toNatClampNeg) :: rest)) : GG p l e R s m args below meth c G A nL ce sl Q I pm L pc (.int x :: .ref (G.2.2 K i) :: rest) := fun H locs ls h1 h2 h3 =>
  va_zald (D := G.1) (cl := vwCl) (tys := tyz G) (ws := [(G.2.2 K i, .inl (G.2.1 2, n, .inl f))]) F.1.1 F.1.2.1 F.2.1 (he ▸ h1.one hi) 0 2 rfl rfl hx hd (kk H locs ls h1 h2 h3)
theorem g_cald (F : FX p s m args c cc nL own G A) {K i n : Nat} {f : Nat → Int32} {x : Int32} (hi : i < cbK K) (he : cvv G.2.1 G.2.2 I pm K i = .inl (G.2.1 0, n, .inl f)) (hx : vp_in x n) (hd : decode cc pc = .ok (.caload, 1)) (kk : GG p l e R s m args below meth c G A nL ce sl Q I pm L (pc + 1) (.int (f x.toNatClampNeg) :: rest)) : GG p l e R s m args below meth c G A nL ce sl Q I pm L pc (.int x :: .ref (G.2.2 K i) :: rest) := fun H locs ls h1 h2 h3 =>
  va_cald (D := G.1) (cl := vwCl) (tys := tyz G) (ws := [(G.2.2 K i, .inl (G.2.1 0, n, .inl f))]) F.1.1 F.1.2.1 F.2.1 (he ▸ h1.one hi) 0 0 rfl rfl hx hd (kk H locs ls h1 h2 h3)
theorem g_aald (F : FX p s m args c cc nL own G A) {K i n : Nat} {t0 : Nat} {cA : ClassId} {C : String} {f : Nat → Option Nat} {x : Int32} {a : Nat} (hi : i < cbK K) (he : cvv G.2.1 G.2.2 I pm K i = .inl (cA, n, .inr (.inr (.inr (.inr f))))) (ht : (tyz G)[t0]? = some (cA, .object C)) (hx : vp_in x n) (hf : f x.toNatClampNeg = some a) (hd : decode cc pc = .ok (.aaload, 1)) (kk : GG p l e R s m args below meth c G A nL ce sl Q I pm L (pc + 1) (.ref a :: rest)) : GG p l e R s m args below meth c G A nL ce sl Q I pm L pc (.int x :: .ref (G.2.2 K i) :: rest) := fun H locs ls h1 h2 h3 =>
  va_aldq (D := G.1) (cl := vwCl) (tys := tyz G) (ws := [(G.2.2 K i, .inl (cA, n, .inr (.inr (.inr (.inr f)))))]) F.1.1 F.1.2.1 F.2.1 (he ▸ h1.one hi) 0 t0 rfl ht hx hd (by rw [hf]; exact kk H locs ls h1 h2 h3)
theorem g_iast (F : FX p s m args c cc nL own G A) {K i n : Nat} {f : Nat → Int32} {j x : Int32} (hi : i < cbK K) (he : cvv G.2.1 G.2.2 I pm K i = .inl (G.2.1 1, n, .inl f)) (hx : vp_in j n) (he' : cvv G.2.1 G.2.2 (up3 I K i j.toNatClampNeg x) pm K i = .inl (G.2.1 1, n, .inl (upd f j.toNatClampNeg x))) (hd : decode cc pc = .ok (.iastore, 1)) (kk : GG p l e R s m args below meth c G A nL ce sl Q (up3 I K i j.toNatClampNeg x) pm L (pc + 1) rest) : GG p l e R s m args below meth c G A nL ce sl Q I pm L pc (.int x :: .int j :: .ref (G.2.2 K i) :: rest) := by
  intro H locs ls h1 h2 h3
  have h10 := h1 K i hi
  rw [he] at h10
  refine W.iast F.1.1 F.1.2.1 (H := H) h10 ((F.2.1.2 1 _ rfl).1 n (fun j => .int (f j))) (fun q => by cases q) (by show ¬ (j < 0 ∨ (arrV _ _ _).slots.size ≤ _); rw [arrV_size]; exact hx) rfl rfl hd fun H1 e z oq => ?_
  refine kk H1 _ ls (h1.put F.2.2.2.1 hi ?_ oq (fun a b hab => cvv_cong (fun j => up3_n (fun q => hab ⟨q.1, q.2.1⟩)) (fun _ _ => rfl))) (h2.put z oq (F.2.2.2.2 K i hi)) h3
  rw [he']
  show H1[G.2.2 K i]? = some (vp_cell _ _)
  rw [e, vp_cell_i, vp_cell_i, arrV_store]
  congr 2
  funext q
  by_cases hq : q = j.toNatClampNeg
  · subst hq
    simp [updV, upd]
  · simp [updV, upd, hq]
theorem g_zast (F : FX p s m args c cc nL own G A) {K i n : Nat} {f : Nat → Int32} {j x : Int32} (hi : i < cbK K) (he : cvv G.2.1 G.2.2 I pm K i = .inl (G.2.1 2, n, .inl f)) (hx : vp_in j n) (hn : narrow .boolean (.int x) = .int x) (he' : cvv G.2.1 G.2.2 (up3 I K i j.toNatClampNeg x) pm K i = .inl (G.2.1 2, n, .inl (upd f j.toNatClampNeg x))) (hd : decode cc pc = .ok (.bastore, 1)) (kk : GG p l e R s m args below meth c G A nL ce sl Q (up3 I K i j.toNatClampNeg x) pm L (pc + 1) rest) : GG p l e R s m args below meth c G A nL ce sl Q I pm L pc (.int x :: .int j :: .ref (G.2.2 K i) :: rest) := by
  intro H locs ls h1 h2 h3
  have h10 := h1 K i hi
  rw [he] at h10
  refine W.zast F.1.1 F.1.2.1 (H := H) h10 ((F.2.1.2 2 _ rfl).1 n (fun j => .int (f j))) (fun q => by cases q) (by show ¬ (j < 0 ∨ (arrV _ _ _).slots.size ≤ _); rw [arrV_size]; exact hx) rfl rfl hd fun H1 e z oq => ?_
  refine kk H1 _ ls (h1.put F.2.2.2.1 hi ?_ oq (fun a b hab => cvv_cong (fun j => up3_n (fun q => hab ⟨q.1, q.2.1⟩)) (fun _ _ => rfl))) (h2.put z oq (F.2.2.2.2 K i hi)) h3
  rw [he']
  show H1[G.2.2 K i]? = some (vp_cell _ _)
  rw [hn] at e
  rw [e, vp_cell_i, vp_cell_i, arrV_store]
  congr 2
  funext q
  by_cases hq : q = j.toNatClampNeg
  · subst hq
    simp [updV, upd]
  · simp [updV, upd, hq]
theorem g_cast (F : FX p s m args c cc nL own G A) {K i n : Nat} {f : Nat → Int32} {j x : Int32} (hi : i < cbK K) (he : cvv G.2.1 G.2.2 I pm K i = .inl (G.2.1 0, n, .inl f)) (hx : vp_in j n) (hn : narrow .char (.int x) = .int x) (he' : cvv G.2.1 G.2.2 (up3 I K i j.toNatClampNeg x) pm K i = .inl (G.2.1 0, n, .inl (upd f j.toNatClampNeg x))) (hd : decode cc pc = .ok (.castore, 1)) (kk : GG p l e R s m args below meth c G A nL ce sl Q (up3 I K i j.toNatClampNeg x) pm L (pc + 1) rest) : GG p l e R s m args below meth c G A nL ce sl Q I pm L pc (.int x :: .int j :: .ref (G.2.2 K i) :: rest) := by
  intro H locs ls h1 h2 h3
  have h10 := h1 K i hi
  rw [he] at h10
  refine W.cast F.1.1 F.1.2.1 (H := H) h10 ((F.2.1.2 0 _ rfl).1 n (fun j => .int (f j))) (fun q => by cases q) (by show ¬ (j < 0 ∨ (arrV _ _ _).slots.size ≤ _); rw [arrV_size]; exact hx) rfl rfl hd fun H1 e z oq => ?_
  refine kk H1 _ ls (h1.put F.2.2.2.1 hi ?_ oq (fun a b hab => cvv_cong (fun j => up3_n (fun q => hab ⟨q.1, q.2.1⟩)) (fun _ _ => rfl))) (h2.put z oq (F.2.2.2.2 K i hi)) h3
  rw [he']
  show H1[G.2.2 K i]? = some (vp_cell _ _)
  rw [hn] at e
  rw [e, vp_cell_i, vp_cell_i, arrV_store]
  congr 2
  funext q
  by_cases hq : q = j.toNatClampNeg
  · subst hq
    simp [updV, upd]
  · simp [updV, upd, hq]
/-- a loco is laid into a layout's row -/
theorem g_aast (F : FX p s m args c cc nL own G A) {i v : Nat} {j : Int32} (hi : i < 11) (hv : v < 8) (hx : vp_in j 8) (hd : decode cc pc = .ok (.aastore, 1)) (kk : GG p l e R s m args below meth c G A nL ce sl Q I (upP pm i j.toNatClampNeg v) L (pc + 1) rest) : GG p l e R s m args below meth c G A nL ce sl Q I pm L pc (.ref (G.2.2 7 (8 * i + v)) :: .int j :: .ref (G.2.2 1 i) :: rest) := by
  intro H locs ls h1 h2 h3
  have h10 := h1 1 i hi
  have h7 : 8 * i + v < cbK 7 := by show _ < 88; omega
  have h70 := h1 7 (8 * i + v) h7
  obtain ⟨r', hr', cellV, g1, g2, g3, -⟩ := h70
  have hcls := (F.2.1.1 2 (RX2, TX2, 11) rfl).2
  obtain ⟨kA, comp, k1, k2, k3, -⟩ := (F.2.1.2 4 _ rfl).2
  have hcomp : comp = G.1.1 2 := Option.some.inj (k3.symm.trans hcls.1)
  subst hcomp
  obtain ⟨kC, hkC, -⟩ := hcls.2
  refine W.aast F.1.1 F.1.2.1 (H := H) h10 (fun q h => by cases h) (fun h => by cases h) k1 k2 rfl hkC ⟨fun q => hx (Or.inl q), by show _ < (arrV _ _ _).slots.size; rw [arrV_size]; exact Nat.not_le.mp fun q => hx (Or.inr q)⟩ g1 (fun q h => by rw [g3] at h; cases h) (by rw [g2]; exact hkC) (by rw [g2]; exact va_assign hcls) rfl rfl hd fun H1 e z oq => ?_
  refine kk H1 _ ls (h1.put F.2.2.2.1 hi ?_ oq (fun a b hab => cvv_cong (fun j => rfl) (fun ha r => by simp only [upP]; rw [if_neg (fun q => hab ⟨ha, q.1⟩)]))) (h2.put z oq (F.2.2.2.2 1 i hi)) h3
  show H1[G.2.2 1 i]? = some (vp_cell (G.2.1 4) (8, .inr (.inr (.inr (.inr _)))))
  rw [e]
  show some (Cell.setSlot (vp_cell (G.2.1 4) (8, .inr (.inr (.inr (.inr (fun r => some (G.2.2 7 (8 * i + pm i r)))))))) _ _) = _
  rw [vp_cell_q, vp_cell_q, arrV_store]
  congr 2
  funext q
  by_cases hq : q = j.toNatClampNeg
  · subst hq
    simp [updV, upP, va_rf]
  · simp [updV, upP, hq]
/-- System.arraycopy of a whole row of ints onto another -/
theorem g_copyi (F : FX p s m args c cc nL own G A) {index K i K' i' n : Nat} {f g : Nat → Int32} {z : Int32} (hi : i < cbK K) (hi' : i' < cbK K') (he : cvv G.2.1 G.2.2 I pm K i = .inl (G.2.1 1, n, .inl f)) (he2 : cvv G.2.1 G.2.2 I pm K' i' = .inl (G.2.1 1, n, .inl g)) (hw : Cond.methodLink own index arraycopyName ∈ wsL_law) (hw2 : Cond.native arraycopyName ∈ wsL_law) (hw3 : Cond.static arraycopyName ∈ wsL_law) (hw4 : Cond.initialized "java/lang/System" ∈ wsL_law) (hz : z = nI n) (hn : n < 2 ^ 31) (hR : 1 ≤ R.frames ∧ (rest.map fun v => v.category).sum + (nativeFrameWords "java/lang/System" "arraycopy" 5 + 11) ≤ R.locals)
    (he' : cvv G.2.1 G.2.2 (upR I K' i' (va_cpy f g 0 0 n)) pm K' i' = .inl (G.2.1 1, n, .inl (va_cpy f g 0 0 n))) (hd : decode cc pc = .ok (.invokestatic index, 3)) (kk : GG p l e R s m args below meth c G A nL ce sl Q (upR I K' i' (va_cpy f g 0 0 n)) pm L (pc + 3) rest) : GG p l e R s m args below meth c G A nL ce sl Q I pm L pc (.int z :: .int 0 :: .ref (G.2.2 K' i') :: .int 0 :: .ref (G.2.2 K i) :: rest) := by
  intro H locs ls h1 h2 h3
  have hc0 : H[G.2.2 K i]? = some (vp_cell (G.2.1 1) (n, .inl f)) := by have q := h1 K i hi; rw [he] at q; exact q
  have hc1 : H[G.2.2 K' i']? = some (vp_cell (G.2.1 1) (n, .inl g)) := by have q := h1 K' i' hi'; rw [he2] at q; exact q
  subst hz
  have hcl : (nI n).toNatClampNeg = n := nI_clamp hn
  have hn0 : ¬ nI n < 0 := nI_pos hn
  have hnt : (nI n).toInt = (n : Int) := nI_toInt hn
  have z0 : (0 : Int32).toNatClampNeg = 0 := rfl
  intro T hT X
  obtain ⟨-, k0, hk0, cm0, hkk0⟩ := (F.2.1.2 1 _ rfl).1 n (fun j => .int (f j))
  obtain ⟨-, k1, hk1, cm1, hkk1⟩ := (F.2.1.2 1 _ rfl).1 n (fun j => .int (g j))
  obtain ⟨vm', X', step⟩ := X.arraycopy F.1.1 F.1.2.2.2.1 (F.w hw) (F.w hw2) (F.w hw3) (F.w hw4) (src := G.2.2 K i) (dst := G.2.2 K' i') (cs := vp_cell (G.2.1 1) (n, .inl f)) (cd := vp_cell (G.2.1 1) (n, .inl g)) (srcPos := 0) (destPos := 0) (n := nI n) (by rw [hT]; exact hc0) (by rw [hT]; exact hc1)
    (fun _ h => by cases h) (fun _ h => by cases h) (fun h => by cases h) (fun h => by cases h) hk0 hk1 hkk0 hkk1 (by simp [refKind]) (by decide) (by decide) hn0
    (by rw [hnt]; show ¬ _ > ((arrV (G.2.1 1) n (fun j => .int (f j))).slots.size : Int); rw [arrV_size]; simp)
    (by rw [hnt]; show ¬ _ > ((arrV (G.2.1 1) n (fun j => .int (g j))).slots.size : Int); rw [arrV_size]; simp)
    (fun vm₁ _ a ha => by
      rw [hcl] at ha
      have ee : (vp_cell (G.2.1 1) (n, .inl f)).slots.getD ((0 : Int32).toNatClampNeg + a) .null = .int (f a) := by
        show (arrV (G.2.1 1) n (fun j => .int (f j))).slots.getD _ _ = _
        rw [z0, Nat.zero_add, Array.getD_eq_getD_getElem?, arrV_read _ _ ha]
        rfl
      refine ⟨?_, ?_⟩
      · rw [ee]; rfl
      · rw [ee]
        exact trivial)
    (g := F0 m pc ls (.int (nI n) :: .int 0 :: .ref (G.2.2 K' i') :: .int 0 :: .ref (G.2.2 K i) :: rest)) rfl (by rw [F.1.2.2.1]; exact h3.1) (rest := rest) rfl (by rw [F.1.2.1]; exact hd) hR.1 (by show 2 * 0 + _ + _ ≤ _; have := hR.2; omega)
  have e1 : copied (vp_cell (G.2.1 1) (n, .inl f)) (vp_cell (G.2.1 1) (n, .inl g)) 0 0 (nI n) = vp_cell (G.2.1 1) (n, .inl (va_cpy f g 0 0 n)) := by
    have q := va_copied (fun z => Value.int z) (G.2.1 1) (G.2.1 1) f g (n0 := n) (n1 := n) (sp := (0 : Int32).toNatClampNeg) (dp := (0 : Int32).toNatClampNeg) (n := (nI n).toNatClampNeg) (by rw [hcl, z0]; omega)
    have q2 : copied (vp_cell (G.2.1 1) (n, .inl f)) (vp_cell (G.2.1 1) (n, .inl g)) 0 0 (nI n) = vp_cell (G.2.1 1) (n, .inl (va_cpy f g (0 : Int32).toNatClampNeg (0 : Int32).toNatClampNeg (nI n).toNatClampNeg)) := q
    rw [hcl, z0] at q2
    exact q2
  rw [e1] at X' step
  have hl : G.2.2 K' i' < H.size := (Array.getElem?_eq_some_iff.mp hc1).1
  have hheap : ((T.setVm vm').setCell (G.2.2 K' i') (vp_cell (G.2.1 1) (n, .inl (va_cpy f g 0 0 n)))).heap = H.setIfInBounds (G.2.2 K' i') (vp_cell (G.2.1 1) (n, .inl (va_cpy f g 0 0 n))) := by rw [← hT]; rfl
  have oq : ∀ q : Nat, q ≠ G.2.2 K' i' → (H.setIfInBounds (G.2.2 K' i') (vp_cell (G.2.1 1) (n, .inl (va_cpy f g 0 0 n))))[q]? = H[q]? := fun q hq => by simp [Array.getElem?_setIfInBounds, Ne.symm hq]
  obtain ⟨t, a1, b1⟩ := kk _ _ ls (h1.put F.2.2.2.1 hi' (by rw [he']; exact (show (H.setIfInBounds (G.2.2 K' i') _)[G.2.2 K' i']? = some _ by simp [Array.getElem?_setIfInBounds, hl])) oq (fun a b hab => cvv_cong (fun j => upR_n hab) (fun _ _ => rfl))) ⟨by simp; exact h2.1, fun q g1 g2 => by
      rw [oq q (fun e => g2 (by rw [e]; exact F.2.2.2.2 K' i' hi'))]
      exact h2.2.1 q g1 g2, fun q hq => by
      rcases List.mem_append.mp hq with h | h
      · exact h2.2.2 q h
      · obtain ⟨z, -, hz⟩ := List.mem_map.mp h
        rw [← hz]
        exact F.2.2.2.2 K' i' hi'⟩ h3 _ hheap X'
  exact ⟨t, step t a1, b1⟩
theorem g_mmax (F : FX p s m args c cc nL own G A) {index : Nat} {x y : Int32} (hw : Cond.methodLink own index Lib.Math.max.name ∈ wsL_law) (hw2 : Cond.static Lib.Math.max.name ∈ wsL_law) (hw3 : Cond.initialized "java/lang/Math" ∈ wsL_law) (hw4 : Cond.code Lib.Math.max.name Lib.Math.max.code 2 (some .int) ∈ wsL_law) (hR : 1 ≤ R.frames ∧ (rest.map fun v => v.category).sum + 13 ≤ R.locals ∧ ce ≤ R.cells ∧ sl ≤ R.slots) (hd : decode cc pc = .ok (.invokestatic index, 3)) (k : GG p l e R s m args below meth c G A nL ce sl Q I pm L (pc + 3) (.int (if x < y then y else x) :: rest)) : GG p l e R s m args below meth c G A nL ce sl Q I pm L pc (.int y :: .int x :: rest) := fun H locs ls h1 h2 h3 => va_mmax F.1.1 F.1.2.1 (by rw [F.1.2.2.1]; exact h3.1.symm) F.1.2.2.2.1 (F.w hw) (F.w hw2) (F.w hw3) (F.w hw4) hR.1 hR.2.1 hR.2.2.1 hR.2.2.2 hd (k H locs ls h1 h2 h3)
theorem g_mmin (F : FX p s m args c cc nL own G A) {index : Nat} {x y : Int32} (hw : Cond.methodLink own index Lib.Math.min.name ∈ wsL_law) (hw2 : Cond.static Lib.Math.min.name ∈ wsL_law) (hw3 : Cond.initialized "java/lang/Math" ∈ wsL_law) (hw4 : Cond.code Lib.Math.min.name Lib.Math.min.code 2 (some .int) ∈ wsL_law) (hR : 1 ≤ R.frames ∧ (rest.map fun v => v.category).sum + 13 ≤ R.locals ∧ ce ≤ R.cells ∧ sl ≤ R.slots) (hd : decode cc pc = .ok (.invokestatic index, 3)) (k : GG p l e R s m args below meth c G A nL ce sl Q I pm L (pc + 3) (.int (if y < x then y else x) :: rest)) : GG p l e R s m args below meth c G A nL ce sl Q I pm L pc (.int y :: .int x :: rest) := fun H locs ls h1 h2 h3 => va_mmin F.1.1 F.1.2.1 (by rw [F.1.2.2.1]; exact h3.1.symm) F.1.2.2.2.1 (F.w hw) (F.w hw2) (F.w hw3) (F.w hw4) hR.1 hR.2.1 hR.2.2.1 hR.2.2.2 hd (k H locs ls h1 h2 h3)
theorem g_mabs (F : FX p s m args c cc nL own G A) {index : Nat} {x : Int32} (hw : Cond.methodLink own index Lib.Math.abs.name ∈ wsL_law) (hw2 : Cond.static Lib.Math.abs.name ∈ wsL_law) (hw3 : Cond.initialized "java/lang/Math" ∈ wsL_law) (hw4 : Cond.code Lib.Math.abs.name Lib.Math.abs.code 1 (some .int) ∈ wsL_law) (hR : 1 ≤ R.frames ∧ (rest.map fun v => v.category).sum + 13 ≤ R.locals ∧ ce ≤ R.cells ∧ sl ≤ R.slots) (hd : decode cc pc = .ok (.invokestatic index, 3)) (k : GG p l e R s m args below meth c G A nL ce sl Q I pm L (pc + 3) (.int (if 0 ≤ x then x else 0 - x) :: rest)) : GG p l e R s m args below meth c G A nL ce sl Q I pm L pc (.int x :: rest) := fun H locs ls h1 h2 h3 => va_mabs F.1.1 F.1.2.1 (by rw [F.1.2.2.1]; exact h3.1.symm) F.1.2.2.2.1 (F.w hw) (F.w hw2) (F.w hw3) (F.w hw4) hR.1 hR.2.1 hR.2.2.1 hR.2.2.2 hd (k H locs ls h1 h2 h3)
theorem g_callIv (F : FX p s m args c cc nL own G A) {y : MethodName} {b : ByteArray} {n na index ci : Nat} {ret : Option FieldType} {rm : Room} {As : List Value} {post : Int32 → Ii × Pm → Prop} {fs : List Value} {q : vw_C} (K i : Nat) (hM : CI l G y (wz y b n ret) rm (.ref (G.2.2 K i) :: As) I pm post) (hi : i < cbK K) (he : cvv G.2.1 G.2.2 I pm K i = .inr (ci, fs)) (hc : vwCl[ci]? = some q) (hlk : GoodIn wsL_law (wsV own index q.1 y (wz y b n ret))) (hst : st = As.reverse ++ .ref (G.2.2 K i) :: rest) (hna : As.length = na) (hdy : y.cls = q.1 ∧ y.cls ≠ "java/lang/invoke/MethodHandle" ∧ y.cls ≠ "java/lang/invoke/VarHandle" ∧ (parseMethodDescriptor y.desc).map (fun d => d.parameters.length) = some na) (hrm : rm.cells = 0 ∧ rm.slots = 0 ∧ rm.frames + 1 ≤ R.frames ∧ 8 + (n + 11) + rm.locals ≤ R.locals ∧ ce ≤ R.cells ∧ sl ≤ R.slots ∧ (rest.map fun v => v.category).sum ≤ 8) (hd : decode cc pc = .ok (.invokevirtual index, 3)) (kk : ∀ (r : Int32) (u : Ii × Pm), post r u → GG p l e R s m args below meth c G A nL ce sl Q u.1 u.2 L (pc + 3) (.int r :: rest)) : GG p l e R s m args below meth c G A nL ce sl Q I pm L pc st := fun H locs ls h1 h2 h3 => by
  subst hst
  exact va_calli (va_runV (As := As) (rest := rest) F.1 hM (cwV na F.1.2.2.2.2 hlk rfl hrm.1 hrm.2.1 hdy ⟨hrm.2.2.1, hrm.2.2.2.1⟩) ⟨PP.blind, va_recv (q0 := 0) F.2.1 (h1.one hi) hc (congrArg (fun z => some (G.2.2 K i, z)) he), fun U hU hW => ⟨rfl, by rw [hU]; exact h1, va_K.moved hW.alike F.2.1, NN.warm hW F.2.2.1⟩⟩ rfl hna h3.1 rfl (lv_room hrm.2.2.2.2.2.2) hd ⟨hrm.2.2.2.2.1, hrm.2.2.2.2.2.1⟩) h2 (fun q _ hq => by obtain ⟨a, b, hb, rfl⟩ := hq; exact F.2.2.2.2 a b hb) (fun q hq => by obtain ⟨a, b, hb, rfl⟩ := hq; exact F.2.2.2.2 a b hb) (fun r u t H1 locs1 ht hvm hw hB hz hk hS => kk r u hw H1 locs1 ls (by rw [← ht]; exact hB) hS h3)
theorem g_callIs (F : FX p s m args c cc nL own G A) {y : MethodName} {b : ByteArray} {n na index : Nat} {ret : Option FieldType} {rm : Room} {As : List Value} {post : Int32 → Ii × Pm → Prop} (hM : CI l G y (wz y b n ret) rm As I pm post) (hlk : GoodIn wsL_law (va_wsS own index y (wz y b n ret))) (hst : st = As.reverse ++ rest) (hna : As.length = na) (hdy : y.cls ≠ "java/lang/invoke/MethodHandle" ∧ y.cls ≠ "java/lang/invoke/VarHandle" ∧ (parseMethodDescriptor y.desc).map (fun d => d.parameters.length) = some na) (hrm : rm.cells = 0 ∧ rm.slots = 0 ∧ rm.frames + 1 ≤ R.frames ∧ 8 + (n + 11) + rm.locals ≤ R.locals ∧ ce ≤ R.cells ∧ sl ≤ R.slots ∧ (rest.map fun v => v.category).sum ≤ 8) (hd : decode cc pc = .ok (.invokestatic index, 3)) (kk : ∀ (r : Int32) (u : Ii × Pm), post r u → GG p l e R s m args below meth c G A nL ce sl Q u.1 u.2 L (pc + 3) (.int r :: rest)) : GG p l e R s m args below meth c G A nL ce sl Q I pm L pc st := fun H locs ls h1 h2 h3 => by
  subst hst
  exact va_calli (va_runS (As := As) (rest := rest) F.1 hM (va_cwS na F.1.2.2.2.2 hlk rfl hrm.1 hrm.2.1 hdy ⟨hrm.2.2.1, hrm.2.2.2.1⟩) ⟨PP.blind, fun U hU hW => ⟨rfl, by rw [hU]; exact h1, va_K.moved hW.alike F.2.1, NN.warm hW F.2.2.1⟩⟩ rfl hna h3.1 rfl (lv_room hrm.2.2.2.2.2.2) hd ⟨hrm.2.2.2.2.1, hrm.2.2.2.2.2.1⟩) h2 (fun q _ hq => by obtain ⟨a, b, hb, rfl⟩ := hq; exact F.2.2.2.2 a b hb) (fun q hq => by obtain ⟨a, b, hb, rfl⟩ := hq; exact F.2.2.2.2 a b hb) (fun r u t H1 locs1 ht hvm hw hB hz hk hS => kk r u hw H1 locs1 ls (by rw [← ht]; exact hB) hS h3)
theorem g_callIn (F : FX p s m args c cc nL own G A) {y : MethodName} {b : ByteArray} {n na index : Nat} {host : String} {ret : Option FieldType} {rm : Room} {As : List Value} {post : Int32 → Ii × Pm → Prop} (hM : CI l G y (wz y b n ret) rm As I pm post) (hgd : GoodIn wsL_law (wz y b n ret)) (hnest : va_Nw (.methodLinkNest own index y host) s) (hw : Cond.static y ∈ wsL_law) (hw2 : Cond.initialized y.cls ∈ wsL_law) (hst : st = As.reverse ++ rest) (hna : As.length = na) (hdy : y.cls ≠ "java/lang/invoke/MethodHandle" ∧ y.cls ≠ "java/lang/invoke/VarHandle" ∧ (parseMethodDescriptor y.desc).map (fun d => d.parameters.length) = some na) (hrm : rm.cells = 0 ∧ rm.slots = 0 ∧ rm.frames + 1 ≤ R.frames ∧ 8 + (n + 11) + rm.locals ≤ R.locals ∧ ce ≤ R.cells ∧ sl ≤ R.slots ∧ (rest.map fun v => v.category).sum ≤ 8) (hd : decode cc pc = .ok (.invokestatic index, 3)) (kk : ∀ (r : Int32) (u : Ii × Pm), post r u → GG p l e R s m args below meth c G A nL ce sl Q u.1 u.2 L (pc + 3) (.int r :: rest)) : GG p l e R s m args below meth c G A nL ce sl Q I pm L pc st := fun H locs ls h1 h2 h3 => by
  subst hst
  exact va_calli (va_runSN (As := As) (rest := rest) F.1 hM ⟨va_cnB na F.1.2.2.2.2 hgd rfl hrm.1 hrm.2.1 hnest (F.w hw2) hdy ⟨hrm.2.2.1, hrm.2.2.2.1⟩, F.w hw, trivial⟩ ⟨PP.blind, fun U hU hW => ⟨rfl, by rw [hU]; exact h1, va_K.moved hW.alike F.2.1, NN.warm hW F.2.2.1⟩⟩ rfl hna h3.1 rfl (lv_room hrm.2.2.2.2.2.2) hd ⟨hrm.2.2.2.2.1, hrm.2.2.2.2.2.1⟩) h2 (fun q _ hq => by obtain ⟨a, b, hb, rfl⟩ := hq; exact F.2.2.2.2 a b hb) (fun q hq => by obtain ⟨a, b, hb, rfl⟩ := hq; exact F.2.2.2.2 a b hb) (fun r u t H1 locs1 ht hvm hw hB hz hk hS => kk r u hw H1 locs1 ls (by rw [← ht]; exact hB) hS h3)
theorem g_callVv (F : FX p s m args c cc nL own G A) {y : MethodName} {b : ByteArray} {n na index ci : Nat} {ret : Option FieldType} {rm : Room} {As : List Value} {post : Ii × Pm → Prop} {fs : List Value} {q : vw_C} (K i : Nat) (hM : CV l G y (wz y b n ret) rm (.ref (G.2.2 K i) :: As) I pm post) (hi : i < cbK K) (he : cvv G.2.1 G.2.2 I pm K i = .inr (ci, fs)) (hc : vwCl[ci]? = some q) (hlk : GoodIn wsL_law (wsV own index q.1 y (wz y b n ret))) (hst : st = As.reverse ++ .ref (G.2.2 K i) :: rest) (hna : As.length = na) (hdy : y.cls = q.1 ∧ y.cls ≠ "java/lang/invoke/MethodHandle" ∧ y.cls ≠ "java/lang/invoke/VarHandle" ∧ (parseMethodDescriptor y.desc).map (fun d => d.parameters.length) = some na) (hrm : rm.cells = 0 ∧ rm.slots = 0 ∧ rm.frames + 1 ≤ R.frames ∧ 8 + (n + 11) + rm.locals ≤ R.locals ∧ ce ≤ R.cells ∧ sl ≤ R.slots ∧ (rest.map fun v => v.category).sum ≤ 8) (hd : decode cc pc = .ok (.invokevirtual index, 3)) (kk : ∀ (u : Ii × Pm), post u → GG p l e R s m args below meth c G A nL ce sl Q u.1 u.2 L (pc + 3) rest) : GG p l e R s m args below meth c G A nL ce sl Q I pm L pc st := fun H locs ls h1 h2 h3 => by
  subst hst
  exact va_callv (va_runV (As := As) (rest := rest) F.1 hM (cwV na F.1.2.2.2.2 hlk rfl hrm.1 hrm.2.1 hdy ⟨hrm.2.2.1, hrm.2.2.2.1⟩) ⟨PP.blind, va_recv (q0 := 0) F.2.1 (h1.one hi) hc (congrArg (fun z => some (G.2.2 K i, z)) he), fun U hU hW => ⟨rfl, by rw [hU]; exact h1, va_K.moved hW.alike F.2.1, NN.warm hW F.2.2.1⟩⟩ rfl hna h3.1 rfl (lv_room hrm.2.2.2.2.2.2) hd ⟨hrm.2.2.2.2.1, hrm.2.2.2.2.2.1⟩) h2 (fun q _ hq => by obtain ⟨a, b, hb, rfl⟩ := hq; exact F.2.2.2.2 a b hb) (fun q hq => by obtain ⟨a, b, hb, rfl⟩ := hq; exact F.2.2.2.2 a b hb) (fun u t H1 locs1 ht hvm hw hB hz hk hS => kk u hw H1 locs1 ls (by rw [← ht]; exact hB) hS h3)
theorem g_callVs (F : FX p s m args c cc nL own G A) {y : MethodName} {b : ByteArray} {n na index : Nat} {ret : Option FieldType} {rm : Room} {As : List Value} {post : Ii × Pm → Prop} (hM : CV l G y (wz y b n ret) rm As I pm post) (hlk : GoodIn wsL_law (va_wsS own index y (wz y b n ret))) (hst : st = As.reverse ++ rest) (hna : As.length = na) (hdy : y.cls ≠ "java/lang/invoke/MethodHandle" ∧ y.cls ≠ "java/lang/invoke/VarHandle" ∧ (parseMethodDescriptor y.desc).map (fun d => d.parameters.length) = some na) (hrm : rm.cells = 0 ∧ rm.slots = 0 ∧ rm.frames + 1 ≤ R.frames ∧ 8 + (n + 11) + rm.locals ≤ R.locals ∧ ce ≤ R.cells ∧ sl ≤ R.slots ∧ (rest.map fun v => v.category).sum ≤ 8) (hd : decode cc pc = .ok (.invokestatic index, 3)) (kk : ∀ (u : Ii × Pm), post u → GG p l e R s m args below meth c G A nL ce sl Q u.1 u.2 L (pc + 3) rest) : GG p l e R s m args below meth c G A nL ce sl Q I pm L pc st := fun H locs ls h1 h2 h3 => by
  subst hst
  exact va_callv (va_runS (As := As) (rest := rest) F.1 hM (va_cwS na F.1.2.2.2.2 hlk rfl hrm.1 hrm.2.1 hdy ⟨hrm.2.2.1, hrm.2.2.2.1⟩) ⟨PP.blind, fun U hU hW => ⟨rfl, by rw [hU]; exact h1, va_K.moved hW.alike F.2.1, NN.warm hW F.2.2.1⟩⟩ rfl hna h3.1 rfl (lv_room hrm.2.2.2.2.2.2) hd ⟨hrm.2.2.2.2.1, hrm.2.2.2.2.2.1⟩) h2 (fun q _ hq => by obtain ⟨a, b, hb, rfl⟩ := hq; exact F.2.2.2.2 a b hb) (fun q hq => by obtain ⟨a, b, hb, rfl⟩ := hq; exact F.2.2.2.2 a b hb) (fun u t H1 locs1 ht hvm hw hB hz hk hS => kk u hw H1 locs1 ls (by rw [← ht]; exact hB) hS h3)
theorem g_callQv (F : FX p s m args c cc nL own G A) {y : MethodName} {b : ByteArray} {n na index ci : Nat} {ret : Option FieldType} {rm : Room} {As : List Value} {post : Option Nat → Ii × Pm → Prop} {fs : List Value} {q : vw_C} (K i : Nat) (hM : CQ l G y (wz y b n ret) rm (.ref (G.2.2 K i) :: As) I pm post) (hi : i < cbK K) (he : cvv G.2.1 G.2.2 I pm K i = .inr (ci, fs)) (hc : vwCl[ci]? = some q) (hlk : GoodIn wsL_law (wsV own index q.1 y (wz y b n ret))) (hst : st = As.reverse ++ .ref (G.2.2 K i) :: rest) (hna : As.length = na) (hdy : y.cls = q.1 ∧ y.cls ≠ "java/lang/invoke/MethodHandle" ∧ y.cls ≠ "java/lang/invoke/VarHandle" ∧ (parseMethodDescriptor y.desc).map (fun d => d.parameters.length) = some na) (hrm : rm.cells = 0 ∧ rm.slots = 0 ∧ rm.frames + 1 ≤ R.frames ∧ 8 + (n + 11) + rm.locals ≤ R.locals ∧ ce ≤ R.cells ∧ sl ≤ R.slots ∧ (rest.map fun v => v.category).sum ≤ 8) (hd : decode cc pc = .ok (.invokevirtual index, 3)) (kk : ∀ (r : Option Nat) (u : Ii × Pm), post r u → GG p l e R s m args below meth c G A nL ce sl Q u.1 u.2 L (pc + 3) (va_rf r :: rest)) : GG p l e R s m args below meth c G A nL ce sl Q I pm L pc st := fun H locs ls h1 h2 h3 => by
  subst hst
  exact va_callq (va_runV (As := As) (rest := rest) F.1 hM (cwV na F.1.2.2.2.2 hlk rfl hrm.1 hrm.2.1 hdy ⟨hrm.2.2.1, hrm.2.2.2.1⟩) ⟨PP.blind, va_recv (q0 := 0) F.2.1 (h1.one hi) hc (congrArg (fun z => some (G.2.2 K i, z)) he), fun U hU hW => ⟨rfl, by rw [hU]; exact h1, va_K.moved hW.alike F.2.1, NN.warm hW F.2.2.1⟩⟩ rfl hna h3.1 rfl (lv_room hrm.2.2.2.2.2.2) hd ⟨hrm.2.2.2.2.1, hrm.2.2.2.2.2.1⟩) h2 (fun q _ hq => by obtain ⟨a, b, hb, rfl⟩ := hq; exact F.2.2.2.2 a b hb) (fun q hq => by obtain ⟨a, b, hb, rfl⟩ := hq; exact F.2.2.2.2 a b hb) (fun r u t H1 locs1 ht hvm hw hB hz hk hS => kk r u hw H1 locs1 ls (by rw [← ht]; exact hB) hS h3)
theorem g_callQs (F : FX p s m args c cc nL own G A) {y : MethodName} {b : ByteArray} {n na index : Nat} {ret : Option FieldType} {rm : Room} {As : List Value} {post : Option Nat → Ii × Pm → Prop} (hM : CQ l G y (wz y b n ret) rm As I pm post) (hlk : GoodIn wsL_law (va_wsS own index y (wz y b n ret))) (hst : st = As.reverse ++ rest) (hna : As.length = na) (hdy : y.cls ≠ "java/lang/invoke/MethodHandle" ∧ y.cls ≠ "java/lang/invoke/VarHandle" ∧ (parseMethodDescriptor y.desc).map (fun d => d.parameters.length) = some na) (hrm : rm.cells = 0 ∧ rm.slots = 0 ∧ rm.frames + 1 ≤ R.frames ∧ 8 + (n + 11) + rm.locals ≤ R.locals ∧ ce ≤ R.cells ∧ sl ≤ R.slots ∧ (rest.map fun v => v.category).sum ≤ 8) (hd : decode cc pc = .ok (.invokestatic index, 3)) (kk : ∀ (r : Option Nat) (u : Ii × Pm), post r u → GG p l e R s m args below meth c G A nL ce sl Q u.1 u.2 L (pc + 3) (va_rf r :: rest)) : GG p l e R s m args below meth c G A nL ce sl Q I pm L pc st := fun H locs ls h1 h2 h3 => by
  subst hst
  exact va_callq (va_runS (As := As) (rest := rest) F.1 hM (va_cwS na F.1.2.2.2.2 hlk rfl hrm.1 hrm.2.1 hdy ⟨hrm.2.2.1, hrm.2.2.2.1⟩) ⟨PP.blind, fun U hU hW => ⟨rfl, by rw [hU]; exact h1, va_K.moved hW.alike F.2.1, NN.warm hW F.2.2.1⟩⟩ rfl hna h3.1 rfl (lv_room hrm.2.2.2.2.2.2) hd ⟨hrm.2.2.2.2.1, hrm.2.2.2.2.2.1⟩) h2 (fun q _ hq => by obtain ⟨a, b, hb, rfl⟩ := hq; exact F.2.2.2.2 a b hb) (fun q hq => by obtain ⟨a, b, hb, rfl⟩ := hq; exact F.2.2.2.2 a b hb) (fun r u t H1 locs1 ht hvm hw hB hz hk hS => kk r u hw H1 locs1 ls (by rw [← ht]; exact hB) hS h3)
end BASE
section RETS
variable {p : Program} {l : Launch} {e : Env} {R : Room} {s : State} {m : MethodId} {args : Array Value} {below : List Frame} {meth : Method} {c : Code} {G : Gm} {nL : Nat} {I : Ii} {pm : Pm} {L : List (Nat × Value)} {pc : Nat} {cc : ByteArray} {own : String}
theorem g_iret (F : FX p s m args c cc nL own G (AA G)) {post : Int32 → Ii × Pm → Prop} {v : Int32} {ty : FieldType} (hr : meth.sig.returnType = some ty) (hlocks : meth.locks = false) (hn : narrow ty (.int v) = .int v) (hd : decode cc pc = .ok (.ireturn, 1)) (hq : post v (I, pm)) : GG p l e R s m args below meth c G (AA G) nL 0 0 (MQ below (va_Qi post (fun u t => Wd G u.1 u.2 t.heap) (AA G)) args s 0 0 (AA G)) I pm L pc [.int v] := fun H locs ls h1 h2 h3 =>
  W.zret F.1.1 F.1.2.1 hr hn (fun t ht hW => ⟨⟨v, (I, pm), rfl, hq, (show Wd G I pm t.heap by rw [ht]; exact h1)⟩, h2.F ht⟩) h2.2.2 hd hlocks
theorem g_vret (F : FX p s m args c cc nL own G (AA G)) {post : Ii × Pm → Prop} (hr : meth.sig.returnType = none) (hlocks : meth.locks = false) (hd : decode cc pc = .ok (.return_, 1)) (hq : post (I, pm)) : GG p l e R s m args below meth c G (AA G) nL 0 0 (MQ below (va_Qv post (fun u t => Wd G u.1 u.2 t.heap) (AA G)) args s 0 0 (AA G)) I pm L pc [] := fun H locs ls h1 h2 h3 =>
  W.vret F.1.1 F.1.2.1 hr (fun t ht hW => ⟨⟨(I, pm), rfl, hq, (show Wd G I pm t.heap by rw [ht]; exact h1)⟩, h2.F ht⟩) h2.2.2 hd hlocks
theorem g_aret (F : FX p s m args c cc nL own G (AA G)) {post : Option Nat → Ii × Pm → Prop} {v : Value} {r : Option Nat} {C : String} (hv : v = va_rf r) (hr : meth.sig.returnType = some (.object C)) (hlocks : meth.locks = false) (hd : decode cc pc = .ok (.areturn, 1)) (hq : post r (I, pm)) : GG p l e R s m args below meth c G (AA G) nL 0 0 (MQ below (va_Qq post (fun u t => Wd G u.1 u.2 t.heap) (AA G)) args s 0 0 (AA G)) I pm L pc [v] := fun H locs ls h1 h2 h3 => by
  subst hv
  exact W.aret F.1.1 F.1.2.1 hr (Or.inl ⟨_, rfl⟩) (va_rf_or r) (fun t ht hW => ⟨⟨r, (I, pm), rfl, hq, (show Wd G I pm t.heap by rw [ht]; exact h1)⟩, h2.F ht⟩) h2.2.2 hd hlocks
end RETS
