/-! PART 83: the first world -/
def I0 : Ii := fun _ _ _ => 0
def pm0 : Pm := fun _ r => r
theorem cr_0 : CR I0 pm0 (fun _ => 0) 0 (fun _ _ => 0) (fun _ => 0) (fun _ _ => 0) 0 (fun _ => 0) ∧ Jv 0 (fun _ => 0) := by
  have P0 : ∀ k, Pw pm0 k := fun k => ⟨fun r h => h, fun r r' _ _ h => h⟩
  have V0 : Iv 0 0 (fun _ => 0) := ⟨rfl, by decide, rfl, by decide, fun r h => absurd h (Nat.not_lt_zero _), fun b hb => ⟨(by show (0 : Int) ≤ (0 : Int32).toInt; decide), (by show (0 : Int32).toInt ≤ 99; decide)⟩, by decide, fun j h => absurd h (Nat.not_lt_zero _)⟩
  have R0 : ∀ k, RpS I0 pm0 k (fun _ => 0) := fun k => ⟨0, 0, ⟨⟨rfl, rfl, rfl, (by show (0 : Int32) - 0 = 0; decide), rfl, rfl, rfl, rfl⟩, fun _ _ => rfl, fun r f h => absurd h (Nat.not_lt_zero _), fun j h => absurd h (Nat.not_lt_zero _), fun r h => h, fun r r' _ _ h => h, rfl, by decide, rfl, by decide⟩, V0⟩
  have J0 : Jw 0 0 0 (fun _ => 0) := ⟨V0, ⟨fun r h => absurd h (Nat.not_lt_zero _), fun r r' _ h => absurd h (Nat.not_lt_zero _)⟩, ⟨fun r h => absurd h (Nat.not_lt_zero _), fun r r' _ h => absurd h (Nat.not_lt_zero _)⟩, by unfold Cnt; decide⟩
  exact ⟨⟨R0 0, ⟨0, by decide, rfl, fun i h => absurd h (Nat.not_lt_zero _)⟩, rfl, by decide, fun i hi => ⟨rfl, Or.inl rfl, fun h => absurd h (by show ¬ (0 : Int32) = 1; decide)⟩, rfl, by decide, fun i h => absurd h (Nat.not_lt_zero _), fun k _ => P0 k⟩, J0.v⟩
theorem adB_off (B K i : Nat) : adB B K i = B + adB 0 K i := by
  unfold adB layB
  (repeat' split) <;> omega
def inB (n : Nat) : Nat × Nat :=
  let lay : Nat → Nat → Nat × Nat := fun k r => if r < 7 then (r, k) else (7, 8 * k + (r - 7))
  if n = 0 then (8, 0) else if n < 31 then lay ((n - 1) / 15) ((n - 1) % 15) else if n = 31 then (9, 0) else if n = 32 then (10, 0) else if n < 138 then lay (4 + (n - 33) / 15) ((n - 33) % 15) else if n < 143 then (n - 127, 0) else if n < 173 then lay (2 + (n - 143) / 15) ((n - 143) % 15) else (n - 157, 0)
theorem inB_ok : ∀ K, K < 16 → ∀ i, i < 88 → i < cbK K → inB (adB 0 K i) = (K, i) := by decide +kernel
theorem cbK_88 : ∀ K, K < 16 → cbK K ≤ 88 := by decide +kernel
theorem cbK_lt {K i : Nat} (h : i < cbK K) : K < 16 ∧ i < 88 := by
  by_cases q : K < 16
  · exact ⟨q, Nat.lt_of_lt_of_le h (cbK_88 K q)⟩
  · obtain ⟨n, rfl⟩ : ∃ n, K = n + 16 := ⟨K - 16, by omega⟩
    exact absurd (show i < 0 from h) (Nat.not_lt_zero _)
theorem aj_B {G : Gm} {B : Nat} (h : G.2.2 = adB B) : Aj G := fun K i K' i' h1 h2 e => by
  rw [h, adB_off B K i, adB_off B K' i'] at e
  have e' := Nat.add_left_cancel e
  obtain ⟨a1, a2⟩ := cbK_lt h1
  obtain ⟨b1, b2⟩ := cbK_lt h2
  have q1 := inB_ok K a1 i a2 h1
  have q2 := inB_ok K' b1 i' b2 h2
  rw [e', q2] at q1
  cases q1
  exact ⟨rfl, rfl⟩
theorem adB_ge {G : Gm} {B : Nat} (h : G.2.2 = adB B) (K i : Nat) : B ≤ G.2.2 K i := by
  rw [h, adB_off]
  exact Nat.le_add_right _ _
theorem law_G {args : Array Value} {s : State} (hts : ∀ w ∈ lw_tbl, w.before args s = true) (B : Nat) : ∃ G : Gm, G.2.2 = adB B ∧ va_K G.1 vwCl (tyz G) s := by
  have hw : ∀ w ∈ wsL_law, w.before args s = true := fun w h => hts w (wsL_in w h)
  obtain ⟨c0, i0, k0⟩ := u_known hw inlX0 (hw _ mIS_RX0)
  obtain ⟨c1, i1, k1⟩ := u_known hw inlX1 (hw _ mIS_RX1)
  obtain ⟨c2, i2, k2⟩ := u_known hw inlX2 (hw _ mIS_RX2)
  obtain ⟨c3, i3, k3⟩ := u_known hw inlX3 (hw _ mIS_RX3)
  obtain ⟨c4, i4, k4⟩ := u_known hw inlX4 (hw _ mIS_RX4)
  obtain ⟨c5, i5, k5⟩ := u_known hw inlX5 (hw _ mIS_RX5)
  obtain ⟨a0, kA0, q0, f0, g0, h0⟩ := Cond.arrayClass_spec (hw _ mAC_char)
  obtain ⟨a1, kA1, q1, f1, g1, h1⟩ := Cond.arrayClass_spec (hw _ mAC_int)
  obtain ⟨a2, kA2, q2, f2, g2, h2⟩ := Cond.arrayClass_spec (hw _ mAC_boolean)
  obtain ⟨q3, a3, kA3, f3, -, g3, h3, n3⟩ := Cond.arrayOver_spec (hts (Cond.arrayOver (.object "LocoFrames$Layout")) (List.mem_of_getElem? (i := 141) (by decide +kernel)))
  obtain ⟨q4, a4, kA4, f4, -, g4, h4, n4⟩ := Cond.arrayOver_spec (hts (Cond.arrayOver (.object "LocoFrames$Loco")) (List.mem_of_getElem? (i := 28) (by decide +kernel)))
  refine ⟨((fun c => match c with | 0 => c0 | 1 => c1 | 2 => c2 | 3 => c3 | 4 => c4 | _ => c5, fun c => match c with | 0 => i0 | 1 => i1 | 2 => i2 | 3 => i3 | 4 => i4 | _ => i5), (fun k => match k with | 0 => a0 | 1 => a1 | 2 => a2 | 3 => a3 | _ => a4), adB B), rfl, fun c q hq => ?_, fun k q hq => ?_⟩
  · match c, hq with
    | 0, hq => cases hq; exact k0
    | 1, hq => cases hq; exact k1
    | 2, hq => cases hq; exact k2
    | 3, hq => cases hq; exact k3
    | 4, hq => cases hq; exact k4
    | 5, hq => cases hq; exact k5
    | _ + 6, hq => cases hq
  · match k, hq with
    | 0, hq => cases hq; exact ⟨fun n z => ⟨fun k h => (by cases h), kA0, g0, q0, h0⟩, f0⟩
    | 1, hq => cases hq; exact ⟨fun n z => ⟨fun k h => (by cases h), kA1, g1, q1, h1⟩, f1⟩
    | 2, hq => cases hq; exact ⟨fun n z => ⟨fun k h => (by cases h), kA2, g2, q2, h2⟩, f2⟩
    | 3, hq => cases hq; exact ⟨fun n z => ⟨fun k h => (by cases h), kA3, g3, q3, h3⟩, kA3, q3, g3, h3, f3, n3⟩
    | 4, hq => cases hq; exact ⟨fun n z => ⟨fun k h => (by cases h), kA4, g4, q4, h4⟩, kA4, q4, g4, h4, f4, n4⟩
    | _ + 5, hq => cases hq
theorem law_N {args : Array Value} {s : State} (hts : ∀ w ∈ lw_tbl, w.before args s = true) : NN s ∧ NC s := by
  have nw : ∀ (a : String) (i : Nat) (y : MethodName) (h : String), Cond.methodLinkNest a i y h ∈ lw_tbl → va_Nw (.methodLinkNest a i y h) s := fun a i y h q => va_Nw.of rfl (hts _ q)
  exact ⟨⟨nw _ _ _ _ (List.mem_of_getElem? (i := 205) (by decide +kernel)), nw _ _ _ _ (List.mem_of_getElem? (i := 319) (by decide +kernel)), nw _ _ _ _ (List.mem_of_getElem? (i := 395) (by decide +kernel)), nw _ _ _ _ (List.mem_of_getElem? (i := 307) (by decide +kernel)), trivial⟩,
    ⟨nw _ _ _ _ (List.mem_of_getElem? (i := 31) (by decide +kernel)), nw _ _ _ _ (List.mem_of_getElem? (i := 54) (by decide +kernel)), nw _ _ _ _ (List.mem_of_getElem? (i := 156) (by decide +kernel)), va_AO.of (hts _ (List.mem_of_getElem? (i := 141) (by decide +kernel))), va_AO.of (hts _ (List.mem_of_getElem? (i := 28) (by decide +kernel)))⟩⟩
section NSTART
variable {p : Program} {l : Launch} {e : Env} {R : Room} {s : State} {m : MethodId} {args : Array Value} {below : List Frame} {meth : Method} {c : Code} {G : Gm} {A : Nat → Prop} {nL ce sl : Nat} {Q : State → Prop} {I : Ii} {pm : Pm} {S : Nat → Nat → Prop} {E : Nat → Nat → va_E} {sz : Nat} {Lo : List (Nat × Value)} {pc : Nat} {st rest : List Value} {cc : ByteArray} {own : String}
theorem n_astore_n (F : FN p s m args c cc nL own G A) {k : Fin 4} {i : Nat} {x : Nat} {L' : List (Nat × Value)} (hd : decode cc pc = .ok (.astore_n k, 1)) (hi : (k : Nat) = i) (hn : i < nL) (hl : (i, Value.ref x) :: Lo.filter (fun q => !(q.1 == i) && !(q.1 + 1 == i && q.2.category == 2)) = L') (kk : GN p l e R s m args below meth c G A nL ce sl Q S E sz L' (pc + 1) rest) : GN p l e R s m args below meth c G A nL ce sl Q S E sz Lo pc (.ref x :: rest) := fun H locs ls h1 h2 h3 => lv_astore_n F.1.1 F.1.2.1 hd hi h3 hn hl (fun ls' h' => kk H locs ls' h1 h2 h')
/-- from the partial world to the world -/
theorem n_world (hall : ∀ K i, i < cbK K → S K i ∧ E K i = E0 G K i) (k : GG p l e R s m args below meth c G A nL ce sl Q I0 pm0 Lo pc st) : GN p l e R s m args below meth c G A nL ce sl Q S E sz Lo pc st := fun H locs ls h1 h2 h3 => k H locs ls (fun K i hi => by
  obtain ⟨a, b⟩ := hall K i hi
  have := (h1.2 K i a).2.2
  rw [b] at this
  exact this) h2 h3
end NSTART
