/-! PART 55: the constructor of a layout -/
section MN
variable {p : Program} {l : Launch} {e : Env} {R : Room} {s : State} {m : MethodId} {args : Array Value} {below : List Frame} {meth : Method} {c : Code} {G : Gm} {A : Nat → Prop} {nL ce sl ce' sl' : Nat} {Q : State → Prop} {S S' : Nat → Nat → Prop} {E E' : Nat → Nat → va_E} {sz : Nat} {L : List (Nat × Value)} {pc : Nat} {st : List Value}
theorem n_mono (hs : ∀ K i, S' K i → S K i ∧ E' K i = E K i) (k : GN p l e R s m args below meth c G A nL ce sl Q S' E' sz L pc st) : GN p l e R s m args below meth c G A nL ce sl Q S E sz L pc st := fun H locs ls h1 h2 h3 => k H locs ls (h1.mono hs) h2 h3
end MN
def SL (S : Nat → Nat → Prop) (k j : Nat) : Nat → Nat → Prop := fun K i => S K i ∨ ((1 ≤ K ∧ K ≤ 6) ∧ i = k) ∨ (K = 7 ∧ 8 * k ≤ i ∧ i < 8 * k + j)
def EL (G : Gm) (E : Nat → Nat → va_E) (k j : Nat) : Nat → Nat → va_E := fun K i => if (K = 0 ∨ (2 ≤ K ∧ K ≤ 6)) ∧ i = k then E0 G K i else if K = 1 ∧ i = k then .inl (G.2.1 4, 8, .inr (.inr (.inr (.inr (fun r => if r < j then some (G.2.2 7 (8 * k + r)) else none))))) else if K = 7 ∧ 8 * k ≤ i ∧ i < 8 * k + 8 then E0 G K i else E K i
theorem WQ.monoV {G : Gm} {S S' : Nat → Nat → Prop} {E E' : Nat → Nat → va_E} {sz : Nat} {H : Heap} (h : WQ G S E sz H) (hs : ∀ K i, S' K i → S K i ∧ (va_at G.1 vwCl (G.2.2 K i, E K i) H → va_at G.1 vwCl (G.2.2 K i, E' K i) H)) : WQ G S' E' sz H := ⟨h.1, fun K i q => by
  obtain ⟨a, b⟩ := hs K i q
  obtain ⟨h1, h2, h3⟩ := h.2 K i a
  exact ⟨h1, h2, b h3⟩⟩
theorem va_row {D : va_G} {cl : List vw_C} {q : Nat} {cA : ClassId} {n : Nat} {f g : Nat → Option Nat} {H : Heap} (h : ∀ r, r < n → f r = g r) (hv : va_at D cl (q, .inl (cA, n, .inr (.inr (.inr (.inr f))))) H) : va_at D cl (q, .inl (cA, n, .inr (.inr (.inr (.inr g))))) H := by
  have e : arrV cA n (fun j => va_rf (f j)) = arrV cA n (fun j => va_rf (g j)) := by
    unfold arrV
    congr 1
    apply Array.ext
    · simp
    · intro i h1 h2
      simp at h1 ⊢
      rw [h i (by omega)]
  show H[q]? = some (arrV cA n (fun j => va_rf (g j)))
  rw [← e]
  exact hv
section MNV
variable {p : Program} {l : Launch} {e : Env} {R : Room} {s : State} {m : MethodId} {args : Array Value} {below : List Frame} {meth : Method} {c : Code} {G : Gm} {A : Nat → Prop} {nL ce sl : Nat} {S S' : Nat → Nat → Prop} {E E' : Nat → Nat → va_E} {sz dc ds : Nat} {L : List (Nat × Value)} {pc : Nat} {cc : ByteArray} {own : String}
theorem n_endV (F : FN p s m args c cc nL own G A) (hr : meth.sig.returnType = none) (hlocks : meth.locks = false) (hce : ce ≤ dc) (hsl : sl ≤ ds) (hd : decode cc pc = .ok (.return_, 1)) (hs : ∀ H K i, S' K i → S K i ∧ (va_at G.1 vwCl (G.2.2 K i, E K i) H → va_at G.1 vwCl (G.2.2 K i, E' K i) H)) : GN p l e R s m args below meth c G A nL ce sl (MQ below (va_Qv (fun _ : Unit => True) (fun _ t => WQ G S' E' sz t.heap) A) args s dc ds A) S E sz L pc [] := fun H locs ls h1 h2 h3 => n_ret F hr hlocks hce hsl hd H locs ls (h1.monoV (hs H)) h2 h3
end MNV
def EF (G : Gm) (E : Nat → Nat → va_E) (k : Nat) : Nat → Nat → va_E := fun K i => if (K ≤ 6 ∧ i = k) ∨ (K = 7 ∧ 8 * k ≤ i ∧ i < 8 * k + 8) then E0 G K i else E K i
theorem el_ef {G : Gm} {E : Nat → Nat → va_E} {k K i : Nat} {H : Heap} (h : va_at G.1 vwCl (G.2.2 K i, EL G E k 8 K i) H) : va_at G.1 vwCl (G.2.2 K i, EF G E k K i) H := by
  by_cases q1 : K = 1 ∧ i = k
  · obtain ⟨rfl, rfl⟩ := q1
    have e1 : EL G E i 8 1 i = .inl (G.2.1 4, 8, .inr (.inr (.inr (.inr (fun r => if r < 8 then some (G.2.2 7 (8 * i + r)) else none))))) := by simp [EL]
    have e2 : EF G E i 1 i = .inl (G.2.1 4, 8, .inr (.inr (.inr (.inr (fun r => some (G.2.2 7 (8 * i + r))))))) := by simp [EF, E0, cvv]
    rw [e1] at h
    rw [e2]
    exact va_row (fun r hr => if_pos hr) h
  · have e : EL G E k 8 K i = EF G E k K i := by
      unfold EL EF
      by_cases c0 : (K = 0 ∨ (2 ≤ K ∧ K ≤ 6)) ∧ i = k
      · rw [if_pos c0, if_pos (by omega)]
      · rw [if_neg c0, if_neg q1]
        by_cases c7 : K = 7 ∧ 8 * k ≤ i ∧ i < 8 * k + 8
        · rw [if_pos c7, if_pos (Or.inr c7)]
        · rw [if_neg c7, if_neg (by omega)]
    rw [← e]
    exact h
set_option maxHeartbeats 4000000 in
theorem k_X1 {l : Launch} {G : Gm} (hj : Aj G) {S : Nat → Nat → Prop} {E : Nat → Nat → va_E} {sz k : Nat} (hk : k < 11) (h0 : S 0 k) (h7 : ∀ j, j < 8 → ¬ S 7 (8 * k + j)) (e0 : E 0 k = .inr (1, [.null, .null, .null, .int 0, .int 0, .int 0, .int 0, .int 0, .int 0, .int 0])) (a1 : G.2.2 1 k = sz) (a2 : G.2.2 2 k = sz + 1) (a3 : G.2.2 3 k = sz + 2) (a4 : G.2.2 4 k = sz + 3) (a5 : G.2.2 5 k = sz + 4) (a6 : G.2.2 6 k = sz + 5) (a7 : ∀ j, j < 8 → G.2.2 7 (8 * k + j) = sz + 6 + j) : CN l G yX1_init (wz yX1_init cX1_init 2 none) (rmC 2 14 168) (G.2.2 0 k) S E sz (SL S k 8) (EF G E k) (sz + 14) 14 168 := by
  refine CN.walk hj (by decide +kernel) rfl (Nat.le_of_ble_eq_true rfl) ?_
  intro p e s m args below meth c F hr hlk hin hml
  have LOOP : ∀ j, j ≤ 8 → ∀ xj, xj = nI j → GN p l e (rmC 2 14 168) s m args below meth c G (AQ (G.2.2 0 k) sz) 2 (6 + j) (80 + 11 * j) (MQ below (va_Qv (fun _ : Unit => True) (fun _ t => WQ G (SL S k 8) (EF G E k) (sz + 14) t.heap) (AQ (G.2.2 0 k) sz)) args s 14 168 (AQ (G.2.2 0 k) sz)) (SL S k j) (EL G E k j) (sz + 6 + j) [(0, .ref (G.2.2 0 k)), (1, .int xj)] 34 [] := by
    refine dn_ind ?_
    intro j hj8 ih xj ej
    refine n_iload_n F 1 dX1_init_34 rfl rfl ?_
    refine n_bipush (v := 8) F dX1_init_35 (by decide) ?_
    refine n_icmp_ge F 59 dX1_init_37 (by decide) (fun c1 => ?_) (fun c1 => ?_)
    · have n1 := nx_get (a := j) (b := 8) ej rfl (by omega) (by omega) c1
      have e8 : j = 8 := by omega
      subst e8
      exact n_endV F hr hlk (Nat.le_of_ble_eq_true rfl) (Nat.le_of_ble_eq_true rfl) dX1_init_59 (fun H K i h => ⟨h, el_ef⟩)
    · have n1 := nx_gef (a := j) (b := 8) ej rfl (by omega) (by omega) c1
      refine n_aload_n F 0 dX1_init_40 rfl rfl ?_
      refine n_get (ci := 1) (fs := [.ref (G.2.2 1 k), .ref (G.2.2 2 k), .ref (G.2.2 6 k), .int 0, .int 0, .int 0, .int 0, .int 0, .int 0, .int 0]) F inlX1 rfl (Or.inl h0) (by simp [EL, E0, cvv]) 0 (by decide) mFL_X1_11 rfl dX1_init_41 ?_
      refine n_iload_n F 1 dX1_init_44 rfl rfl ?_
      refine n_new (K := 7) (i := 8 * k + j) F inlX2 tyX2 tyX2_ok mCL_X1_9 mIS_RX2 mIN_RX2 (ci := 2) (fs := [.int 0, .int 0, .int 0, .int 0, .int 0, .int 0, .int 0, .int 0, .int 0, .int 0, .int 0]) rfl (by decide) (by show _ ≤ 14; omega) (by show _ ≤ 168; omega) (by show _ < 88; omega) (a7 j (by omega)) dX1_init_45 ?_
      refine n_dup F dX1_init_48 rfl ?_
      refine n_callN F (k_X2 hj) (gw mCO_yX2_init) F.2.2.1.2.1 mIM_yX2_init mIN_RX2 rfl (Or.inr (by rw [a7 j (by omega)]; omega)) (fun q h => Or.inr (by omega)) (by decide +kernel) ⟨rfl, rfl, Nat.le_of_ble_eq_true rfl, Nat.le_of_ble_eq_true rfl, (by show _ ≤ 14; omega), (by show _ ≤ 168; omega), Nat.le_of_ble_eq_true rfl⟩ dX1_init_49 ?_
      refine n_ast (K := 1) (i := k) (t0 := 4) (n := 8) (ci := 2) (f := fun r => if r < j then some (G.2.2 7 (8 * k + r)) else none) F (Or.inl (Or.inr (Or.inl ⟨⟨by decide, by decide⟩, rfl⟩))) (by simp [upE, EL]) rfl (Or.inr ⟨rfl, rfl⟩) (by simp [upE] <;> rfl) rfl (vp_in_e ej n1 (by decide)) (Or.inr (by rw [a1]; exact Nat.le_refl _)) dX1_init_52 ?_
      refine n_iinc (v := xj + 1) (L' := [(1, .int (xj + 1)), (0, .ref (G.2.2 0 k))]) F 1 dX1_init_53 rfl rfl (by decide) rfl ?_
      refine n_goto F 34 dX1_init_56 (by decide) ?_
      refine n_sub [1, 0] rfl ?_
      refine n_mono (S' := SL S k (j + 1)) (E' := EL G E k (j + 1)) (fun K i h => ⟨?_, ?_⟩) (ih n1 _ (nx_add ej rfl))
      · rcases h with h | h | ⟨rfl, h1, h2⟩
        · exact Or.inl (Or.inl h)
        · exact Or.inl (Or.inr (Or.inl h))
        · by_cases q : i = 8 * k + j
          · exact Or.inr ⟨rfl, q⟩
          · exact Or.inl (Or.inr (Or.inr ⟨rfl, h1, by omega⟩))
      · rw [cl_e ej n1 (by decide)]
        have key : (fun r => if r < j + 1 then some (G.2.2 7 (8 * k + r)) else none) = va_up (fun r => if r < j then some (G.2.2 7 (8 * k + r)) else none) j (some (G.2.2 7 (8 * k + j))) := by
          funext r
          unfold va_up
          by_cases q : r = j
          · rw [if_pos (by omega), if_pos q, q]
          · rw [if_neg q]
            dsimp only
            by_cases z : r < j
            · rw [if_pos (by omega), if_pos z]
            · rw [if_neg (by omega), if_neg z]
        by_cases q1 : K = 1 ∧ i = k
        · obtain ⟨rfl, rfl⟩ := q1
          unfold EL upE
          rw [if_neg (by omega), if_pos ⟨rfl, rfl⟩, key, if_pos ⟨rfl, rfl⟩]
        · by_cases q7 : K = 7 ∧ i = 8 * k + j
          · obtain ⟨rfl, rfl⟩ := q7
            unfold EL upE
            rw [if_neg (by omega), if_neg (by omega), if_pos (by omega), if_neg (by omega), if_pos ⟨rfl, rfl⟩]
            rfl
          · unfold EL upE
            dsimp only
            rw [if_neg q1, if_neg q1, if_neg q7, if_neg q1]
  refine n_aload_n F 0 dX1_init_0 rfl rfl ?_
  refine n_objInit F mML_X1_3 mIM_objectInit mCO_objectInit hml (Nat.le_of_ble_eq_true rfl) (Nat.le_of_ble_eq_true rfl) dX1_init_1 ?_
  refine n_aload_n F 0 dX1_init_4 rfl rfl ?_
  refine n_bipush (v := 8) F dX1_init_5 (by decide) ?_
  refine n_newq (K := 1) (i := k) F mCL_X1_9 F.2.2.1.2.2.2.2 4 rfl (by decide) rfl (Nat.le_of_ble_eq_true rfl) (Nat.le_of_ble_eq_true rfl) (Nat.le_of_ble_eq_true rfl) hk a1 dX1_init_7 ?_
  refine n_put (ci := 1) (ty := .array (.object "LocoFrames$Loco")) (fs := [.null, .null, .null, .int 0, .int 0, .int 0, .int 0, .int 0, .int 0, .int 0]) F inlX1 tyX1 tyX1_ok nmX1 rfl (Or.inl h0) (by simp [upE, e0]) 0 (by decide) mFL_X1_11 (Or.inr ⟨rfl, hin, rfl⟩) (by decide +kernel) rfl rfl (Nat.le_of_ble_eq_true rfl) (Or.inl rfl) dX1_init_10 ?_
  refine n_aload_n F 0 dX1_init_13 rfl rfl ?_
  refine n_new (K := 2) (i := k) F inlX4 tyX4 tyX4_ok mCL_X1_17 mIS_RX4 mIN_RX4 (ci := 4) (fs := [.null, .null, .null, .int 0]) rfl (fun j hj => by rcases (show j = 0 ∨ j = 1 ∨ j = 2 ∨ j = 3 by omega) with rfl | rfl | rfl | rfl <;> rfl) (Nat.le_of_ble_eq_true rfl) (Nat.le_of_ble_eq_true rfl) hk a2 dX1_init_14 ?_
  refine n_dup F dX1_init_17 rfl ?_
  refine n_callN F (k_X4 hj hk (Or.inr ⟨rfl, rfl⟩) (by simp [upE]) a3 a4 a5) (gw mCO_yX4_init) F.2.2.1.1 mIM_yX4_init mIN_RX4 rfl (Or.inr (by rw [a2]; omega)) (fun q h => Or.inr (by omega)) (by decide +kernel) ⟨rfl, rfl, Nat.le_of_ble_eq_true rfl, Nat.le_of_ble_eq_true rfl, Nat.le_of_ble_eq_true rfl, Nat.le_of_ble_eq_true rfl, Nat.le_of_ble_eq_true rfl⟩ dX1_init_18 ?_
  refine n_put (ci := 1) (ty := .object "LocoFrames$Station") (fs := [.ref (G.2.2 1 k), .null, .null, .int 0, .int 0, .int 0, .int 0, .int 0, .int 0, .int 0]) F inlX1 tyX1 tyX1_ok nmX1 rfl (Or.inl (Or.inl (Or.inl h0))) (by simp [upE]) 1 (by decide) mFL_X1_20 (Or.inr ⟨rfl, hin, rfl⟩) (by decide +kernel) rfl rfl (Nat.le_of_ble_eq_true rfl) (Or.inl rfl) dX1_init_21 ?_
  refine n_aload_n F 0 dX1_init_24 rfl rfl ?_
  refine n_bipush (v := 8) F dX1_init_25 (by decide) ?_
  refine n_newa (ty := .int) F rfl mAC_int 1 rfl (fun h => h) rfl (K := 6) (i := k) (by decide) rfl (Nat.le_of_ble_eq_true rfl) (Nat.le_of_ble_eq_true rfl) (Nat.le_of_ble_eq_true rfl) hk a6 dX1_init_27 ?_
  refine n_put (ci := 1) (ty := .array .int) (fs := [.ref (G.2.2 1 k), .ref (G.2.2 2 k), .null, .int 0, .int 0, .int 0, .int 0, .int 0, .int 0, .int 0]) F inlX1 tyX1 tyX1_ok nmX1 rfl (Or.inl (Or.inl (Or.inl (Or.inl h0)))) (by simp [upE]) 2 (by decide) mFL_X1_24 (Or.inr ⟨rfl, hin, rfl⟩) (by decide +kernel) rfl rfl (Nat.le_of_ble_eq_true rfl) (Or.inl rfl) dX1_init_29 ?_
  refine n_iconst (v := 0) F dX1_init_32 (by decide) ?_
  refine n_istore_n (L' := [(1, .int 0), (0, .ref (G.2.2 0 k))]) F dX1_init_33 rfl (by decide) rfl ?_
  refine n_sub [1, 0] rfl ?_
  refine n_mono (S' := SL S k 0) (E' := EL G E k 0) (fun K i h => ⟨?_, ?_⟩) (LOOP 0 (Nat.zero_le _) _ rfl)
  · rcases h with h | ⟨h, rfl⟩ | ⟨-, h1, h2⟩
    · exact Or.inl (Or.inl (Or.inl (Or.inl h)))
    · rcases (show K = 1 ∨ K = 2 ∨ (3 ≤ K ∧ K ≤ 5) ∨ K = 6 by omega) with rfl | rfl | h | rfl
      · exact Or.inl (Or.inl (Or.inl (Or.inr ⟨rfl, rfl⟩)))
      · exact Or.inl (Or.inl (Or.inr ⟨rfl, rfl⟩))
      · exact Or.inl (Or.inr ⟨h, rfl⟩)
      · exact Or.inr ⟨rfl, rfl⟩
    · omega
  · by_cases q : K ≤ 6 ∧ i = k
    · obtain ⟨q1, rfl⟩ := q
      rcases (show K = 0 ∨ K = 1 ∨ K = 2 ∨ K = 3 ∨ K = 4 ∨ K = 5 ∨ K = 6 by omega) with rfl | rfl | rfl | rfl | rfl | rfl | rfl <;> simp [upE, EL, E0, cvv]
    · rcases h with h | ⟨h, rfl⟩ | ⟨-, h1, h2⟩
      · have q7 : ¬ (K = 7 ∧ 8 * k ≤ i ∧ i < 8 * k + 8) := fun z => by
          obtain ⟨rfl, z1, z2⟩ := z
          have := h7 (i - 8 * k) (by omega)
          rw [show 8 * k + (i - 8 * k) = i by omega] at this
          exact this h
        unfold EL upE
        dsimp only
        rw [if_neg (by omega), if_neg (by omega), if_neg q7]
        simp only [show ¬ (K = 0 ∧ i = k) from fun z => q ⟨by omega, z.2⟩, show ¬ (K = 1 ∧ i = k) from fun z => q ⟨by omega, z.2⟩, show ¬ (K = 2 ∧ i = k) from fun z => q ⟨by omega, z.2⟩, show ¬ (K = 6 ∧ i = k) from fun z => q ⟨by omega, z.2⟩, show ¬ ((2 ≤ K ∧ K ≤ 5) ∧ i = k) from fun z => q ⟨by omega, z.2⟩, if_false]
      · omega
      · omega
