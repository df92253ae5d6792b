/-! PART 71: what holds of every state: addresses rise, urgencies fall, counts keep their order -/
def Srt (n : Nat) (σ : Sg) : Prop := (∀ r, r < n → 1 ≤ (σ (16 + 11 * r)).toInt) ∧ ∀ r r', r < r' → r' < n → (σ (16 + 11 * r)).toInt < (σ (16 + 11 * r')).toInt
def Urg (h : Nat) (σ : Sg) : Prop := (∀ j, j < h → (σ (106 + 3 * j)).toInt ≤ 3) ∧ ∀ j j', j < j' → j' < h → (σ (106 + 3 * j')).toInt ≤ (σ (106 + 3 * j)).toInt
def Cnt (k : Nat) (σ : Sg) : Prop := 0 ≤ (σ 5).toInt ∧ (σ 5).toInt ≤ (σ 4).toInt ∧ (σ 4).toInt ≤ (σ 3).toInt ∧ (σ 3).toInt ≤ k ∧ 0 ≤ (σ 0).toInt ∧ (σ 0).toInt ≤ k
def Jw (n h k : Nat) (σ : Sg) : Prop := Iv n h σ ∧ Srt n σ ∧ Urg h σ ∧ Cnt k σ
theorem Srt.cong {n : Nat} {σ σ' : Sg} (S : Srt n σ) (e : ∀ r, r < n → σ' (16 + 11 * r) = σ (16 + 11 * r)) : Srt n σ' := ⟨fun r hr => by rw [e r hr]; exact S.1 r hr, fun r r' h h' => by rw [e r (by omega), e r' h']; exact S.2 r r' h h'⟩
theorem Urg.cong {h : Nat} {σ σ' : Sg} (U : Urg h σ) (e : ∀ j, j < h → σ' (106 + 3 * j) = σ (106 + 3 * j)) : Urg h σ' := ⟨fun j hj => by rw [e j hj]; exact U.1 j hj, fun j j' h h' => by rw [e j (by omega), e j' h']; exact U.2 j j' h h'⟩
theorem Cnt.cong {k : Nat} {σ σ' : Sg} (C : Cnt k σ) (e : ∀ i, i < 6 → i ≠ 1 → i ≠ 2 → σ' i = σ i) : Cnt k σ' := by
  unfold Cnt
  rw [e 5 (by decide) (by decide) (by decide), e 4 (by decide) (by decide) (by decide), e 3 (by decide) (by decide) (by decide), e 0 (by decide) (by decide) (by decide)]
  exact C
theorem Cnt.up {k k' : Nat} {σ : Sg} (C : Cnt k σ) (h : k ≤ k') : Cnt k' σ := by
  obtain ⟨c1, c2, c3, c4, c5, c6⟩ := C
  exact ⟨c1, c2, c3, by omega, c5, by omega⟩
theorem Jw.up {n h k k' : Nat} {σ : Sg} (J : Jw n h k σ) (hk : k ≤ k') : Jw n h k' σ := ⟨J.1, J.2.1, J.2.2.1, J.2.2.2.up hk⟩
theorem rk_S (σ : Sg) (a : Int32) (j : Nat) : rkS σ a (j + 1) = if rkS σ a j < j then rkS σ a j else if σ (16 + 11 * j) = a then j else j + 1 := rfl
theorem lpos_S (σ : Sg) (a : Int32) (j : Nat) : lposS σ a (j + 1) = if a < σ (16 + 11 * j) then lposS σ a j else j + 1 := rfl
theorem ipos_S (σ : Sg) (u : Int32) (j : Nat) : iposS σ u (j + 1) = if σ (104 + 3 * j + 2) < u then iposS σ u j else j + 1 := rfl
theorem rk_ne {σ : Sg} {a : Int32} : ∀ n, ¬ rkS σ a n < n → ∀ r, r < n → ¬ σ (16 + 11 * r) = a := by
  intro n
  induction n with
  | zero => exact fun _ r h => absurd h (Nat.not_lt_zero _)
  | succ n ih =>
    intro h r hr
    rw [rk_S] at h
    by_cases c1 : rkS σ a n < n
    · rw [if_pos c1] at h
      omega
    · rw [if_neg c1] at h
      by_cases c2 : σ (16 + 11 * n) = a
      · rw [if_pos c2] at h
        omega
      · by_cases e : r = n
        · rw [e]; exact c2
        · exact ih c1 r (by omega)
theorem Srt.rk {n k : Nat} {σ : Sg} (S : Srt n σ) (hk : k < n) : rkS σ (σ (16 + 11 * k)) n = k := rk_some (fun r hr e => by
  have := S.2 r k hr hk
  rw [e] at this
  omega) rfl n hk
theorem lpos_hi (σ : Sg) (a : Int32) : ∀ n r, lposS σ a n ≤ r → r < n → a < σ (16 + 11 * r) := by
  intro n
  induction n with
  | zero => exact fun r _ h => absurd h (Nat.not_lt_zero _)
  | succ n ih =>
    intro r h1 h2
    rw [lpos_S] at h1
    by_cases q : a < σ (16 + 11 * n)
    · rw [if_pos q] at h1
      by_cases e : r = n
      · rw [e]; exact q
      · exact ih r h1 (by omega)
    · rw [if_neg q] at h1
      omega
theorem lpos_lo (σ : Sg) (a : Int32) : ∀ n p, lposS σ a n = p + 1 → ¬ a < σ (16 + 11 * p) := by
  intro n
  induction n with
  | zero => exact fun p h => Nat.noConfusion (h : 0 = p + 1)
  | succ n ih =>
    intro p h
    rw [lpos_S] at h
    by_cases q : a < σ (16 + 11 * n)
    · rw [if_pos q] at h
      exact ih p h
    · rw [if_neg q] at h
      obtain rfl : n = p := by omega
      exact q
theorem ipos_hi (σ : Sg) (u : Int32) : ∀ n r, iposS σ u n ≤ r → r < n → σ (104 + 3 * r + 2) < u := by
  intro n
  induction n with
  | zero => exact fun r _ h => absurd h (Nat.not_lt_zero _)
  | succ n ih =>
    intro r h1 h2
    rw [ipos_S] at h1
    by_cases q : σ (104 + 3 * n + 2) < u
    · rw [if_pos q] at h1
      by_cases e : r = n
      · rw [e]; exact q
      · exact ih r h1 (by omega)
    · rw [if_neg q] at h1
      omega
theorem ipos_lo (σ : Sg) (u : Int32) : ∀ n p, iposS σ u n = p + 1 → ¬ σ (104 + 3 * p + 2) < u := by
  intro n
  induction n with
  | zero => exact fun p h => Nat.noConfusion (h : 0 = p + 1)
  | succ n ih =>
    intro p h
    rw [ipos_S] at h
    by_cases q : σ (104 + 3 * n + 2) < u
    · rw [if_pos q] at h
      exact ih p h
    · rw [if_neg q] at h
      obtain rfl : n = p := by omega
      exact q
theorem add_at {n : Nat} {a b c d : Int32} {σ : Sg} {r f : Nat} (hr : r < n + 1) (hf : f < 11) : addS n a b c d σ (16 + 11 * r + f) = if r < lposS σ a n then σ (16 + 11 * r + f) else if r = lposS σ a n then newF a b c d f else σ (16 + 11 * (r - 1) + f) := by
  have hp := lposS_le σ a n
  unfold addS
  rw [if_neg (by omega), if_pos (by omega), show (16 + 11 * r + f - 16) / 11 = r by omega, show (16 + 11 * r + f - 16) % 11 = f by omega]
  by_cases c1 : r < lposS σ a n
  · rw [if_pos c1, if_pos c1]
  · rw [if_neg c1, if_neg c1]
    by_cases c2 : r = lposS σ a n
    · rw [if_pos c2, if_pos c2]
    · rw [if_neg c2, if_neg c2]
      congr 1
      omega
theorem add_out {n i : Nat} {a b c d : Int32} {σ : Sg} (hn : n < 8) (h : i < 16 ∨ 104 ≤ i) (h6 : i ≠ 6) : addS n a b c d σ i = σ i := by
  unfold addS
  rw [if_neg h6, if_neg (by omega)]
theorem lif_at {n p r f : Nat} {σ : Sg} (hp : p < n) (hr : r < n - 1) (hf : f < 11) : lifS n p σ (16 + 11 * r + f) = if r < p then σ (16 + 11 * r + f) else σ (16 + 11 * (r + 1) + f) := by
  unfold lifS
  by_cases c1 : r < p
  · rw [if_pos c1, if_neg (by omega), if_neg (by omega), if_neg (by omega)]
  · rw [if_neg c1, if_neg (by omega), if_pos (by omega)]
    congr 1
    omega
theorem lif_out {n p i : Nat} {σ : Sg} (hn : n ≤ 8) (h : i < 16 ∨ 104 ≤ i) (h6 : i ≠ 6) (hp : p < n) : lifS n p σ i = σ i := by
  unfold lifS
  rw [if_neg h6, if_neg (by omega), if_neg (by omega)]
theorem Srt.add {n : Nat} {a b c d : Int32} {σ : Sg} (S : Srt n σ) (ha : 1 ≤ a.toInt) (hne : ∀ r, r < n → ¬ σ (16 + 11 * r) = a) : Srt (n + 1) (addS n a b c d σ) := by
  have at0 : ∀ r, r < n + 1 → addS n a b c d σ (16 + 11 * r) = if r < lposS σ a n then σ (16 + 11 * r) else if r = lposS σ a n then a else σ (16 + 11 * (r - 1)) := fun r hr => add_at (f := 0) hr (by decide)
  have hp := lposS_le σ a n
  have lo : ∀ r, r < lposS σ a n → (σ (16 + 11 * r)).toInt < a.toInt := by
    intro r hr
    obtain ⟨p, ep⟩ : ∃ p, lposS σ a n = p + 1 := ⟨lposS σ a n - 1, by omega⟩
    have h1 := i_le.mp (Int32.not_lt.mp (lpos_lo σ a n p ep))
    have h2 : (σ (16 + 11 * r)).toInt ≤ (σ (16 + 11 * p)).toInt := by
      by_cases e : r = p
      · rw [e]; exact Int.le_refl _
      · have := S.2 r p (by omega) (by omega)
        omega
    have h3 : ¬ (σ (16 + 11 * r)).toInt = a.toInt := fun e => hne r (by omega) (i_eq.mpr e)
    omega
  have hi : ∀ r, lposS σ a n ≤ r → r < n → a.toInt < (σ (16 + 11 * r)).toInt := fun r h1 h2 => i_lt.mp (lpos_hi σ a n r h1 h2)
  refine ⟨fun r hr => ?_, fun r r' h h' => ?_⟩
  · rw [at0 r hr]
    by_cases c1 : r < lposS σ a n
    · rw [if_pos c1]; exact S.1 r (by omega)
    · rw [if_neg c1]
      by_cases c2 : r = lposS σ a n
      · rw [if_pos c2]; exact ha
      · rw [if_neg c2]; exact S.1 (r - 1) (by omega)
  · rw [at0 r (by omega), at0 r' h']
    by_cases c1 : r < lposS σ a n
    · rw [if_pos c1]
      by_cases c2 : r' < lposS σ a n
      · rw [if_pos c2]; exact S.2 r r' h (by omega)
      · rw [if_neg c2]
        by_cases c3 : r' = lposS σ a n
        · rw [if_pos c3]; exact lo r c1
        · rw [if_neg c3]; exact S.2 r (r' - 1) (by omega) (by omega)
    · rw [if_neg c1, if_neg (show ¬ r' < lposS σ a n by omega), if_neg (show ¬ r' = lposS σ a n by omega)]
      by_cases c2 : r = lposS σ a n
      · rw [if_pos c2]; exact hi (r' - 1) (by omega) (by omega)
      · rw [if_neg c2]; exact S.2 (r - 1) (r' - 1) (by omega) (by omega)
theorem Srt.lift {n p : Nat} {σ : Sg} (S : Srt n σ) (hp : p < n) : Srt (n - 1) (lifS n p σ) := by
  have at0 : ∀ r, r < n - 1 → lifS n p σ (16 + 11 * r) = if r < p then σ (16 + 11 * r) else σ (16 + 11 * (r + 1)) := fun r hr => lif_at (f := 0) hp hr (by decide)
  refine ⟨fun r hr => ?_, fun r r' h h' => ?_⟩
  · rw [at0 r hr]
    split
    · exact S.1 r (by omega)
    · exact S.1 (r + 1) (by omega)
  · rw [at0 r (by omega), at0 r' h']
    by_cases c1 : r < p
    · rw [if_pos c1]
      by_cases c2 : r' < p
      · rw [if_pos c2]; exact S.2 r r' h (by omega)
      · rw [if_neg c2]; exact S.2 r (r' + 1) (by omega) (by omega)
    · rw [if_neg c1, if_neg (show ¬ r' < p by omega)]
      exact S.2 (r + 1) (r' + 1) (by omega) (by omega)
theorem Urg.ord {h : Nat} {a d t : Int32} {σ : Sg} (U : Urg h σ) (ht : t.toInt ≤ 3) : Urg (h + 1) (ordS h a d t σ) := by
  have at2 : ∀ j, j < h + 1 → ordS h a d t σ (106 + 3 * j) = if j < iposS σ t h then σ (106 + 3 * j) else if j = iposS σ t h then t else σ (106 + 3 * (j - 1)) := by
    intro j hj
    have o2 := ord_at (a := a) (d := d) (t := t) (σ := σ) hj (show 2 < 3 by decide)
    rw [show 106 + 3 * j = 104 + 3 * j + 2 by omega, o2]
    by_cases c1 : j < iposS σ t h
    · rw [if_pos c1, if_pos c1]
    · rw [if_neg c1, if_neg c1]
      by_cases c2 : j = iposS σ t h
      · rw [if_pos c2, if_pos c2, if_neg (by decide), if_neg (by decide)]
      · rw [if_neg c2, if_neg c2]
        congr 1
        omega
  have hp := iposS_le σ t h
  have lo : ∀ r, r < iposS σ t h → t.toInt ≤ (σ (106 + 3 * r)).toInt := by
    intro r hr
    obtain ⟨p, ep⟩ : ∃ p, iposS σ t h = p + 1 := ⟨iposS σ t h - 1, by omega⟩
    have h1 := i_le.mp (Int32.not_lt.mp (ipos_lo σ t h p ep))
    rw [show 104 + 3 * p + 2 = 106 + 3 * p by omega] at h1
    by_cases e : r = p
    · rw [e]; exact h1
    · have := U.2 r p (by omega) (by omega)
      omega
  have hi : ∀ r, iposS σ t h ≤ r → r < h → (σ (106 + 3 * r)).toInt < t.toInt := fun r h1 h2 => by
    have := i_lt.mp (ipos_hi σ t h r h1 h2)
    rw [show 104 + 3 * r + 2 = 106 + 3 * r by omega] at this
    exact this
  refine ⟨fun r hr => ?_, fun r r' h h' => ?_⟩
  · rw [at2 r hr]
    by_cases c1 : r < iposS σ t h
    · rw [if_pos c1]; exact U.1 r (by omega)
    · rw [if_neg c1]
      by_cases c2 : r = iposS σ t h
      · rw [if_pos c2]; exact ht
      · rw [if_neg c2]; exact U.1 (r - 1) (by omega)
  · rename_i hh
    rw [at2 r (by omega), at2 r' h']
    by_cases c1 : r < iposS σ t hh
    · rw [if_pos c1]
      by_cases c2 : r' < iposS σ t hh
      · rw [if_pos c2]; exact U.2 r r' h (by omega)
      · rw [if_neg c2]
        by_cases c3 : r' = iposS σ t hh
        · rw [if_pos c3]; exact lo r c1
        · rw [if_neg c3]; exact U.2 r (r' - 1) (by omega) (by omega)
    · rw [if_neg c1, if_neg (show ¬ r' < iposS σ t hh by omega), if_neg (show ¬ r' = iposS σ t hh by omega)]
      by_cases c2 : r = iposS σ t hh
      · rw [if_pos c2]; exact Int.le_of_lt (hi (r' - 1) (by omega) (by omega))
      · rw [if_neg c2]; exact U.2 (r - 1) (r' - 1) (by omega) (by omega)
/-- places that hearing leaves as they are -/
theorem hear_keep {σ : Sg} {r i : Nat} {d : Int32} (h : ¬ (21 + 11 * r ≤ i ∧ i ≤ 25 + 11 * r)) : hearS r d σ i = σ i := by
  unfold hearS
  have n9 : i ≠ 16 + 11 * r + 9 := by omega
  have n6 : i ≠ 16 + 11 * r + 6 := by omega
  have n7 : i ≠ 16 + 11 * r + 7 := by omega
  have n5 : i ≠ 16 + 11 * r + 5 := by omega
  have n8 : i ≠ 16 + 11 * r + 8 := by omega
  split
  · rw [upd_n n5, upd_n n6, upd_n n9]
  · split
    · rw [upd_n n8, upd_n n9]
    · split
      · rw [upd_n n7, upd_n n6, upd_n n9]
      · rw [upd_n n9]
theorem cml_keep {a d : Int32} {i : Nat} {q : Sg × Int32} : ∀ j, (∀ r, r < j → ¬ (21 + 11 * r ≤ i ∧ i ≤ 25 + 11 * r)) → (cmL a d j q).1 i = q.1 i := by
  intro j
  induction j with
  | zero => exact fun _ => rfl
  | succ j ih =>
    intro h
    show (cmStep a d j (cmL a d j q)).1 i = q.1 i
    unfold cmStep
    split
    · show hearS j d (cmL a d j q).1 i = q.1 i
      rw [hear_keep (h j (by omega)), ih (fun r hr => h r (by omega))]
    · exact ih (fun r hr => h r (by omega))
theorem com_keep {n i : Nat} {a d c : Int32} {σ : Sg} (h3 : i ≠ 3) (h4 : i ≠ 4) (h : ∀ r, r < n → ¬ (21 + 11 * r ≤ i ∧ i ≤ 25 + 11 * r)) : (comS n a d c σ).1 i = σ i := by
  unfold comS
  split
  · rw [cml_keep n h]
    exact upd_n h3
  · show upd (upd σ 3 (σ 3 + 1)) 4 (σ 4 + 1) i = σ i
    rw [upd_n h4, upd_n h3]
theorem com_3 {n : Nat} {a d c : Int32} {σ : Sg} : (comS n a d c σ).1 3 = σ 3 + 1 := by
  unfold comS
  split
  · rw [cml_keep n (fun r _ => by omega)]
    show upd σ 3 (σ 3 + 1) 3 = _
    exact upd_s
  · show upd (upd σ 3 (σ 3 + 1)) 4 (σ 4 + 1) 3 = _
    rw [upd_n (by decide), upd_s]
theorem com_4 {n : Nat} {a d c : Int32} {σ : Sg} : (comS n a d c σ).1 4 = if c = a ^^^ d then σ 4 else σ 4 + 1 := by
  unfold comS
  by_cases q : c = a ^^^ d
  · rw [if_pos q, if_pos q, cml_keep n (fun r _ => by omega)]
    show upd σ 3 (σ 3 + 1) 4 = _
    exact upd_n (by decide)
  · rw [if_neg q, if_neg q]
    show upd (upd σ 3 (σ 3 + 1)) 4 (σ 4 + 1) 4 = _
    exact upd_s
theorem Cnt.com {n k : Nat} {a d c : Int32} {σ : Sg} (C : Cnt k σ) (hk : k < 1000000) : Cnt (k + 1) (comS n a d c σ).1 := by
  obtain ⟨c1, c2, c3, c4, c5, c6⟩ := C
  have e1 : (1 : Int32).toInt = 1 := rfl
  have a3 : (σ 3 + 1).toInt = (σ 3).toInt + 1 := Kit.i32_add (by omega) (by omega)
  have a4 : (σ 4 + 1).toInt = (σ 4).toInt + 1 := Kit.i32_add (by omega) (by omega)
  unfold Cnt
  rw [com_3, com_4, com_keep (i := 5) (by decide) (by decide) (fun r _ => by omega), com_keep (i := 0) (by decide) (by decide) (fun r _ => by omega), a3]
  split
  · exact ⟨c1, c2, by omega, by omega, c5, by omega⟩
  · rw [a4]
    exact ⟨c1, by omega, by omega, by omega, c5, by omega⟩
theorem Srt.com {n : Nat} {a d c : Int32} {σ : Sg} (S : Srt n σ) : Srt n (comS n a d c σ).1 := S.cong (fun r _ => com_keep (by omega) (by omega) (fun r' _ => by omega))
theorem Urg.com {n h : Nat} {a d c : Int32} {σ : Sg} (U : Urg h σ) (hn : n ≤ 8) : Urg h (comS n a d c σ).1 := U.cong (fun j _ => com_keep (by omega) (by omega) (fun r' _ => by omega))
theorem drop_at {h j w : Nat} {σ : Sg} (hj : j + 1 < h) (hw : w < 3) : dropS h σ (104 + 3 * j + w) = σ (104 + 3 * (j + 1) + w) := by
  unfold dropS
  rw [if_neg (by omega), if_pos (by omega)]
  congr 1
  omega
theorem Urg.drop {h : Nat} {σ : Sg} (U : Urg h σ) : Urg (h - 1) (dropS h σ) := by
  have at2 : ∀ j, j < h - 1 → dropS h σ (106 + 3 * j) = σ (106 + 3 * (j + 1)) := by
    intro j hj
    have := drop_at (σ := σ) (h := h) (j := j) (w := 2) (by omega) (by decide)
    rw [show 106 + 3 * j = 104 + 3 * j + 2 by omega, show 106 + 3 * (j + 1) = 104 + 3 * (j + 1) + 2 by omega]
    exact this
  refine ⟨fun r hr => ?_, fun r r' h1 h' => ?_⟩
  · rw [at2 r hr]; exact U.1 (r + 1) (by omega)
  · rw [at2 r (by omega), at2 r' h']; exact U.2 (r + 1) (r' + 1) (by omega) (by omega)
theorem spoil_out {h i : Nat} {σ : Sg} (h2 : i ≠ 2) (h5 : i ≠ 5) : spoilS σ h i = dropS h σ i := by
  unfold spoilS
  split
  · rw [upd_n h5, upd_n h2]
  · rfl
theorem chk_ne {σ : Sg} (h0 : 0 ≤ (σ 104).toInt ∧ (σ 104).toInt ≤ 99) (h1 : 0 ≤ (σ 105).toInt ∧ (σ 105).toInt ≤ 255) (hs : 0 < σ 1 ∧ σ 1 ≤ σ 2) : ¬ chkS σ = σ 104 ^^^ σ 105 := by
  have e0 := nat_of h0.1
  have e1 := nat_of h1.1
  have hx : (σ 104).toInt.toNat ^^^ (σ 105).toInt.toNat < 2 ^ 8 := Nat.xor_lt_two_pow (by omega) (by omega)
  have ex : σ 104 ^^^ σ 105 = nI ((σ 104).toInt.toNat ^^^ (σ 105).toInt.toNat) := by rw [← nx_xor, ← e0, ← e1]
  have e2 : ((σ 104 ^^^ σ 105) + 1) % 256 = nI ((((σ 104).toInt.toNat ^^^ (σ 105).toInt.toNat) + 1) % 256) := nx_rem (nx_add ex (b := 1) rfl) (b := 256) rfl (by omega) (by decide) (by decide)
  unfold chkS
  rw [if_pos hs, e2, ex]
  intro q
  have := (nI_eq (by omega) (by omega)).mp q
  omega
/-- the sending, place by place -/
theorem send_lo {n h i : Nat} {σ : Sg} (hi : i < 104) (h2 : i ≠ 2) (h3 : i ≠ 3) (h4 : i ≠ 4) (h5 : i ≠ 5) (h7 : i ≠ 7) (hk : ∀ r, r < n → ¬ (21 + 11 * r ≤ i ∧ i ≤ 25 + 11 * r)) : (sendS n h σ).1 i = σ i := by
  unfold sendS
  split
  · rfl
  · show (comS n (σ 104) (σ 105) (chkS σ) (spoilS σ h)).1 i = σ i
    rw [com_keep h3 h4 hk, spoil_out h2 h5, drop_lo hi h7]
theorem Jw.send {n h k : Nat} {σ : Sg} (J : Jw n h k σ) (hk : k < 1000000) : Jw n (h - 1) (k + 1) (sendS n h σ).1 := by
  obtain ⟨V, S, U, C⟩ := J
  have hn8 := V.2.1
  refine ⟨V.send, S.cong (fun r hr => send_lo (by omega) (by omega) (by omega) (by omega) (by omega) (by omega) (fun r' _ => by omega)), ?_, ?_⟩
  · unfold sendS
    split
    · rename_i e
      subst e
      exact U
    · exact ((U.drop.cong (fun j hj => spoil_out (by omega) (by omega))) : Urg (h - 1) (spoilS σ h)).com hn8
  · unfold sendS
    split
    · exact C.up (by omega)
    · rename_i e
      have b := V.2.2.2.2.2.2.2 0 (by omega)
      have e1 : (1 : Int32).toInt = 1 := rfl
      have d5 : ∀ i, i < 6 → dropS h σ i = σ i := fun i hi => drop_lo (by omega) (by omega)
      by_cases q : 0 < σ 1 ∧ σ 1 ≤ σ 2
      · have hc := chk_ne b.1 b.2 q
        obtain ⟨c1, c2, c3, c4, c5, c6⟩ := C
        have a3 : (σ 3 + 1).toInt = (σ 3).toInt + 1 := Kit.i32_add (by omega) (by omega)
        have a4 : (σ 4 + 1).toInt = (σ 4).toInt + 1 := Kit.i32_add (by omega) (by omega)
        have a5 : (σ 5 + 1).toInt = (σ 5).toInt + 1 := Kit.i32_add (by omega) (by omega)
        have s5 : spoilS σ h 5 = σ 5 + 1 := by unfold spoilS; rw [if_pos q, upd_s]
        show Cnt (k + 1) (comS n (σ 104) (σ 105) (chkS σ) (spoilS σ h)).1
        unfold Cnt
        rw [com_3, com_4, if_neg hc, com_keep (i := 5) (by decide) (by decide) (fun r _ => by omega), com_keep (i := 0) (by decide) (by decide) (fun r _ => by omega), s5, spoil_out (i := 3) (by decide) (by decide), spoil_out (i := 4) (by decide) (by decide), spoil_out (i := 0) (by decide) (by decide), d5 3 (by decide), d5 4 (by decide), d5 0 (by decide), a3, a4, a5]
        exact ⟨by omega, by omega, by omega, by omega, c5, by omega⟩
      · have es : spoilS σ h = dropS h σ := by unfold spoilS; rw [if_neg q]
        show Cnt (k + 1) (comS n (σ 104) (σ 105) (chkS σ) (spoilS σ h)).1
        rw [es]
        exact (C.cong (fun i hi _ _ => d5 i hi)).com hk
theorem send_0 {n h : Nat} {σ : Sg} : (sendS n h σ).1 0 = σ 0 := send_lo (by decide) (by decide) (by decide) (by decide) (by decide) (by decide) (fun r _ => by omega)
theorem tick_out {n h i : Nat} {σ : Sg} (h0 : i ≠ 0) (h2 : i ≠ 2) (hs : i < 8 ∨ 16 ≤ i) : tickS n h σ i = drvS n (sendS n h σ).1 i := by
  unfold tickS bothS
  rw [upd_n h2, upd_n h0, sho_out hs]
theorem drv_addr {n r : Nat} {σ : Sg} : drvS n σ (16 + 11 * r) = σ (16 + 11 * r) := by
  by_cases hr : r < n
  · have := drv_at (σ := σ) hr (show 0 < 11 by decide)
    rw [Nat.add_zero] at this
    rw [this, if_neg (by decide), if_neg (by decide), if_neg (by decide), if_neg (by decide)]
  · exact drv_out (Or.inr (by omega))
theorem Jw.tick {n h k : Nat} {σ : Sg} (J : Jw n h k σ) (hk : k < 1000000) : Jw n (h - 1) (k + 1) (tickS n h σ) := by
  have V := J.1
  have hn8 := V.2.1
  have J1 := J.send hk
  obtain ⟨-, S, U, c1, c2, c3, c4, c5, c6⟩ := J1
  have lo : ∀ i, i < 6 → i ≠ 0 → i ≠ 2 → tickS n h σ i = (sendS n h σ).1 i := fun i hi h0 h2 => by rw [tick_out h0 h2 (Or.inl (by omega)), drv_out (Or.inl (by omega))]
  refine ⟨V.tick, S.cong (fun r hr => by rw [tick_out (by omega) (by omega) (Or.inr (by omega)), drv_addr]), U.cong (fun j hj => by rw [tick_out (by omega) (by omega) (Or.inr (by omega)), drv_out (Or.inr (by omega))]), ?_⟩
  have e0 : tickS n h σ 0 = σ 0 + 1 := by
    unfold tickS bothS
    rw [upd_n (by decide), upd_s, sho_out (by omega), drv_out (by omega), send_0]
  have e1 : (1 : Int32).toInt = 1 := rfl
  have d5 := J.2.2.2.2.2.2.2.1
  have d6 := J.2.2.2.2.2.2.2.2
  have a0 : (σ 0 + 1).toInt = (σ 0).toInt + 1 := Kit.i32_add (by omega) (by omega)
  unfold Cnt
  rw [lo 5 (by decide) (by decide) (by decide), lo 4 (by decide) (by decide) (by decide), lo 3 (by decide) (by decide) (by decide), e0, a0]
  exact ⟨c1, c2, c3, c4, by omega, by omega⟩
theorem Jw.it {n h k : Nat} {σ : Sg} (J : Jw n h k σ) : ∀ m, k + m < 1000000 → Jw n (h - m) (k + m) (itS n h σ m).1 := by
  intro m
  induction m with
  | zero => exact fun _ => J
  | succ m ih =>
    intro hm
    have := (ih (by omega)).tick (by omega)
    rw [Nat.sub_sub] at this
    exact this
