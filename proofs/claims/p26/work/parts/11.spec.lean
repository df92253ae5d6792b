/-! PART 11: the mathematical value: a layout's state is the reference's row s of 164 ints -/
abbrev Sg : Type := Nat → Int32
theorem upd_s {σ : Sg} {i : Nat} {v : Int32} : upd σ i v i = v := by simp [upd]
theorem upd_n {σ : Sg} {i j : Nat} {v : Int32} (h : j ≠ i) : upd σ i v j = σ j := by simp [upd, h]
theorem nat_of {x : Int32} (h : 0 ≤ x.toInt) : x = nI x.toInt.toNat := by
  have h3 : x.toInt < 2 ^ 31 := x.toInt_lt
  apply Int32.toInt_inj.mp
  rw [nI_toInt (by omega)]
  omega
def blkS (σ : Sg) (r : Nat) : Nat := (σ (16 + 11 * r + 3)).toInt.toNat / 100
def shS (σ : Sg) (r : Nat) : Prop := 0 < σ (8 + blkS σ r)
def byC (c st : Int32) : Int32 := if c = 0 then 10 * st else if c = 1 then st * st * 10 / 28 else 20 * st - st * st * 10 / 28
def dueC (c st w : Int32) : Int32 := if w = 1 then byC c st else -(byC c st)
def dueS (σ : Sg) (r : Nat) : Int32 := dueC (σ (16 + 11 * r + 2)) (σ (16 + 11 * r + 6)) (σ (16 + 11 * r + 7))
def spdM (m c st w sp : Int32) : Int32 := if 60 / m < dueC c st w - sp then sp + 60 / m else if dueC c st w - sp < -(60 / m) then sp - 60 / m else sp + (dueC c st w - sp)
/-- a loco hears -/
def hearS (r : Nat) (d : Int32) (σ : Sg) : Sg :=
  if d = 31 then upd (upd (upd σ (16 + 11 * r + 9) (σ (16 + 11 * r + 9) + 1)) (16 + 11 * r + 6) 0) (16 + 11 * r + 5) 0
  else if 64 ≤ d ∧ d ≤ 67 then upd (upd σ (16 + 11 * r + 9) (σ (16 + 11 * r + 9) + 1)) (16 + 11 * r + 8) (d - 64)
  else if 0 ≤ d % 128 ∧ d % 128 ≤ 28 then upd (upd (upd σ (16 + 11 * r + 9) (σ (16 + 11 * r + 9) + 1)) (16 + 11 * r + 6) (d % 128)) (16 + 11 * r + 7) (d / 128)
  else upd σ (16 + 11 * r + 9) (σ (16 + 11 * r + 9) + 1)
abbrev hrdS (a : Int32) (σ : Sg) (r : Nat) : Prop := (a = 0 ∨ σ (16 + 11 * r) = a) ∧ ¬ 0 < σ (8 + blkS σ r)
def cmStep (a d : Int32) (r : Nat) (q : Sg × Int32) : Sg × Int32 := if hrdS a q.1 r then (hearS r d q.1, q.2 + 1) else q
def cmL (a d : Int32) : Nat → Sg × Int32 → Sg × Int32
  | 0, q => q
  | r + 1, q => cmStep a d r (cmL a d r q)
/-- a frame comes: how many hear it -/
def comS (n : Nat) (a d c : Int32) (σ : Sg) : Sg × Int32 :=
  if c = a ^^^ d then cmL a d n (upd σ 3 (σ 3 + 1), 0) else (upd (upd σ 3 (σ 3 + 1)) 4 (σ 4 + 1), 0)
/-- the first order goes -/
def dropS (h : Nat) (σ : Sg) : Sg := fun i => if i = 7 then nI (h - 1) else if 104 ≤ i ∧ i < 104 + 3 * (h - 1) then σ (i + 3) else if 104 + 3 * (h - 1) ≤ i ∧ i < 104 + 3 * h then 0 else σ i
/-- where an order comes to stand -/
def iposS (σ : Sg) (u : Int32) : Nat → Nat
  | 0 => 0
  | j + 1 => if σ (104 + 3 * j + 2) < u then iposS σ u j else j + 1
def ordS (h : Nat) (a d u : Int32) (σ : Sg) : Sg := fun i => if i = 7 then nI (h + 1) else if 104 ≤ i ∧ i < 107 + 3 * h then (if (i - 104) / 3 < iposS σ u h then σ i else if (i - 104) / 3 = iposS σ u h then (if (i - 104) % 3 = 0 then a else if (i - 104) % 3 = 1 then d else u) else σ (i - 3)) else σ i
/-- a frame is sent -/
def spoilS (σ : Sg) (h : Nat) : Sg := if 0 < σ 1 ∧ σ 1 ≤ σ 2 then upd (upd (dropS h σ) 2 0) 5 (σ 5 + 1) else dropS h σ
def chkS (σ : Sg) : Int32 := if 0 < σ 1 ∧ σ 1 ≤ σ 2 then ((σ 104 ^^^ σ 105) + 1) % 256 else σ 104 ^^^ σ 105
def sendS (n h : Nat) (σ : Sg) : Sg × Int32 := if h = 0 then (σ, 0) else ((comS n (σ 104) (σ 105) (chkS σ) (spoilS σ h)).1, 1)
def spdS (σ : Sg) (r : Nat) : Int32 := if 0 < σ (8 + blkS σ r) then 0 else spdM (σ (16 + 11 * r + 1)) (σ (16 + 11 * r + 2)) (σ (16 + 11 * r + 6)) (σ (16 + 11 * r + 7)) (σ (16 + 11 * r + 5))
def tenS (σ : Sg) (r : Nat) : Int32 := 10 * σ (16 + 11 * r + 3) + σ (16 + 11 * r + 4) + spdS σ r
def rndC (x : Int32) : Int32 := if x < 0 then -1 else if 8000 ≤ x then 1 else 0
/-- every loco's speed, then every loco's place -/
def drvS (n : Nat) (σ : Sg) : Sg := fun i => if 16 ≤ i ∧ i < 16 + 11 * n then (if (i - 16) % 11 = 3 then (tenS σ ((i - 16) / 11) + 8000) % 8000 / 10 else if (i - 16) % 11 = 4 then (tenS σ ((i - 16) / 11) + 8000) % 8000 % 10 else if (i - 16) % 11 = 5 then spdS σ ((i - 16) / 11) else if (i - 16) % 11 = 10 then σ i + rndC (tenS σ ((i - 16) / 11)) else σ i) else σ i
def shoS (σ : Sg) : Sg := fun i => if 8 ≤ i ∧ i < 16 then σ i - (if 0 < σ i then 1 else 0) else σ i
def bothS (s : Sg) : Sg := upd (upd s 0 (s 0 + 1)) 2 (s 2 + 1)
def tickS (n h : Nat) (σ : Sg) : Sg := bothS (shoS (drvS n (sendS n h σ).1))
/-- ticks go by: the state, how many frames were sent -/
def itS (n h : Nat) (σ : Sg) : Nat → Sg × Int32
  | 0 => (σ, 0)
  | m + 1 => (tickS n (h - m) (itS n h σ m).1, (itS n h σ m).2 + (sendS n (h - m) (itS n h σ m).1).2)
def LcOk (σ : Sg) (r : Nat) : Prop := (1 ≤ (σ (16 + 11 * r + 1)).toInt ∧ (σ (16 + 11 * r + 1)).toInt ≤ 20) ∧ (0 ≤ (σ (16 + 11 * r + 2)).toInt ∧ (σ (16 + 11 * r + 2)).toInt ≤ 2) ∧ (0 ≤ (σ (16 + 11 * r + 3)).toInt ∧ (σ (16 + 11 * r + 3)).toInt < 800) ∧ (0 ≤ (σ (16 + 11 * r + 4)).toInt ∧ (σ (16 + 11 * r + 4)).toInt ≤ 9) ∧ (-280 ≤ (σ (16 + 11 * r + 5)).toInt ∧ (σ (16 + 11 * r + 5)).toInt ≤ 280) ∧ (0 ≤ (σ (16 + 11 * r + 6)).toInt ∧ (σ (16 + 11 * r + 6)).toInt ≤ 28) ∧ (0 ≤ (σ (16 + 11 * r + 7)).toInt ∧ (σ (16 + 11 * r + 7)).toInt ≤ 1)
def Iv (n h : Nat) (σ : Sg) : Prop := σ 6 = nI n ∧ n ≤ 8 ∧ σ 7 = nI h ∧ h ≤ 20 ∧ (∀ r, r < n → LcOk σ r) ∧ (∀ b, b < 8 → 0 ≤ (σ (8 + b)).toInt ∧ (σ (8 + b)).toInt ≤ 99) ∧ (0 ≤ (σ 1).toInt ∧ (σ 1).toInt ≤ 9) ∧ ∀ j, j < h → (0 ≤ (σ (104 + 3 * j)).toInt ∧ (σ (104 + 3 * j)).toInt ≤ 99) ∧ 0 ≤ (σ (105 + 3 * j)).toInt ∧ (σ (105 + 3 * j)).toInt ≤ 255
/-- the class's slots of a loco, by the reference's numbers -/
def fmS : Nat → Nat
  | 6 => 7
  | 7 => 8
  | 8 => 9
  | 9 => 10
  | 10 => 6
  | f => f
def Rp (n h : Nat) (I : Ii) (pm : Pm) (k : Nat) (σ : Sg) : Prop :=
  (I 0 k 3 = σ 6 ∧ I 0 k 4 = σ 0 ∧ I 0 k 5 = σ 1 ∧ I 0 k 4 - I 0 k 6 = σ 2 ∧ I 0 k 7 = σ 3 ∧ I 0 k 8 = σ 4 ∧ I 0 k 9 = σ 5 ∧ I 2 k 3 = σ 7) ∧ (∀ b, b < 8 → I 6 k b = σ (8 + b)) ∧ (∀ r f, r < n → f < 11 → I 7 (8 * k + pm k r) (fmS f) = σ (16 + 11 * r + f)) ∧ (∀ j, j < h → I 3 k j = σ (104 + 3 * j) ∧ I 4 k j = σ (105 + 3 * j) ∧ I 5 k j = σ (106 + 3 * j)) ∧ (∀ r, r < 8 → pm k r < 8) ∧ (∀ r r', r < 8 → r' < 8 → pm k r = pm k r' → r = r') ∧ σ 6 = nI n ∧ n ≤ 8 ∧ σ 7 = nI h ∧ h ≤ 20
def inL (k K i : Nat) : Prop := (K ≤ 6 ∧ i = k) ∨ (K = 7 ∧ i / 8 = k)
/-- nothing outside layout k has changed -/
def Fr (k : Nat) (I : Ii) (pm : Pm) (I' : Ii) (pm' : Pm) : Prop := (∀ K i c, ¬ inL k K i → I' K i c = I K i c) ∧ ∀ k' r, k' ≠ k → pm' k' r = pm k' r
theorem Fr.rf {k : Nat} {I : Ii} {pm : Pm} : Fr k I pm I pm := ⟨fun _ _ _ _ => rfl, fun _ _ _ => rfl⟩
theorem Fr.tr {k : Nat} {I I1 I2 : Ii} {pm pm1 pm2 : Pm} (h1 : Fr k I pm I1 pm1) (h2 : Fr k I1 pm1 I2 pm2) : Fr k I pm I2 pm2 := ⟨fun K i c h => (h2.1 K i c h).trans (h1.1 K i c h), fun k' r h => (h2.2 k' r h).trans (h1.2 k' r h)⟩
theorem Fr.up {k K i j : Nat} {I : Ii} {pm : Pm} {v : Int32} (h : inL k K i) : Fr k I pm (up3 I K i j v) pm := ⟨fun a b c q => up3_n fun e => q (by rw [e.1, e.2.1]; exact h), fun _ _ _ => rfl⟩
theorem inL_0 {k K : Nat} (h : K ≤ 6) : inL k K k := Or.inl ⟨h, rfl⟩
theorem inL_7 {k j : Nat} (h : j < 8) : inL k 7 (8 * k + j) := Or.inr ⟨rfl, by omega⟩
theorem fmS_lt {f : Nat} (h : f < 11) : fmS f < 11 := by
  rcases (show f = 0 ∨ f = 1 ∨ f = 2 ∨ f = 3 ∨ f = 4 ∨ f = 5 ∨ f = 6 ∨ f = 7 ∨ f = 8 ∨ f = 9 ∨ f = 10 by omega) with rfl | rfl | rfl | rfl | rfl | rfl | rfl | rfl | rfl | rfl | rfl <;> decide
theorem fmS_inj {f g : Nat} (hf : f < 11) (hg : g < 11) (h : fmS f = fmS g) : f = g := by
  have key : ∀ f, f < 11 → ∀ g, g < 11 → fmS f = fmS g → f = g := by decide
  exact key f hf g hg h
theorem Rp.loco {n h : Nat} {I : Ii} {pm : Pm} {k : Nat} {σ : Sg} (R : Rp n h I pm k σ) {r f : Nat} (hr : r < n) (hf : f < 11) (v : Int32) : Rp n h (up3 I 7 (8 * k + pm k r) (fmS f) v) pm k (upd σ (16 + 11 * r + f) v) := by
  obtain ⟨⟨a1, a2, a3, a4, a5, a6, a7, a8⟩, b, c, d, e1, e2, e3, e4, e5, e6⟩ := R
  have n0 : ∀ i, i < 16 → upd σ (16 + 11 * r + f) v i = σ i := fun i hi => upd_n (by omega)
  have n1 : ∀ i, 104 ≤ i → upd σ (16 + 11 * r + f) v i = σ i := fun i hi => upd_n (by omega)
  have u0 : ∀ K i j, K ≠ 7 → up3 I 7 (8 * k + pm k r) (fmS f) v K i j = I K i j := fun K i j hK => up3_k hK
  refine ⟨⟨?_, ?_, ?_, ?_, ?_, ?_, ?_, ?_⟩, fun b' hb => ?_, fun r' f' hr' hf' => ?_, fun j hj => ?_, e1, e2, by rw [n0 6 (by omega)]; exact e3, e4, by rw [n0 7 (by omega)]; exact e5, e6⟩
  · rw [u0 _ _ _ (by decide), n0 _ (by omega)]; exact a1
  · rw [u0 _ _ _ (by decide), n0 _ (by omega)]; exact a2
  · rw [u0 _ _ _ (by decide), n0 _ (by omega)]; exact a3
  · rw [u0 _ _ _ (by decide), u0 _ _ _ (by decide), n0 _ (by omega)]; exact a4
  · rw [u0 _ _ _ (by decide), n0 _ (by omega)]; exact a5
  · rw [u0 _ _ _ (by decide), n0 _ (by omega)]; exact a6
  · rw [u0 _ _ _ (by decide), n0 _ (by omega)]; exact a7
  · rw [u0 _ _ _ (by decide), n0 _ (by omega)]; exact a8
  · rw [u0 _ _ _ (by decide), n0 _ (by omega)]; exact b b' hb
  · by_cases hq : r' = r ∧ f' = f
    · obtain ⟨rfl, rfl⟩ := hq
      rw [up3_s, upd_s]
    · rw [up3_n, upd_n, c r' f' hr' hf']
      · intro q; exact hq ⟨by omega, by omega⟩
      · intro q
        have h1 : pm k r' = pm k r := by omega
        have h2 := e2 r' r (by omega) (by omega) h1
        exact hq ⟨h2, fmS_inj hf' hf q.2.2⟩
  · rw [u0 _ _ _ (by decide), u0 _ _ _ (by decide), u0 _ _ _ (by decide), n1 _ (by omega), n1 _ (by omega), n1 _ (by omega)]; exact d j hj
/-- a number of the layout's own -/
theorem Rp.num {n h : Nat} {I I' : Ii} {pm : Pm} {k : Nat} {σ σ' : Sg} (R : Rp n h I pm k σ) (h7 : ∀ K i j, K ≠ 0 → I' K i j = I K i j) (hs : ∀ i, 6 ≤ i → σ' i = σ i)
    (a1 : I' 0 k 3 = σ' 6) (a2 : I' 0 k 4 = σ' 0) (a3 : I' 0 k 5 = σ' 1) (a4 : I' 0 k 4 - I' 0 k 6 = σ' 2) (a5 : I' 0 k 7 = σ' 3) (a6 : I' 0 k 8 = σ' 4) (a7 : I' 0 k 9 = σ' 5) : Rp n h I' pm k σ' := by
  obtain ⟨⟨-, -, -, -, -, -, -, a8⟩, b, c, d, e1, e2, e3, e4, e5, e6⟩ := R
  refine ⟨⟨a1, a2, a3, a4, a5, a6, a7, ?_⟩, fun b' hb => ?_, fun r' f' hr' hf' => ?_, fun j hj => ?_, e1, e2, by rw [hs 6 (by omega)]; exact e3, e4, by rw [hs 7 (by omega)]; exact e5, e6⟩
  · rw [h7 _ _ _ (by decide), hs _ (by omega)]; exact a8
  · rw [h7 _ _ _ (by decide), hs _ (by omega)]; exact b b' hb
  · rw [h7 _ _ _ (by decide), hs _ (by omega)]; exact c r' f' hr' hf'
  · rw [h7 _ _ _ (by decide), h7 _ _ _ (by decide), h7 _ _ _ (by decide), hs _ (by omega), hs _ (by omega), hs _ (by omega)]; exact d j hj
theorem Rp.hear {n h : Nat} {I : Ii} {pm : Pm} {k : Nat} {σ : Sg} (R : Rp n h I pm k σ) {r : Nat} (hr : r < n) (d : Int32) (hd : 0 ≤ d.toInt ∧ d.toInt ≤ 255) : Rp n h (hearI d I (8 * k + pm k r)) pm k (hearS r d σ) := by
  have hm : (d % 128).toInt = d.toInt % 128 := by rw [Kit.i32_rem_nonneg hd.1]; rfl
  have h9 : I 7 (8 * k + pm k r) 10 = σ (16 + 11 * r + 9) := R.2.2.1 r 9 hr (by decide)
  have R1 := R.loco hr (f := 9) (by decide) (σ (16 + 11 * r + 9) + 1)
  unfold hearI hearS
  rw [h9]
  by_cases c1 : d % 128 ≤ 28
  · have c1' : d.toInt % 128 ≤ 28 := by rw [← hm]; exact i_le.mp c1
    have hn1 : ¬ d = 31 := fun q => by rw [q] at c1'; revert c1'; decide
    have hn2 : ¬ (64 ≤ d ∧ d ≤ 67) := fun q => by
      have q1 := i_le.mp q.1
      have q2 := i_le.mp q.2
      have e1 : (64 : Int32).toInt = 64 := by decide
      have e2 : (67 : Int32).toInt = 67 := by decide
      omega
    have h0 : 0 ≤ d % 128 := i_le.mpr (by rw [hm]; show (0 : Int) ≤ _; omega)
    rw [if_pos c1, if_neg hn1, if_neg hn2, if_pos ⟨h0, c1⟩]
    exact (R1.loco hr (f := 6) (by decide) _).loco hr (f := 7) (by decide) _
  · rw [if_neg c1]
    by_cases c2 : d = 31
    · rw [if_pos c2, if_pos c2]
      exact (R1.loco hr (f := 6) (by decide) _).loco hr (f := 5) (by decide) _
    · rw [if_neg c2, if_neg c2]
      by_cases c3 : 64 ≤ d ∧ d ≤ 67
      · rw [if_pos c3, if_pos c3]
        exact R1.loco hr (f := 8) (by decide) _
      · rw [if_neg c3, if_neg c3, if_neg (fun q => c1 q.2)]
        exact R1
theorem Fr.hear {I : Ii} {pm : Pm} {k j : Nat} (hj : j < 8) (d : Int32) : Fr k I pm (hearI d I (8 * k + j)) pm := by
  have e := inL_7 (k := k) hj
  unfold hearI
  split
  · exact ((Fr.up e).tr (Fr.up e)).tr (Fr.up e)
  · split
    · exact ((Fr.up e).tr (Fr.up e)).tr (Fr.up e)
    · split
      · exact (Fr.up e).tr (Fr.up e)
      · exact Fr.up e
theorem dn_ind {n : Nat} {P : Nat → Prop} (h : ∀ j, j ≤ n → (j < n → P (j + 1)) → P j) : ∀ j, j ≤ n → P j := by
  have key : ∀ t j, j ≤ n → n - j ≤ t → P j := by
    intro t
    induction t with
    | zero => exact fun j hj hz => h j hj (fun q => absurd q (by omega))
    | succ t ih => exact fun j hj hz => h j hj (fun q => ih (j + 1) (by omega) (by omega))
  exact fun j hj => key (n - j) j hj (Nat.le_refl _)
theorem up_ind {P : Nat → Prop} (h : ∀ j, (∀ i, j = i + 1 → P i) → P j) : ∀ j, P j := by
  intro j
  induction j with
  | zero => exact h 0 (fun i q => absurd q (by omega))
  | succ j ih => exact h (j + 1) (fun i q => by cases q; exact ih)
