/-! PART 73: places and tenths since a tick ago are what speeds add up to; what is told -/
section GOES
variable {n h r : Nat} {σ : Sg}
theorem send_f (V : Iv n h σ) (hr : r < n) {f : Nat} (hf : f < 11) (h5 : f < 5 ∨ f = 10) : (sendS n h σ).1 (16 + 11 * r + f) = σ (16 + 11 * r + f) := by
  have h8 := V.2.1
  exact send_lo (by omega) (by omega) (by omega) (by omega) (by omega) (by omega) (fun r' _ => by omega)
theorem send_b {b : Nat} (hb : b < 8) : (sendS n h σ).1 (8 + b) = σ (8 + b) := send_lo (by omega) (by omega) (by omega) (by omega) (by omega) (by omega) (fun r' _ => by omega)
theorem tick_f (hr : r < n) {f : Nat} (hf : f < 11) : tickS n h σ (16 + 11 * r + f) = drvS n (sendS n h σ).1 (16 + 11 * r + f) := tick_out (by omega) (by omega) (Or.inr (by omega))
theorem tick_5 (hr : r < n) : tickS n h σ (16 + 11 * r + 5) = spdS (sendS n h σ).1 r := by
  rw [tick_f hr (by decide), drv_at hr (by decide), if_neg (by decide), if_neg (by decide), if_pos rfl]
theorem tick_0 (V : Iv n h σ) (hr : r < n) : tickS n h σ (16 + 11 * r) = σ (16 + 11 * r) := by
  rw [tick_out (by omega) (by omega) (Or.inr (by omega)), drv_addr]
  exact send_f V hr (f := 0) (by decide) (by decide)
theorem tick_1 (V : Iv n h σ) (hr : r < n) : tickS n h σ (16 + 11 * r + 1) = σ (16 + 11 * r + 1) := by
  rw [tick_f hr (by decide), drv_at hr (by decide), if_neg (by decide), if_neg (by decide), if_neg (by decide), if_neg (by decide)]
  exact send_f V hr (f := 1) (by decide) (by decide)
theorem blk_send (V : Iv n h σ) (hr : r < n) : blkS (sendS n h σ).1 r = blkS σ r := by
  unfold blkS
  rw [send_f V hr (f := 3) (by decide) (by decide)]
theorem tick_dark (V : Iv n h σ) (hr : r < n) (hd : 0 < σ (8 + blkS σ r)) : tickS n h σ (16 + 11 * r + 5) = 0 := by
  have hb := blk_lt (V.2.2.2.2.1 r hr)
  rw [tick_5 hr]
  unfold spdS
  rw [blk_send V hr, send_b hb, if_pos hd]
theorem send_none : (sendS n 0 σ).1 = σ := by
  unfold sendS
  rw [if_pos rfl]
theorem tick_quiet (hr : r < n) (hd : ¬ 0 < σ (8 + blkS σ r)) : tickS n 0 σ (16 + 11 * r + 5) = spdM (σ (16 + 11 * r + 1)) (σ (16 + 11 * r + 2)) (σ (16 + 11 * r + 6)) (σ (16 + 11 * r + 7)) (σ (16 + 11 * r + 5)) := by
  rw [tick_5 hr, send_none]
  unfold spdS
  rw [if_neg hd]
theorem ten_split {z : Int32} (h0 : 0 ≤ z.toInt) : 10 * (z / 10) + z % 10 = z := by
  have e := nat_of h0
  have hl : z.toInt < 2 ^ 31 := Int32.toInt_lt _
  have d1 : z / 10 = nI (z.toInt.toNat / 10) := nx_div e (b := 10) rfl (by omega) (by decide) (by decide)
  have d2 : z % 10 = nI (z.toInt.toNat % 10) := nx_rem e (b := 10) rfl (by omega) (by decide) (by decide)
  have d3 : 10 * (z / 10) + z % 10 = nI (10 * (z.toInt.toNat / 10) + z.toInt.toNat % 10) := nx_add (nx_mul rfl d1 (a := 10)) d2
  rw [d3, Nat.div_add_mod, ← e]
theorem mod_back {x : Int32} (h1 : -8000 < x.toInt) (h2 : x.toInt < 16000) : (x + 8000) % 8000 + 8000 * rndC x = x := by
  have e0 : (0 : Int32).toInt = 0 := rfl
  have e8 : (8000 : Int32).toInt = 8000 := rfl
  have ha : (x + 8000).toInt = x.toInt + 8000 := Kit.i32_add (by omega) (by omega)
  have hr : ((x + 8000) % 8000).toInt = (x.toInt + 8000) % 8000 := by rw [Kit.i32_rem_nonneg (by omega), ha]; rfl
  apply i_eq.mpr
  unfold rndC
  by_cases c0 : x < 0
  · have d0 := i_lt.mp c0
    have e : (8000 * -1 : Int32).toInt = -8000 := by decide
    rw [if_pos c0, Kit.i32_add (by omega) (by omega), hr, e]
    omega
  · have d0 := i_le.mp (Int32.not_lt.mp c0)
    rw [if_neg c0]
    by_cases c1 : 8000 ≤ x
    · have d1 := i_le.mp c1
      have e : (8000 * 1 : Int32).toInt = 8000 := by decide
      rw [if_pos c1, Kit.i32_add (by omega) (by omega), hr, e]
      omega
    · have d1 := i_lt.mp (Int32.not_le.mp c1)
      have e : (8000 * 0 : Int32).toInt = 0 := by decide
      rw [if_neg c1, Kit.i32_add (by omega) (by omega), hr, e]
      omega
theorem sum_go (a b s z t u c o : Int32) (h1 : 10 * z + t = u) (h2 : u + 8000 * o = 10 * a + b + s) : 10 * z + t + 8000 * (c + o) - (10 * a + b + 8000 * c) = s := by
  rw [h1, Int32.mul_add, ← Int32.add_assoc, Int32.add_comm u, Int32.add_assoc, h2]
  rw [Int32.add_comm (8000 * c) (10 * a + b + s), Int32.add_comm (10 * a + b) s, Int32.add_assoc s, Int32.add_sub_cancel]
theorem tick_go (V : Iv n h σ) (hr : r < n) : 10 * tickS n h σ (16 + 11 * r + 3) + tickS n h σ (16 + 11 * r + 4) + 8000 * (tickS n h σ (16 + 11 * r + 10) + 1000 - 1000) - (10 * σ (16 + 11 * r + 3) + σ (16 + 11 * r + 4) + 8000 * (σ (16 + 11 * r + 10) + 1000 - 1000)) = tickS n h σ (16 + 11 * r + 5) + 1000 - 1000 := by
  have L1 := V.send.2.2.2.2.1 r hr
  have ht := ten_bd L1
  have hm := fm_eq ht.2.1 ht.2.2
  rw [hm.1] at hm
  have f3 := send_f V hr (f := 3) (by decide) (by decide)
  have f4 := send_f V hr (f := 4) (by decide) (by decide)
  have f10 := send_f V hr (f := 10) (by decide) (by decide)
  have t3 : tickS n h σ (16 + 11 * r + 3) = (tenS (sendS n h σ).1 r + 8000) % 8000 / 10 := by rw [tick_f hr (by decide), drv_at hr (by decide), if_pos rfl]
  have t4 : tickS n h σ (16 + 11 * r + 4) = (tenS (sendS n h σ).1 r + 8000) % 8000 % 10 := by rw [tick_f hr (by decide), drv_at hr (by decide), if_neg (by decide), if_pos rfl]
  have t10 : tickS n h σ (16 + 11 * r + 10) = σ (16 + 11 * r + 10) + rndC (tenS (sendS n h σ).1 r) := by rw [tick_f hr (by decide), drv_at hr (by decide), if_neg (by decide), if_neg (by decide), if_neg (by decide), if_pos rfl, f10]
  rw [back1, back1, back1, t3, t4, t10, tick_5 hr]
  refine sum_go _ _ _ _ _ _ _ _ (ten_split hm.2.1) ?_
  rw [mod_back ht.2.1 ht.2.2]
  unfold tenS
  rw [f3, f4]
end GOES
theorem spd_ok {m c st w sp x : Int32} (m1 : 1 ≤ m.toInt) (m2 : m.toInt ≤ 20) (c0 : 0 ≤ c.toInt) (c2 : c.toInt ≤ 2) (s0 : 0 ≤ st.toInt) (s1 : st.toInt ≤ 28) (p0 : -280 ≤ sp.toInt) (p1 : sp.toInt ≤ 280) (hx : x = spdM m c st w sp) : (x + 1000 - (sp + 1000) ≤ 60 / m) ∧ (sp + 1000 - (x + 1000) ≤ 60 / m) ∧ (x + 1000 = dueC c st w + 1000 ∨ x + 1000 - (sp + 1000) = 60 / m ∨ sp + 1000 - (x + 1000) = 60 / m) := by
  have hd := due_bd (w := w) c0 c2 s0 s1
  have hg := gain_bd m1 m2
  have e1 : (1000 : Int32).toInt = 1000 := rfl
  unfold spdM at hx
  obtain ⟨g, eg2⟩ : ∃ g, g = 60 / m := ⟨_, rfl⟩
  obtain ⟨d, ed⟩ : ∃ d, d = dueC c st w := ⟨_, rfl⟩
  rw [← eg2, ← ed] at hx
  rw [← eg2] at hg ⊢
  rw [← ed] at hd ⊢
  have hq : (d - sp).toInt = d.toInt - sp.toInt := Kit.i32_sub (by omega) (by omega)
  have hn : (-g).toInt = -g.toInt := Kit.i32_neg (by omega)
  have ha : (sp + g).toInt = sp.toInt + g.toInt := Kit.i32_add (by omega) (by omega)
  have hs : (sp - g).toInt = sp.toInt - g.toInt := Kit.i32_sub (by omega) (by omega)
  have ht : (sp + (d - sp)).toInt = sp.toInt + (d - sp).toInt := Kit.i32_add (by omega) (by omega)
  have hp : (sp + 1000).toInt = sp.toInt + 1000 := Kit.i32_add (by omega) (by omega)
  have hd1 : (d + 1000).toInt = d.toInt + 1000 := Kit.i32_add (by omega) (by omega)
  have key : (x.toInt = sp.toInt + g.toInt) ∨ (x.toInt = sp.toInt - g.toInt) ∨ (x.toInt = d.toInt ∧ d.toInt - sp.toInt ≤ g.toInt ∧ sp.toInt - d.toInt ≤ g.toInt) := by
    by_cases c1 : g < d - sp
    · rw [if_pos c1] at hx
      exact Or.inl (by rw [hx, ha])
    · rw [if_neg c1] at hx
      have d1 := i_le.mp (Int32.not_lt.mp c1)
      by_cases c3 : d - sp < -g
      · rw [if_pos c3] at hx
        exact Or.inr (Or.inl (by rw [hx, hs]))
      · rw [if_neg c3] at hx
        have d3 := i_le.mp (Int32.not_lt.mp c3)
        exact Or.inr (Or.inr ⟨by rw [hx]; omega, by omega, by omega⟩)
  have hx1 : (x + 1000).toInt = x.toInt + 1000 := Kit.i32_add (by omega) (by omega)
  have h1 : (x + 1000 - (sp + 1000)).toInt = x.toInt - sp.toInt := by rw [Kit.i32_sub (by omega) (by omega), hx1, hp]; omega
  have h2 : (sp + 1000 - (x + 1000)).toInt = sp.toInt - x.toInt := by rw [Kit.i32_sub (by omega) (by omega), hx1, hp]; omega
  refine ⟨i_le.mpr (by omega), i_le.mpr (by omega), ?_⟩
  rcases key with e | e | e
  · exact Or.inr (Or.inl (i_eq.mpr (by omega)))
  · exact Or.inr (Or.inr (i_eq.mpr (by omega)))
  · exact Or.inl (i_eq.mpr (by omega))
/-- what is told of all -/
def fo (f : Nat → Int32) : Nat → Int64 → Int64
  | 0, h => h
  | j + 1, h => 31 * fo f j h + (f j).toInt64
def fl (g : Nat → Int64 → Int64) : Nat → Int64 → Int64
  | 0, h => h
  | k + 1, h => g k (fl g k h)
def tl1 (σ : Sg) : Int64 := fo (fun j => cntS σ 0 0 (nI j)) 10 3
def tl2f (σ : Sg) (k : Nat) (h : Int64) : Int64 := fo (fun j => ofS σ (adrS σ (nI k)) (nI j)) 12 (31 * h + (adrS σ (nI k)).toInt64)
def tl2 (σ : Sg) : Int64 := fl (tl2f σ) (nof σ) (tl1 σ)
def tl3f (σ : Sg) (k : Nat) (h : Int64) : Int64 := fo (fun j => waitS (hof σ) σ (nI k) (nI j)) 3 h
def tl3 (σ : Sg) : Int64 := fl (tl3f σ) (hof σ) (tl2 σ)
def tolS (σ : Sg) : Int64 := fo (fun b => blockS σ (nI b) 0) 8 (tl3 σ)
