/-! PART 10: the leaves: within, isBlock, curveSpeed, floorDiv, floorMod, and the methods of a loco -/
def cvS (c st : Int32) : Int32 := if c = 1 then st * st * 10 / 28 else if c = 2 then 20 * st - st * st * 10 / 28 else 10 * st
def goalF (c st w : Int32) : Int32 := if w = 1 then cvS c st else -(cvS c st)
def gainF (m : Int32) : Int32 := if m ≤ 0 then 0 else 60 / m
def mxF (x y : Int32) : Int32 := if x < y then y else x
def mnF (x y : Int32) : Int32 := if y < x then y else x
def abF (x : Int32) : Int32 := if 0 ≤ x then x else 0 - x
def fdF (x y : Int32) : Int32 := if 0 ≤ x ^^^ y then x / y else if x / y * y = x then x / y else x / y - 1
def fmF (x y : Int32) : Int32 := if 0 ≤ x ^^^ y then x % y else if x % y = 0 then x % y else x % y + y
def spdF (m c st w sp : Int32) : Int32 := sp + mxF (-(gainF m)) (mnF (gainF m) (goalF c st w - sp))
def lcGoal (I : Ii) (i : Nat) : Int32 := goalF (I 7 i 2) (I 7 i 7) (I 7 i 8)
def lcAt (I : Ii) (i : Nat) : Int32 := I 7 i 3 * 10 + I 7 i 4 + I 7 i 5
def lcTtg (I : Ii) (i : Nat) : Int32 := if gainF (I 7 i 1) ≤ 0 then 0 else (abF (lcGoal I i - I 7 i 5) + gainF (I 7 i 1) - 1) / gainF (I 7 i 1)
def hearI (d : Int32) (I : Ii) (i : Nat) : Ii :=
  if d % 128 ≤ 28 then up3 (up3 (up3 I 7 i 10 (I 7 i 10 + 1)) 7 i 7 (d % 128)) 7 i 8 (d / 128)
  else if d = 31 then up3 (up3 (up3 I 7 i 10 (I 7 i 10 + 1)) 7 i 7 0) 7 i 5 0
  else if 64 ≤ d ∧ d ≤ 67 then up3 (up3 I 7 i 10 (I 7 i 10 + 1)) 7 i 9 (d - 64)
  else up3 I 7 i 10 (I 7 i 10 + 1)
def rollI (I : Ii) (i : Nat) : Ii := up3 (up3 (up3 I 7 i 6 (I 7 i 6 + fdF (lcAt I i) 8000)) 7 i 3 (fmF (lcAt I i) 8000 / 10)) 7 i 4 (fmF (lcAt I i) 8000 % 10)
def beginI (I : Ii) (i : Nat) (a b c d : Int32) : Ii := up3 (up3 (up3 (up3 (up3 (up3 (up3 (up3 (up3 (up3 (up3 I 7 i 0 a) 7 i 1 b) 7 i 2 c) 7 i 3 d) 7 i 4 0) 7 i 5 0) 7 i 6 0) 7 i 7 0) 7 i 8 1) 7 i 9 0) 7 i 10 0
def toldL (I : Ii) (i : Nat) (w : Int32) : Int32 := if w = 0 then I 7 i 1 else if w = 1 then I 7 i 2 else if w = 2 then I 7 i 3 else if w = 3 then I 7 i 4 else if w = 4 then I 7 i 5 + 1000 else if w = 5 then lcGoal I i + 1000 else if w = 6 then I 7 i 7 else if w = 7 then I 7 i 8 else if w = 8 then I 7 i 9 else if w = 9 then I 7 i 3 / 100 else if w = 10 then I 7 i 10 else if w = 11 then I 7 i 6 + 1000 else -2

set_option maxHeartbeats 4000000 in
set_option maxRecDepth 100000 in
theorem c_X5_within {l : Launch} {G : Gm} (hj : Aj G) {I : Ii} {pm : Pm} {v a b : Int32} : CI l G yX5_within (wz yX5_within cX5_within 3 (some .boolean)) (rmL 0) [.int v, .int a, .int b] I pm (fun r u => r = bz (a ≤ v ∧ v ≤ b) ∧ u = (I, pm)) := by
  refine CI.walk hj (by decide +kernel) (by show _ ≤ 3; exact Nat.le_of_ble_eq_true rfl) ?_
  intro p e s m args below meth c F hr hlk
  refine g_iload_n F 0 dX5_within_0 rfl rfl ?_
  refine g_iload_n F 1 dX5_within_1 rfl rfl ?_
  refine g_icmp_lt F 14 dX5_within_2 (by decide) (fun c_2 => ?_) (fun c_2 => ?_)
  · refine g_iconst (v := 0) F dX5_within_14 (by decide) ?_
    exact g_iret F hr hlk rfl dX5_within_15 (by simp [bz, *, Int32.not_le, Int32.not_lt] <;> (simp only [i_lt, i_le] at *; omega))
  · refine g_iload_n F 0 dX5_within_5 rfl rfl ?_
    refine g_iload_n F 2 dX5_within_6 rfl rfl ?_
    refine g_icmp_gt F 14 dX5_within_7 (by decide) (fun c_7 => ?_) (fun c_7 => ?_)
    · refine g_iconst (v := 0) F dX5_within_14 (by decide) ?_
      exact g_iret F hr hlk rfl dX5_within_15 (by simp [bz, *, Int32.not_le, Int32.not_lt] <;> (simp only [i_lt, i_le] at *; omega))
    · refine g_iconst (v := 1) F dX5_within_10 (by decide) ?_
      refine g_goto F 15 dX5_within_11 (by decide) ?_
      exact g_iret F hr hlk rfl dX5_within_15 (by simp [bz, *, Int32.not_le, Int32.not_lt] <;> (simp only [i_lt, i_le] at *; omega))
set_option maxHeartbeats 4000000 in
set_option maxRecDepth 100000 in
theorem c_X5_isBlock {l : Launch} {G : Gm} (hj : Aj G) {I : Ii} {pm : Pm} {v : Int32} : CI l G yX5_isBlock (wz yX5_isBlock cX5_isBlock 1 (some .boolean)) (rmL 1) [.int v] I pm (fun r u => r = bz (0 ≤ v ∧ v ≤ 7) ∧ u = (I, pm)) := by
  refine CI.walk hj (by decide +kernel) (by show _ ≤ 1; exact Nat.le_of_ble_eq_true rfl) ?_
  intro p e s m args below meth c F hr hlk
  refine g_iload_n F 0 dX5_isBlock_0 rfl rfl ?_
  refine g_iconst (v := 0) F dX5_isBlock_1 (by decide) ?_
  refine g_bipush (v := 7) F dX5_isBlock_2 (by decide) ?_
  refine g_callIs (na := 3) F (c_X5_within hj) lk_X5_155 rfl rfl (by decide +kernel) ⟨rfl, rfl, Nat.le_of_ble_eq_true rfl, Nat.le_of_ble_eq_true rfl, Nat.le_of_ble_eq_true rfl, Nat.le_of_ble_eq_true rfl, Nat.le_of_ble_eq_true rfl⟩ dX5_isBlock_4 (fun r_4 u_4 h_4 => ?_)
  obtain ⟨rfl, rfl⟩ := h_4
  try dsimp only
  refine g_iret F hr hlk nar_b dX5_isBlock_7 ?_
  exact ⟨rfl, rfl⟩
set_option maxHeartbeats 4000000 in
set_option maxRecDepth 100000 in
theorem c_X5_curveSpeed {l : Launch} {G : Gm} (hj : Aj G) {I : Ii} {pm : Pm} {c0 t : Int32} : CI l G yX5_curveSpeed (wz yX5_curveSpeed cX5_curveSpeed 3 (some .int)) (rmL 0) [.int c0, .int t] I pm (fun r u => r = cvS c0 t ∧ u = (I, pm)) := by
  refine CI.walk hj (by decide +kernel) (by show _ ≤ 3; exact Nat.le_of_ble_eq_true rfl) ?_
  intro p e s m args below meth c F hr hlk
  refine g_iload_n F 1 dX5_curveSpeed_0 rfl rfl ?_
  refine g_iload_n F 1 dX5_curveSpeed_1 rfl rfl ?_
  refine g_imul F dX5_curveSpeed_2 ?_
  refine g_bipush (v := 10) F dX5_curveSpeed_3 (by decide) ?_
  refine g_imul F dX5_curveSpeed_5 ?_
  refine g_bipush (v := 28) F dX5_curveSpeed_6 (by decide) ?_
  refine g_idiv F dX5_curveSpeed_8 (by decide) ?_
  refine g_topi (fun x2_9 ex2_9 => ?_)
  refine g_istore_n (L' := [(2, _), (0, _), (1, _)]) F dX5_curveSpeed_9 rfl (by decide) rfl ?_
  refine g_iload_n F 1 dX5_curveSpeed_10 rfl rfl ?_
  by_cases hs_11_1 : c0 = 1
  · refine g_lookup F 36 dX5_curveSpeed_11 (by decide) (by rw [hs_11_1] <;> rfl) (by decide) ?_
    refine g_iload_n F 0 dX5_curveSpeed_36 rfl rfl ?_
    exact g_iret F hr hlk rfl dX5_curveSpeed_37 (by simp [cvS, *])
  by_cases hs_11_2 : c0 = 2
  · refine g_lookup F 38 dX5_curveSpeed_11 (by decide) (by rw [hs_11_2] <;> rfl) (by decide) ?_
    refine g_bipush (v := 20) F dX5_curveSpeed_38 (by decide) ?_
    refine g_iload_n F 2 dX5_curveSpeed_40 rfl rfl ?_
    refine g_imul F dX5_curveSpeed_41 ?_
    refine g_iload_n F 0 dX5_curveSpeed_42 rfl rfl ?_
    refine g_isub F dX5_curveSpeed_43 ?_
    exact g_iret F hr hlk rfl dX5_curveSpeed_44 (by simp [cvS, *])
  refine g_lookup (off := 34) F 45 dX5_curveSpeed_11 (by decide) ((lv_osw hs_11_1 rfl).trans <| (lv_osw hs_11_2 rfl).trans <| rfl) (by decide) ?_
  refine g_bipush (v := 10) F dX5_curveSpeed_45 (by decide) ?_
  refine g_iload_n F 2 dX5_curveSpeed_47 rfl rfl ?_
  refine g_imul F dX5_curveSpeed_48 ?_
  exact g_iret F hr hlk rfl dX5_curveSpeed_49 (by simp [cvS, *])
set_option maxHeartbeats 4000000 in
set_option maxRecDepth 100000 in
theorem c_J9_floorDiv {l : Launch} {G : Gm} (hj : Aj G) {I : Ii} {pm : Pm} {x y : Int32} (h0 : ¬ y = 0) : CI l G yJ9_floorDiv_7cf53 (wz yJ9_floorDiv_7cf53 cJ9_floorDiv_7cf53 3 (some .int)) (rmL 0) [.int x, .int y] I pm (fun r u => r = fdF x y ∧ u = (I, pm)) := by
  refine CI.walk hj (by decide +kernel) (by show _ ≤ 3; exact Nat.le_of_ble_eq_true rfl) ?_
  intro p e s m args below meth c F hr hlk
  refine g_iload_n F 0 dJ9_floorDiv_7cf53_0 rfl rfl ?_
  refine g_iload_n F 1 dJ9_floorDiv_7cf53_1 rfl rfl ?_
  refine g_idiv F dJ9_floorDiv_7cf53_2 h0 ?_
  refine g_topi (fun x2_3 ex2_3 => ?_)
  refine g_istore_n (L' := [(2, _), (0, _), (1, _)]) F dJ9_floorDiv_7cf53_3 rfl (by decide) rfl ?_
  refine g_iload_n F 1 dJ9_floorDiv_7cf53_4 rfl rfl ?_
  refine g_iload_n F 2 dJ9_floorDiv_7cf53_5 rfl rfl ?_
  refine g_ixor F dJ9_floorDiv_7cf53_6 ?_
  refine g_if_ge F 21 dJ9_floorDiv_7cf53_7 (by decide) (fun c_7 => ?_) (fun c_7 => ?_)
  · refine g_iload_n F 0 dJ9_floorDiv_7cf53_21 rfl rfl ?_
    exact g_iret F hr hlk rfl dJ9_floorDiv_7cf53_22 (by first | exact ⟨by rw [fdF, if_pos c_7, ex2_3], rfl⟩ | exact ⟨by rw [fdF, if_neg c_7, if_pos (by rw [← ex2_3]; exact c_14), ex2_3], rfl⟩ | exact ⟨by rw [fdF, if_neg c_7, if_neg (by rw [← ex2_3]; exact c_14), ex2_3], rfl⟩)
  · refine g_iload_n F 0 dJ9_floorDiv_7cf53_10 rfl rfl ?_
    refine g_iload_n F 2 dJ9_floorDiv_7cf53_11 rfl rfl ?_
    refine g_imul F dJ9_floorDiv_7cf53_12 ?_
    refine g_iload_n F 1 dJ9_floorDiv_7cf53_13 rfl rfl ?_
    refine g_icmp_eq F 21 dJ9_floorDiv_7cf53_14 (by decide) (fun c_14 => ?_) (fun c_14 => ?_)
    · refine g_iload_n F 0 dJ9_floorDiv_7cf53_21 rfl rfl ?_
      exact g_iret F hr hlk rfl dJ9_floorDiv_7cf53_22 (by first | exact ⟨by rw [fdF, if_pos c_7, ex2_3], rfl⟩ | exact ⟨by rw [fdF, if_neg c_7, if_pos (by rw [← ex2_3]; exact c_14), ex2_3], rfl⟩ | exact ⟨by rw [fdF, if_neg c_7, if_neg (by rw [← ex2_3]; exact c_14), ex2_3], rfl⟩)
    · refine g_iload_n F 0 dJ9_floorDiv_7cf53_17 rfl rfl ?_
      refine g_iconst (v := 1) F dJ9_floorDiv_7cf53_18 (by decide) ?_
      refine g_isub F dJ9_floorDiv_7cf53_19 ?_
      exact g_iret F hr hlk rfl dJ9_floorDiv_7cf53_20 (by first | exact ⟨by rw [fdF, if_pos c_7, ex2_3], rfl⟩ | exact ⟨by rw [fdF, if_neg c_7, if_pos (by rw [← ex2_3]; exact c_14), ex2_3], rfl⟩ | exact ⟨by rw [fdF, if_neg c_7, if_neg (by rw [← ex2_3]; exact c_14), ex2_3], rfl⟩)
set_option maxHeartbeats 4000000 in
set_option maxRecDepth 100000 in
theorem c_J9_floorMod {l : Launch} {G : Gm} (hj : Aj G) {I : Ii} {pm : Pm} {x y : Int32} (h0 : ¬ y = 0) : CI l G yJ9_floorMod_7cf53 (wz yJ9_floorMod_7cf53 cJ9_floorMod_7cf53 3 (some .int)) (rmL 0) [.int x, .int y] I pm (fun r u => r = fmF x y ∧ u = (I, pm)) := by
  refine CI.walk hj (by decide +kernel) (by show _ ≤ 3; exact Nat.le_of_ble_eq_true rfl) ?_
  intro p e s m args below meth c F hr hlk
  refine g_iload_n F 0 dJ9_floorMod_7cf53_0 rfl rfl ?_
  refine g_iload_n F 1 dJ9_floorMod_7cf53_1 rfl rfl ?_
  refine g_irem F dJ9_floorMod_7cf53_2 h0 ?_
  refine g_topi (fun x2_3 ex2_3 => ?_)
  refine g_istore_n (L' := [(2, _), (0, _), (1, _)]) F dJ9_floorMod_7cf53_3 rfl (by decide) rfl ?_
  refine g_iload_n F 1 dJ9_floorMod_7cf53_4 rfl rfl ?_
  refine g_iload_n F 2 dJ9_floorMod_7cf53_5 rfl rfl ?_
  refine g_ixor F dJ9_floorMod_7cf53_6 ?_
  refine g_if_ge F 18 dJ9_floorMod_7cf53_7 (by decide) (fun c_7 => ?_) (fun c_7 => ?_)
  · refine g_iload_n F 0 dJ9_floorMod_7cf53_18 rfl rfl ?_
    exact g_iret F hr hlk rfl dJ9_floorMod_7cf53_19 (by first | (simp_all [fmF]; done) | (have hz := Int32.not_le.mpr c_6; simp_all [fmF]; done))
  · refine g_iload_n F 0 dJ9_floorMod_7cf53_10 rfl rfl ?_
    refine g_if_eq F 18 dJ9_floorMod_7cf53_11 (by decide) (fun c_11 => ?_) (fun c_11 => ?_)
    · refine g_iload_n F 0 dJ9_floorMod_7cf53_18 rfl rfl ?_
      exact g_iret F hr hlk rfl dJ9_floorMod_7cf53_19 (by first | (simp_all [fmF]; done) | (have hz := Int32.not_le.mpr c_6; simp_all [fmF]; done))
    · refine g_iload_n F 0 dJ9_floorMod_7cf53_14 rfl rfl ?_
      refine g_iload_n F 2 dJ9_floorMod_7cf53_15 rfl rfl ?_
      refine g_iadd F dJ9_floorMod_7cf53_16 ?_
      exact g_iret F hr hlk rfl dJ9_floorMod_7cf53_17 (by first | (simp_all [fmF]; done) | (have hz := Int32.not_le.mpr c_6; simp_all [fmF]; done))
set_option maxHeartbeats 4000000 in
set_option maxRecDepth 100000 in
theorem c_X2_blockNumber {l : Launch} {G : Gm} (hj : Aj G) {I : Ii} {pm : Pm} {i : Nat} (hi : i < 88) : CI l G yX2_blockNumber (wz yX2_blockNumber cX2_blockNumber 1 (some .int)) (rmL 0) [.ref (G.2.2 7 i)] I pm (fun r u => r = I 7 i 3 / 100 ∧ u = (I, pm)) := by
  refine CI.walk hj (by decide +kernel) (by show _ ≤ 1; exact Nat.le_of_ble_eq_true rfl) ?_
  intro p e s m args below meth c F hr hlk
  refine g_aload_n F 0 dX2_blockNumber_0 rfl rfl ?_
  refine gf_7_3 F hi mFL_X2_21 dX2_blockNumber_1 ?_
  refine g_bipush (v := 100) F dX2_blockNumber_4 (by decide) ?_
  refine g_idiv F dX2_blockNumber_6 (by decide) ?_
  refine g_iret F hr hlk rfl dX2_blockNumber_7 ?_
  exact ⟨rfl, rfl⟩
set_option maxHeartbeats 4000000 in
set_option maxRecDepth 100000 in
theorem c_X2_goal {l : Launch} {G : Gm} (hj : Aj G) {I : Ii} {pm : Pm} {i : Nat} (hi : i < 88) : CI l G yX2_goal (wz yX2_goal cX2_goal 2 (some .int)) (rmL 1) [.ref (G.2.2 7 i)] I pm (fun r u => r = lcGoal I i ∧ u = (I, pm)) := by
  refine CI.walk hj (by decide +kernel) (by show _ ≤ 2; exact Nat.le_of_ble_eq_true rfl) ?_
  intro p e s m args below meth c F hr hlk
  refine g_aload_n F 0 dX2_goal_0 rfl rfl ?_
  refine gf_7_2 F hi mFL_X2_18 dX2_goal_1 ?_
  refine g_aload_n F 0 dX2_goal_4 rfl rfl ?_
  refine gf_7_7 F hi mFL_X2_33 dX2_goal_5 ?_
  refine g_callIn (na := 2) F (c_X5_curveSpeed hj) (gw mCO_yX5_curveSpeed) F.2.2.1.2.2.2.1 mST_yX5_curveSpeed mIN_RX5 rfl rfl (by decide +kernel) ⟨rfl, rfl, Nat.le_of_ble_eq_true rfl, Nat.le_of_ble_eq_true rfl, Nat.le_of_ble_eq_true rfl, Nat.le_of_ble_eq_true rfl, Nat.le_of_ble_eq_true rfl⟩ dX2_goal_8 (fun r_8 u_8 h_8 => ?_)
  obtain ⟨rfl, rfl⟩ := h_8
  try dsimp only
  refine g_topi (fun x1_11 ex1_11 => ?_)
  refine g_istore_n (L' := [(1, _), (0, _)]) F dX2_goal_11 rfl (by decide) rfl ?_
  refine g_aload_n F 1 dX2_goal_12 rfl rfl ?_
  refine gf_7_8 F hi mFL_X2_36 dX2_goal_13 ?_
  refine g_iconst (v := 1) F dX2_goal_16 (by decide) ?_
  refine g_icmp_ne F 24 dX2_goal_17 (by decide) (fun c_17 => ?_) (fun c_17 => ?_)
  · refine g_iload_n F 0 dX2_goal_24 rfl rfl ?_
    refine g_ineg F dX2_goal_25 ?_
    exact g_iret F hr hlk rfl dX2_goal_26 (by simp_all [lcGoal, goalF])
  · refine g_iload_n F 0 dX2_goal_20 rfl rfl ?_
    refine g_goto F 26 dX2_goal_21 (by decide) ?_
    exact g_iret F hr hlk rfl dX2_goal_26 (by simp_all [lcGoal, goalF])
set_option maxHeartbeats 4000000 in
set_option maxRecDepth 100000 in
theorem c_X2_mostGain {l : Launch} {G : Gm} (hj : Aj G) {I : Ii} {pm : Pm} {i : Nat} (hi : i < 88) : CI l G yX2_mostGain (wz yX2_mostGain cX2_mostGain 1 (some .int)) (rmL 0) [.ref (G.2.2 7 i)] I pm (fun r u => r = gainF (I 7 i 1) ∧ u = (I, pm)) := by
  refine CI.walk hj (by decide +kernel) (by show _ ≤ 1; exact Nat.le_of_ble_eq_true rfl) ?_
  intro p e s m args below meth c F hr hlk
  refine g_aload_n F 0 dX2_mostGain_0 rfl rfl ?_
  refine gf_7_1 F hi mFL_X2_15 dX2_mostGain_1 ?_
  refine g_if_le F 17 dX2_mostGain_4 (by decide) (fun c_4 => ?_) (fun c_4 => ?_)
  · refine g_iconst (v := 0) F dX2_mostGain_17 (by decide) ?_
    exact g_iret F hr hlk rfl dX2_mostGain_18 (by first | exact ⟨by rw [gainF, if_pos c_4], rfl⟩ | exact ⟨by rw [gainF, if_neg c_4], rfl⟩)
  · refine g_bipush (v := 60) F dX2_mostGain_7 (by decide) ?_
    refine g_aload_n F 0 dX2_mostGain_9 rfl rfl ?_
    refine gf_7_1 F hi mFL_X2_15 dX2_mostGain_10 ?_
    refine g_idiv F dX2_mostGain_13 (fun q => by rw [q] at c_4; exact c_4 (by decide)) ?_
    refine g_goto F 18 dX2_mostGain_14 (by decide) ?_
    exact g_iret F hr hlk rfl dX2_mostGain_18 (by first | exact ⟨by rw [gainF, if_pos c_4], rfl⟩ | exact ⟨by rw [gainF, if_neg c_4], rfl⟩)
set_option maxHeartbeats 4000000 in
set_option maxRecDepth 100000 in
theorem c_X2_ticksToGoal {l : Launch} {G : Gm} (hj : Aj G) {I : Ii} {pm : Pm} {i : Nat} (hi : i < 88) : CI l G yX2_ticksToGoal (wz yX2_ticksToGoal cX2_ticksToGoal 3 (some .int)) (rmL 2) [.ref (G.2.2 7 i)] I pm (fun r u => r = lcTtg I i ∧ u = (I, pm)) := by
  refine CI.walk hj (by decide +kernel) (by show _ ≤ 3; exact Nat.le_of_ble_eq_true rfl) ?_
  intro p e s m args below meth c F hr hlk
  refine g_aload_n F 0 dX2_ticksToGoal_0 rfl rfl ?_
  refine g_callIv (na := 0) F 7 _ (c_X2_mostGain hj hi) hi rfl rfl lk_X2_49 rfl rfl (by decide +kernel) ⟨rfl, rfl, Nat.le_of_ble_eq_true rfl, Nat.le_of_ble_eq_true rfl, Nat.le_of_ble_eq_true rfl, Nat.le_of_ble_eq_true rfl, Nat.le_of_ble_eq_true rfl⟩ dX2_ticksToGoal_1 (fun r_1 u_1 h_1 => ?_)
  obtain ⟨rfl, rfl⟩ := h_1
  try dsimp only
  refine g_topi (fun x1_4 ex1_4 => ?_)
  refine g_istore_n (L' := [(1, _), (0, _)]) F dX2_ticksToGoal_4 rfl (by decide) rfl ?_
  refine g_aload_n F 1 dX2_ticksToGoal_5 rfl rfl ?_
  refine g_callIv (na := 0) F 7 _ (c_X2_goal hj hi) hi rfl rfl lk_X2_53 rfl rfl (by decide +kernel) ⟨rfl, rfl, Nat.le_of_ble_eq_true rfl, Nat.le_of_ble_eq_true rfl, Nat.le_of_ble_eq_true rfl, Nat.le_of_ble_eq_true rfl, Nat.le_of_ble_eq_true rfl⟩ dX2_ticksToGoal_6 (fun r_6 u_6 h_6 => ?_)
  obtain ⟨rfl, rfl⟩ := h_6
  try dsimp only
  refine g_aload_n F 1 dX2_ticksToGoal_9 rfl rfl ?_
  refine gf_7_5 F hi mFL_X2_27 dX2_ticksToGoal_10 ?_
  refine g_isub F dX2_ticksToGoal_13 ?_
  refine g_mabs F mML_X2_56 mST_LMabs mIN_java_lang_Math mCO_LMabs ⟨Nat.le_of_ble_eq_true rfl, Nat.le_of_ble_eq_true rfl, Nat.le_of_ble_eq_true rfl, Nat.le_of_ble_eq_true rfl⟩ dX2_ticksToGoal_14 ?_
  refine g_topi (fun x2_17 ex2_17 => ?_)
  refine g_istore_n (L' := [(2, _), (1, _), (0, _)]) F dX2_ticksToGoal_17 rfl (by decide) rfl ?_
  refine g_iload_n F 1 dX2_ticksToGoal_18 rfl rfl ?_
  refine g_if_le F 32 dX2_ticksToGoal_19 (by decide) (fun c_19 => ?_) (fun c_19 => ?_)
  · refine g_iconst (v := 0) F dX2_ticksToGoal_32 (by decide) ?_
    exact g_iret F hr hlk rfl dX2_ticksToGoal_33 (by first | exact ⟨by rw [lcTtg, if_pos (by rw [← ex1_4]; exact c_19)], rfl⟩ | exact ⟨by rw [lcTtg, if_neg (by rw [← ex1_4]; exact c_19), ex2_17, ex1_4]; rfl, rfl⟩)
  · refine g_iload_n F 0 dX2_ticksToGoal_22 rfl rfl ?_
    refine g_iload_n F 1 dX2_ticksToGoal_23 rfl rfl ?_
    refine g_iadd F dX2_ticksToGoal_24 ?_
    refine g_iconst (v := 1) F dX2_ticksToGoal_25 (by decide) ?_
    refine g_isub F dX2_ticksToGoal_26 ?_
    refine g_iload_n F 1 dX2_ticksToGoal_27 rfl rfl ?_
    refine g_idiv F dX2_ticksToGoal_28 (fun q => by rw [q] at c_19; exact c_19 (by decide)) ?_
    refine g_goto F 33 dX2_ticksToGoal_29 (by decide) ?_
    exact g_iret F hr hlk rfl dX2_ticksToGoal_33 (by first | exact ⟨by rw [lcTtg, if_pos (by rw [← ex1_4]; exact c_19)], rfl⟩ | exact ⟨by rw [lcTtg, if_neg (by rw [← ex1_4]; exact c_19), ex2_17, ex1_4]; rfl, rfl⟩)
set_option maxHeartbeats 4000000 in
set_option maxRecDepth 100000 in
theorem c_X2_changeSpeed {l : Launch} {G : Gm} (hj : Aj G) {I : Ii} {pm : Pm} {i : Nat} (hi : i < 88) : CV l G yX2_changeSpeed (wz yX2_changeSpeed cX2_changeSpeed 2 none) (rmL 2) [.ref (G.2.2 7 i)] I pm (fun u => u = (up3 I 7 i 5 (spdF (I 7 i 1) (I 7 i 2) (I 7 i 7) (I 7 i 8) (I 7 i 5)), pm)) := by
  refine CV.walk hj (by decide +kernel) (by show _ ≤ 2; exact Nat.le_of_ble_eq_true rfl) ?_
  intro p e s m args below meth c F hr hlk
  refine g_aload_n F 0 dX2_changeSpeed_0 rfl rfl ?_
  refine g_callIv (na := 0) F 7 _ (c_X2_mostGain hj hi) hi rfl rfl lk_X2_49 rfl rfl (by decide +kernel) ⟨rfl, rfl, Nat.le_of_ble_eq_true rfl, Nat.le_of_ble_eq_true rfl, Nat.le_of_ble_eq_true rfl, Nat.le_of_ble_eq_true rfl, Nat.le_of_ble_eq_true rfl⟩ dX2_changeSpeed_1 (fun r_1 u_1 h_1 => ?_)
  obtain ⟨rfl, rfl⟩ := h_1
  try dsimp only
  refine g_topi (fun x1_4 ex1_4 => ?_)
  refine g_istore_n (L' := [(1, _), (0, _)]) F dX2_changeSpeed_4 rfl (by decide) rfl ?_
  refine g_aload_n F 1 dX2_changeSpeed_5 rfl rfl ?_
  refine g_dup F dX2_changeSpeed_6 rfl ?_
  refine gf_7_5 F hi mFL_X2_27 dX2_changeSpeed_7 ?_
  refine g_iload_n F 0 dX2_changeSpeed_10 rfl rfl ?_
  refine g_ineg F dX2_changeSpeed_11 ?_
  refine g_iload_n F 0 dX2_changeSpeed_12 rfl rfl ?_
  refine g_aload_n F 1 dX2_changeSpeed_13 rfl rfl ?_
  refine g_callIv (na := 0) F 7 _ (c_X2_goal hj hi) hi rfl rfl lk_X2_53 rfl rfl (by decide +kernel) ⟨rfl, rfl, Nat.le_of_ble_eq_true rfl, Nat.le_of_ble_eq_true rfl, Nat.le_of_ble_eq_true rfl, Nat.le_of_ble_eq_true rfl, Nat.le_of_ble_eq_true rfl⟩ dX2_changeSpeed_14 (fun r_14 u_14 h_14 => ?_)
  obtain ⟨rfl, rfl⟩ := h_14
  try dsimp only
  refine g_aload_n F 1 dX2_changeSpeed_17 rfl rfl ?_
  refine gf_7_5 F hi mFL_X2_27 dX2_changeSpeed_18 ?_
  refine g_isub F dX2_changeSpeed_21 ?_
  refine g_mmin F mML_X2_62 mST_LMmin mIN_java_lang_Math mCO_LMmin ⟨Nat.le_of_ble_eq_true rfl, Nat.le_of_ble_eq_true rfl, Nat.le_of_ble_eq_true rfl, Nat.le_of_ble_eq_true rfl⟩ dX2_changeSpeed_22 ?_
  refine g_mmax F mML_X2_65 mST_LMmax mIN_java_lang_Math mCO_LMmax ⟨Nat.le_of_ble_eq_true rfl, Nat.le_of_ble_eq_true rfl, Nat.le_of_ble_eq_true rfl, Nat.le_of_ble_eq_true rfl⟩ dX2_changeSpeed_25 ?_
  refine g_iadd F dX2_changeSpeed_28 ?_
  refine gp_7_5 F hi mFL_X2_27 dX2_changeSpeed_29 ?_
  exact g_vret F hr hlk dX2_changeSpeed_32 (by rw [ex1_4]; rfl)
set_option maxHeartbeats 4000000 in
set_option maxRecDepth 100000 in
theorem c_X2_roll {l : Launch} {G : Gm} (hj : Aj G) {I : Ii} {pm : Pm} {i : Nat} (hi : i < 88) : CV l G yX2_roll (wz yX2_roll cX2_roll 3 none) (rmL 1) [.ref (G.2.2 7 i)] I pm (fun u => u = (rollI I i, pm)) := by
  refine CV.walk hj (by decide +kernel) (by show _ ≤ 3; exact Nat.le_of_ble_eq_true rfl) ?_
  intro p e s m args below meth c F hr hlk
  refine g_aload_n F 0 dX2_roll_0 rfl rfl ?_
  refine gf_7_3 F hi mFL_X2_21 dX2_roll_1 ?_
  refine g_bipush (v := 10) F dX2_roll_4 (by decide) ?_
  refine g_imul F dX2_roll_6 ?_
  refine g_aload_n F 0 dX2_roll_7 rfl rfl ?_
  refine gf_7_4 F hi mFL_X2_24 dX2_roll_8 ?_
  refine g_iadd F dX2_roll_11 ?_
  refine g_aload_n F 0 dX2_roll_12 rfl rfl ?_
  refine gf_7_5 F hi mFL_X2_27 dX2_roll_13 ?_
  refine g_iadd F dX2_roll_16 ?_
  refine g_topi (fun x1_17 ex1_17 => ?_)
  refine g_istore_n (L' := [(1, _), (0, _)]) F dX2_roll_17 rfl (by decide) rfl ?_
  refine g_aload_n F 1 dX2_roll_18 rfl rfl ?_
  refine g_dup F dX2_roll_19 rfl ?_
  refine gf_7_6 F hi mFL_X2_30 dX2_roll_20 ?_
  refine g_iload_n F 0 dX2_roll_23 rfl rfl ?_
  refine g_sipush (v := 8000) F dX2_roll_24 (by decide) ?_
  refine g_callIs (na := 2) F (c_J9_floorDiv hj (by decide)) lk_X2_68 rfl rfl (by decide +kernel) ⟨rfl, rfl, Nat.le_of_ble_eq_true rfl, Nat.le_of_ble_eq_true rfl, Nat.le_of_ble_eq_true rfl, Nat.le_of_ble_eq_true rfl, Nat.le_of_ble_eq_true rfl⟩ dX2_roll_27 (fun r_27 u_27 h_27 => ?_)
  obtain ⟨rfl, rfl⟩ := h_27
  try dsimp only
  refine g_iadd F dX2_roll_30 ?_
  refine gp_7_6 F hi mFL_X2_30 dX2_roll_31 ?_
  refine g_iload_n F 0 dX2_roll_34 rfl rfl ?_
  refine g_sipush (v := 8000) F dX2_roll_35 (by decide) ?_
  refine g_callIs (na := 2) F (c_J9_floorMod hj (by decide)) lk_X2_71 rfl rfl (by decide +kernel) ⟨rfl, rfl, Nat.le_of_ble_eq_true rfl, Nat.le_of_ble_eq_true rfl, Nat.le_of_ble_eq_true rfl, Nat.le_of_ble_eq_true rfl, Nat.le_of_ble_eq_true rfl⟩ dX2_roll_38 (fun r_38 u_38 h_38 => ?_)
  obtain ⟨rfl, rfl⟩ := h_38
  try dsimp only
  refine g_topi (fun x2_41 ex2_41 => ?_)
  refine g_istore_n (L' := [(2, _), (1, _), (0, _)]) F dX2_roll_41 rfl (by decide) rfl ?_
  refine g_aload_n F 2 dX2_roll_42 rfl rfl ?_
  refine g_iload_n F 0 dX2_roll_43 rfl rfl ?_
  refine g_bipush (v := 10) F dX2_roll_44 (by decide) ?_
  refine g_idiv F dX2_roll_46 (by decide) ?_
  refine gp_7_3 F hi mFL_X2_21 dX2_roll_47 ?_
  refine g_aload_n F 2 dX2_roll_50 rfl rfl ?_
  refine g_iload_n F 0 dX2_roll_51 rfl rfl ?_
  refine g_bipush (v := 10) F dX2_roll_52 (by decide) ?_
  refine g_irem F dX2_roll_54 (by decide) ?_
  refine gp_7_4 F hi mFL_X2_24 dX2_roll_55 ?_
  exact g_vret F hr hlk dX2_roll_58 (by simp_all [rollI, lcAt])
set_option maxHeartbeats 4000000 in
set_option maxRecDepth 100000 in
theorem c_X2_hear {l : Launch} {G : Gm} (hj : Aj G) {I : Ii} {pm : Pm} {i : Nat} (hi : i < 88) {x : Int32} : CV l G yX2_hear (wz yX2_hear cX2_hear 3 none) (rmL 0) [.ref (G.2.2 7 i), .int x] I pm (fun u => u = (hearI x I i, pm)) := by
  refine CV.walk hj (by decide +kernel) (by show _ ≤ 3; exact Nat.le_of_ble_eq_true rfl) ?_
  intro p e s m args below meth c F hr hlk
  refine g_aload_n F 0 dX2_hear_0 rfl rfl ?_
  refine g_dup F dX2_hear_1 rfl ?_
  refine gf_7_10 F hi mFL_X2_42 dX2_hear_2 ?_
  refine g_iconst (v := 1) F dX2_hear_5 (by decide) ?_
  refine g_iadd F dX2_hear_6 ?_
  refine gp_7_10 F hi mFL_X2_42 dX2_hear_7 ?_
  refine g_iload_n F 1 dX2_hear_10 rfl rfl ?_
  refine g_sipush (v := 128) F dX2_hear_11 (by decide) ?_
  refine g_irem F dX2_hear_14 (by decide) ?_
  refine g_topi (fun x2_15 ex2_15 => ?_)
  refine g_istore_n (L' := [(2, _), (0, _), (1, _)]) F dX2_hear_15 rfl (by decide) rfl ?_
  refine g_iload_n F 0 dX2_hear_16 rfl rfl ?_
  refine g_bipush (v := 28) F dX2_hear_17 (by decide) ?_
  refine g_icmp_gt F 39 dX2_hear_19 (by decide) (fun c_19 => ?_) (fun c_19 => ?_)
  · refine g_iload_n F 2 dX2_hear_39 rfl rfl ?_
    refine g_bipush (v := 31) F dX2_hear_40 (by decide) ?_
    refine g_icmp_ne F 58 dX2_hear_42 (by decide) (fun c_42 => ?_) (fun c_42 => ?_)
    · refine g_iload_n F 2 dX2_hear_58 rfl rfl ?_
      refine g_bipush (v := 64) F dX2_hear_59 (by decide) ?_
      refine g_icmp_lt F 78 dX2_hear_61 (by decide) (fun c_61 => ?_) (fun c_61 => ?_)
      · exact g_vret F hr hlk dX2_hear_78 (by
      rw [ex2_15] at c_19
      simp only [hearI, ex2_15]
      first
      | rw [if_pos (Int32.not_lt.mp c_19)]
      | (rw [if_neg (Int32.not_le.mpr c_19)]
         first
         | rw [if_pos c_42]
         | (rw [if_neg c_42]
            first
            | rw [if_neg (fun q => absurd q.1 (Int32.not_le.mpr c_61))]
            | rw [if_neg (fun q => absurd q.2 (Int32.not_le.mpr c_67))]
            | rw [if_pos ⟨Int32.not_lt.mp c_61, Int32.not_lt.mp c_67⟩])))
      · refine g_iload_n F 2 dX2_hear_64 rfl rfl ?_
        refine g_bipush (v := 67) F dX2_hear_65 (by decide) ?_
        refine g_icmp_gt F 78 dX2_hear_67 (by decide) (fun c_67 => ?_) (fun c_67 => ?_)
        · exact g_vret F hr hlk dX2_hear_78 (by
      rw [ex2_15] at c_19
      simp only [hearI, ex2_15]
      first
      | rw [if_pos (Int32.not_lt.mp c_19)]
      | (rw [if_neg (Int32.not_le.mpr c_19)]
         first
         | rw [if_pos c_42]
         | (rw [if_neg c_42]
            first
            | rw [if_neg (fun q => absurd q.1 (Int32.not_le.mpr c_61))]
            | rw [if_neg (fun q => absurd q.2 (Int32.not_le.mpr c_67))]
            | rw [if_pos ⟨Int32.not_lt.mp c_61, Int32.not_lt.mp c_67⟩])))
        · refine g_aload_n F 1 dX2_hear_70 rfl rfl ?_
          refine g_iload_n F 2 dX2_hear_71 rfl rfl ?_
          refine g_bipush (v := 64) F dX2_hear_72 (by decide) ?_
          refine g_isub F dX2_hear_74 ?_
          refine gp_7_9 F hi mFL_X2_39 dX2_hear_75 ?_
          exact g_vret F hr hlk dX2_hear_78 (by
      rw [ex2_15] at c_19
      simp only [hearI, ex2_15]
      first
      | rw [if_pos (Int32.not_lt.mp c_19)]
      | (rw [if_neg (Int32.not_le.mpr c_19)]
         first
         | rw [if_pos c_42]
         | (rw [if_neg c_42]
            first
            | rw [if_neg (fun q => absurd q.1 (Int32.not_le.mpr c_61))]
            | rw [if_neg (fun q => absurd q.2 (Int32.not_le.mpr c_67))]
            | rw [if_pos ⟨Int32.not_lt.mp c_61, Int32.not_lt.mp c_67⟩])))
    · refine g_aload_n F 1 dX2_hear_45 rfl rfl ?_
      refine g_iconst (v := 0) F dX2_hear_46 (by decide) ?_
      refine gp_7_7 F hi mFL_X2_33 dX2_hear_47 ?_
      refine g_aload_n F 1 dX2_hear_50 rfl rfl ?_
      refine g_iconst (v := 0) F dX2_hear_51 (by decide) ?_
      refine gp_7_5 F hi mFL_X2_27 dX2_hear_52 ?_
      refine g_goto F 78 dX2_hear_55 (by decide) ?_
      exact g_vret F hr hlk dX2_hear_78 (by
      rw [ex2_15] at c_19
      simp only [hearI, ex2_15]
      first
      | rw [if_pos (Int32.not_lt.mp c_19)]
      | (rw [if_neg (Int32.not_le.mpr c_19)]
         first
         | rw [if_pos c_42]
         | (rw [if_neg c_42]
            first
            | rw [if_neg (fun q => absurd q.1 (Int32.not_le.mpr c_61))]
            | rw [if_neg (fun q => absurd q.2 (Int32.not_le.mpr c_67))]
            | rw [if_pos ⟨Int32.not_lt.mp c_61, Int32.not_lt.mp c_67⟩])))
  · refine g_aload_n F 1 dX2_hear_22 rfl rfl ?_
    refine g_iload_n F 0 dX2_hear_23 rfl rfl ?_
    refine gp_7_7 F hi mFL_X2_33 dX2_hear_24 ?_
    refine g_aload_n F 1 dX2_hear_27 rfl rfl ?_
    refine g_iload_n F 2 dX2_hear_28 rfl rfl ?_
    refine g_sipush (v := 128) F dX2_hear_29 (by decide) ?_
    refine g_idiv F dX2_hear_32 (by decide) ?_
    refine gp_7_8 F hi mFL_X2_36 dX2_hear_33 ?_
    refine g_goto F 78 dX2_hear_36 (by decide) ?_
    exact g_vret F hr hlk dX2_hear_78 (by
      rw [ex2_15] at c_19
      simp only [hearI, ex2_15]
      first
      | rw [if_pos (Int32.not_lt.mp c_19)]
      | (rw [if_neg (Int32.not_le.mpr c_19)]
         first
         | rw [if_pos c_42]
         | (rw [if_neg c_42]
            first
            | rw [if_neg (fun q => absurd q.1 (Int32.not_le.mpr c_61))]
            | rw [if_neg (fun q => absurd q.2 (Int32.not_le.mpr c_67))]
            | rw [if_pos ⟨Int32.not_lt.mp c_61, Int32.not_lt.mp c_67⟩])))
set_option maxHeartbeats 4000000 in
set_option maxRecDepth 100000 in
theorem c_X2_told {l : Launch} {G : Gm} (hj : Aj G) {I : Ii} {pm : Pm} {i : Nat} (hi : i < 88) {x : Int32} : CI l G yX2_told (wz yX2_told cX2_told 2 (some .int)) (rmL 2) [.ref (G.2.2 7 i), .int x] I pm (fun r u => r = toldL I i x ∧ u = (I, pm)) := by
  refine CI.walk hj (by decide +kernel) (by show _ ≤ 2; exact Nat.le_of_ble_eq_true rfl) ?_
  intro p e s m args below meth c F hr hlk
  refine g_iload_n F 1 dX2_told_0 rfl rfl ?_
  by_cases hs_1 : 0 ≤ x.toInt ∧ x.toInt ≤ 11
  · obtain ⟨js_1, hj_1, ej_1⟩ := sw_in hs_1.1 hs_1.2 (by decide)
    rcases (show js_1 = 0 ∨ js_1 = 1 ∨ js_1 = 2 ∨ js_1 = 3 ∨ js_1 = 4 ∨ js_1 = 5 ∨ js_1 = 6 ∨ js_1 = 7 ∨ js_1 = 8 ∨ js_1 = 9 ∨ js_1 = 10 ∨ js_1 = 11 by omega) with hq | hq | hq | hq | hq | hq | hq | hq | hq | hq | hq | hq
    · have hs_1_0 : x = 0 := by rw [ej_1, hq] <;> rfl
      refine g_tableIn (off := 63) F 64 dX2_told_1 (by rw [hs_1_0]; decide) (by rw [hs_1_0]; decide) (by rw [hs_1_0]; rfl) (by decide) ?_
      refine g_aload_n F 0 dX2_told_64 rfl rfl ?_
      refine gf_7_1 F hi mFL_X2_15 dX2_told_65 ?_
      exact g_iret F hr hlk rfl dX2_told_68 (by rw [hs_1_0]; exact ⟨rfl, rfl⟩)
    · have hs_1_1 : x = 1 := by rw [ej_1, hq] <;> rfl
      refine g_tableIn (off := 68) F 69 dX2_told_1 (by rw [hs_1_1]; decide) (by rw [hs_1_1]; decide) (by rw [hs_1_1]; rfl) (by decide) ?_
      refine g_aload_n F 0 dX2_told_69 rfl rfl ?_
      refine gf_7_2 F hi mFL_X2_18 dX2_told_70 ?_
      exact g_iret F hr hlk rfl dX2_told_73 (by rw [hs_1_1]; exact ⟨rfl, rfl⟩)
    · have hs_1_2 : x = 2 := by rw [ej_1, hq] <;> rfl
      refine g_tableIn (off := 73) F 74 dX2_told_1 (by rw [hs_1_2]; decide) (by rw [hs_1_2]; decide) (by rw [hs_1_2]; rfl) (by decide) ?_
      refine g_aload_n F 0 dX2_told_74 rfl rfl ?_
      refine gf_7_3 F hi mFL_X2_21 dX2_told_75 ?_
      exact g_iret F hr hlk rfl dX2_told_78 (by rw [hs_1_2]; exact ⟨rfl, rfl⟩)
    · have hs_1_3 : x = 3 := by rw [ej_1, hq] <;> rfl
      refine g_tableIn (off := 78) F 79 dX2_told_1 (by rw [hs_1_3]; decide) (by rw [hs_1_3]; decide) (by rw [hs_1_3]; rfl) (by decide) ?_
      refine g_aload_n F 0 dX2_told_79 rfl rfl ?_
      refine gf_7_4 F hi mFL_X2_24 dX2_told_80 ?_
      exact g_iret F hr hlk rfl dX2_told_83 (by rw [hs_1_3]; exact ⟨rfl, rfl⟩)
    · have hs_1_4 : x = 4 := by rw [ej_1, hq] <;> rfl
      refine g_tableIn (off := 83) F 84 dX2_told_1 (by rw [hs_1_4]; decide) (by rw [hs_1_4]; decide) (by rw [hs_1_4]; rfl) (by decide) ?_
      refine g_aload_n F 0 dX2_told_84 rfl rfl ?_
      refine gf_7_5 F hi mFL_X2_27 dX2_told_85 ?_
      refine g_sipush (v := 1000) F dX2_told_88 (by decide) ?_
      refine g_iadd F dX2_told_91 ?_
      exact g_iret F hr hlk rfl dX2_told_92 (by rw [hs_1_4]; exact ⟨rfl, rfl⟩)
    · have hs_1_5 : x = 5 := by rw [ej_1, hq] <;> rfl
      refine g_tableIn (off := 92) F 93 dX2_told_1 (by rw [hs_1_5]; decide) (by rw [hs_1_5]; decide) (by rw [hs_1_5]; rfl) (by decide) ?_
      refine g_aload_n F 0 dX2_told_93 rfl rfl ?_
      refine g_callIv (na := 0) F 7 _ (c_X2_goal hj hi) hi rfl rfl lk_X2_53 rfl rfl (by decide +kernel) ⟨rfl, rfl, Nat.le_of_ble_eq_true rfl, Nat.le_of_ble_eq_true rfl, Nat.le_of_ble_eq_true rfl, Nat.le_of_ble_eq_true rfl, Nat.le_of_ble_eq_true rfl⟩ dX2_told_94 (fun r_94 u_94 h_94 => ?_)
      obtain ⟨rfl, rfl⟩ := h_94
      try dsimp only
      refine g_sipush (v := 1000) F dX2_told_97 (by decide) ?_
      refine g_iadd F dX2_told_100 ?_
      exact g_iret F hr hlk rfl dX2_told_101 (by rw [hs_1_5]; exact ⟨rfl, rfl⟩)
    · have hs_1_6 : x = 6 := by rw [ej_1, hq] <;> rfl
      refine g_tableIn (off := 101) F 102 dX2_told_1 (by rw [hs_1_6]; decide) (by rw [hs_1_6]; decide) (by rw [hs_1_6]; rfl) (by decide) ?_
      refine g_aload_n F 0 dX2_told_102 rfl rfl ?_
      refine gf_7_7 F hi mFL_X2_33 dX2_told_103 ?_
      exact g_iret F hr hlk rfl dX2_told_106 (by rw [hs_1_6]; exact ⟨rfl, rfl⟩)
    · have hs_1_7 : x = 7 := by rw [ej_1, hq] <;> rfl
      refine g_tableIn (off := 106) F 107 dX2_told_1 (by rw [hs_1_7]; decide) (by rw [hs_1_7]; decide) (by rw [hs_1_7]; rfl) (by decide) ?_
      refine g_aload_n F 0 dX2_told_107 rfl rfl ?_
      refine gf_7_8 F hi mFL_X2_36 dX2_told_108 ?_
      exact g_iret F hr hlk rfl dX2_told_111 (by rw [hs_1_7]; exact ⟨rfl, rfl⟩)
    · have hs_1_8 : x = 8 := by rw [ej_1, hq] <;> rfl
      refine g_tableIn (off := 111) F 112 dX2_told_1 (by rw [hs_1_8]; decide) (by rw [hs_1_8]; decide) (by rw [hs_1_8]; rfl) (by decide) ?_
      refine g_aload_n F 0 dX2_told_112 rfl rfl ?_
      refine gf_7_9 F hi mFL_X2_39 dX2_told_113 ?_
      exact g_iret F hr hlk rfl dX2_told_116 (by rw [hs_1_8]; exact ⟨rfl, rfl⟩)
    · have hs_1_9 : x = 9 := by rw [ej_1, hq] <;> rfl
      refine g_tableIn (off := 116) F 117 dX2_told_1 (by rw [hs_1_9]; decide) (by rw [hs_1_9]; decide) (by rw [hs_1_9]; rfl) (by decide) ?_
      refine g_aload_n F 0 dX2_told_117 rfl rfl ?_
      refine g_callIv (na := 0) F 7 _ (c_X2_blockNumber hj hi) hi rfl rfl lk_X2_74 rfl rfl (by decide +kernel) ⟨rfl, rfl, Nat.le_of_ble_eq_true rfl, Nat.le_of_ble_eq_true rfl, Nat.le_of_ble_eq_true rfl, Nat.le_of_ble_eq_true rfl, Nat.le_of_ble_eq_true rfl⟩ dX2_told_118 (fun r_118 u_118 h_118 => ?_)
      obtain ⟨rfl, rfl⟩ := h_118
      try dsimp only
      exact g_iret F hr hlk rfl dX2_told_121 (by rw [hs_1_9]; exact ⟨rfl, rfl⟩)
    · have hs_1_10 : x = 10 := by rw [ej_1, hq] <;> rfl
      refine g_tableIn (off := 121) F 122 dX2_told_1 (by rw [hs_1_10]; decide) (by rw [hs_1_10]; decide) (by rw [hs_1_10]; rfl) (by decide) ?_
      refine g_aload_n F 0 dX2_told_122 rfl rfl ?_
      refine gf_7_10 F hi mFL_X2_42 dX2_told_123 ?_
      exact g_iret F hr hlk rfl dX2_told_126 (by rw [hs_1_10]; exact ⟨rfl, rfl⟩)
    · have hs_1_11 : x = 11 := by rw [ej_1, hq] <;> rfl
      refine g_tableIn (off := 126) F 127 dX2_told_1 (by rw [hs_1_11]; decide) (by rw [hs_1_11]; decide) (by rw [hs_1_11]; rfl) (by decide) ?_
      refine g_aload_n F 0 dX2_told_127 rfl rfl ?_
      refine gf_7_6 F hi mFL_X2_30 dX2_told_128 ?_
      refine g_sipush (v := 1000) F dX2_told_131 (by decide) ?_
      refine g_iadd F dX2_told_134 ?_
      exact g_iret F hr hlk rfl dX2_told_135 (by rw [hs_1_11]; exact ⟨rfl, rfl⟩)
  · refine g_tableOut F 136 dX2_told_1 (by omega) (by decide) ?_
    refine g_bipush (v := -2) F dX2_told_136 (by decide) ?_
    exact g_iret F hr hlk rfl dX2_told_138 (by refine ⟨?_, rfl⟩; have hk : ∀ k : Int32, 0 ≤ k.toInt → k.toInt ≤ 11 → ¬ x = k := fun k h1 h2 h => hs_1 (by rw [h]; exact ⟨h1, h2⟩); simp only [toldL]; rw [if_neg (hk 0 (by decide) (by decide)), if_neg (hk 1 (by decide) (by decide)), if_neg (hk 2 (by decide) (by decide)), if_neg (hk 3 (by decide) (by decide)), if_neg (hk 4 (by decide) (by decide)), if_neg (hk 5 (by decide) (by decide)), if_neg (hk 6 (by decide) (by decide)), if_neg (hk 7 (by decide) (by decide)), if_neg (hk 8 (by decide) (by decide)), if_neg (hk 9 (by decide) (by decide)), if_neg (hk 10 (by decide) (by decide)), if_neg (hk 11 (by decide) (by decide))])
set_option maxHeartbeats 4000000 in
set_option maxRecDepth 100000 in
theorem c_X2_begin {l : Launch} {G : Gm} (hj : Aj G) {I : Ii} {pm : Pm} {i : Nat} (hi : i < 88) {a b c0 d : Int32} : CV l G yX2_begin (wz yX2_begin cX2_begin 5 none) (rmL 0) [.ref (G.2.2 7 i), .int a, .int b, .int c0, .int d] I pm (fun u => u = (beginI I i a b c0 d, pm)) := by
  refine CV.walk hj (by decide +kernel) (by show _ ≤ 5; exact Nat.le_of_ble_eq_true rfl) ?_
  intro p e s m args below meth c F hr hlk
  refine g_aload_n F 0 dX2_begin_0 rfl rfl ?_
  refine g_iload_n F 1 dX2_begin_1 rfl rfl ?_
  refine gp_7_0 F hi mFL_X2_9 dX2_begin_2 ?_
  refine g_aload_n F 0 dX2_begin_5 rfl rfl ?_
  refine g_iload_n F 2 dX2_begin_6 rfl rfl ?_
  refine gp_7_1 F hi mFL_X2_15 dX2_begin_7 ?_
  refine g_aload_n F 0 dX2_begin_10 rfl rfl ?_
  refine g_iload_n F 3 dX2_begin_11 rfl rfl ?_
  refine gp_7_2 F hi mFL_X2_18 dX2_begin_12 ?_
  refine g_aload_n F 0 dX2_begin_15 rfl rfl ?_
  refine g_iload F 4 dX2_begin_16 rfl ?_
  refine gp_7_3 F hi mFL_X2_21 dX2_begin_18 ?_
  refine g_aload_n F 0 dX2_begin_21 rfl rfl ?_
  refine g_iconst (v := 0) F dX2_begin_22 (by decide) ?_
  refine gp_7_4 F hi mFL_X2_24 dX2_begin_23 ?_
  refine g_aload_n F 0 dX2_begin_26 rfl rfl ?_
  refine g_iconst (v := 0) F dX2_begin_27 (by decide) ?_
  refine gp_7_5 F hi mFL_X2_27 dX2_begin_28 ?_
  refine g_aload_n F 0 dX2_begin_31 rfl rfl ?_
  refine g_iconst (v := 0) F dX2_begin_32 (by decide) ?_
  refine gp_7_6 F hi mFL_X2_30 dX2_begin_33 ?_
  refine g_aload_n F 0 dX2_begin_36 rfl rfl ?_
  refine g_iconst (v := 0) F dX2_begin_37 (by decide) ?_
  refine gp_7_7 F hi mFL_X2_33 dX2_begin_38 ?_
  refine g_aload_n F 0 dX2_begin_41 rfl rfl ?_
  refine g_iconst (v := 1) F dX2_begin_42 (by decide) ?_
  refine gp_7_8 F hi mFL_X2_36 dX2_begin_43 ?_
  refine g_aload_n F 0 dX2_begin_46 rfl rfl ?_
  refine g_iconst (v := 0) F dX2_begin_47 (by decide) ?_
  refine gp_7_9 F hi mFL_X2_39 dX2_begin_48 ?_
  refine g_aload_n F 0 dX2_begin_51 rfl rfl ?_
  refine g_iconst (v := 0) F dX2_begin_52 (by decide) ?_
  refine gp_7_10 F hi mFL_X2_42 dX2_begin_53 ?_
  refine g_vret F hr hlk dX2_begin_56 ?_
  exact rfl
set_option maxHeartbeats 4000000 in
set_option maxRecDepth 100000 in
theorem c_X2_copyFrom {l : Launch} {G : Gm} (hj : Aj G) {I : Ii} {pm : Pm} {i : Nat} (hi : i < 88) {i2 : Nat} (hi2 : i2 < 88) (hne : i2 ≠ i) : CV l G yX2_copyFrom (wz yX2_copyFrom cX2_copyFrom 2 none) (rmL 0) [.ref (G.2.2 7 i), .ref (G.2.2 7 i2)] I pm (fun u => u.2 = pm ∧ (∀ k, k < 11 → u.1 7 i k = I 7 i2 k) ∧ ∀ K n k, ¬ (K = 7 ∧ n = i) → u.1 K n k = I K n k) := by
  refine CV.walk hj (by decide +kernel) (by show _ ≤ 2; exact Nat.le_of_ble_eq_true rfl) ?_
  intro p e s m args below meth c F hr hlk
  refine g_aload_n F 0 dX2_copyFrom_0 rfl rfl ?_
  refine g_aload_n F 1 dX2_copyFrom_1 rfl rfl ?_
  refine gf_7_0 F hi2 mFL_X2_9 dX2_copyFrom_2 ?_
  refine g_eqi (y := I 7 i2 0) (by simp [up3, hne]) ?_
  refine gp_7_0 F hi mFL_X2_9 dX2_copyFrom_5 ?_
  refine g_aload_n F 0 dX2_copyFrom_8 rfl rfl ?_
  refine g_aload_n F 1 dX2_copyFrom_9 rfl rfl ?_
  refine gf_7_1 F hi2 mFL_X2_15 dX2_copyFrom_10 ?_
  refine g_eqi (y := I 7 i2 1) (by simp [up3, hne]) ?_
  refine gp_7_1 F hi mFL_X2_15 dX2_copyFrom_13 ?_
  refine g_aload_n F 0 dX2_copyFrom_16 rfl rfl ?_
  refine g_aload_n F 1 dX2_copyFrom_17 rfl rfl ?_
  refine gf_7_2 F hi2 mFL_X2_18 dX2_copyFrom_18 ?_
  refine g_eqi (y := I 7 i2 2) (by simp [up3, hne]) ?_
  refine gp_7_2 F hi mFL_X2_18 dX2_copyFrom_21 ?_
  refine g_aload_n F 0 dX2_copyFrom_24 rfl rfl ?_
  refine g_aload_n F 1 dX2_copyFrom_25 rfl rfl ?_
  refine gf_7_3 F hi2 mFL_X2_21 dX2_copyFrom_26 ?_
  refine g_eqi (y := I 7 i2 3) (by simp [up3, hne]) ?_
  refine gp_7_3 F hi mFL_X2_21 dX2_copyFrom_29 ?_
  refine g_aload_n F 0 dX2_copyFrom_32 rfl rfl ?_
  refine g_aload_n F 1 dX2_copyFrom_33 rfl rfl ?_
  refine gf_7_4 F hi2 mFL_X2_24 dX2_copyFrom_34 ?_
  refine g_eqi (y := I 7 i2 4) (by simp [up3, hne]) ?_
  refine gp_7_4 F hi mFL_X2_24 dX2_copyFrom_37 ?_
  refine g_aload_n F 0 dX2_copyFrom_40 rfl rfl ?_
  refine g_aload_n F 1 dX2_copyFrom_41 rfl rfl ?_
  refine gf_7_5 F hi2 mFL_X2_27 dX2_copyFrom_42 ?_
  refine g_eqi (y := I 7 i2 5) (by simp [up3, hne]) ?_
  refine gp_7_5 F hi mFL_X2_27 dX2_copyFrom_45 ?_
  refine g_aload_n F 0 dX2_copyFrom_48 rfl rfl ?_
  refine g_aload_n F 1 dX2_copyFrom_49 rfl rfl ?_
  refine gf_7_6 F hi2 mFL_X2_30 dX2_copyFrom_50 ?_
  refine g_eqi (y := I 7 i2 6) (by simp [up3, hne]) ?_
  refine gp_7_6 F hi mFL_X2_30 dX2_copyFrom_53 ?_
  refine g_aload_n F 0 dX2_copyFrom_56 rfl rfl ?_
  refine g_aload_n F 1 dX2_copyFrom_57 rfl rfl ?_
  refine gf_7_7 F hi2 mFL_X2_33 dX2_copyFrom_58 ?_
  refine g_eqi (y := I 7 i2 7) (by simp [up3, hne]) ?_
  refine gp_7_7 F hi mFL_X2_33 dX2_copyFrom_61 ?_
  refine g_aload_n F 0 dX2_copyFrom_64 rfl rfl ?_
  refine g_aload_n F 1 dX2_copyFrom_65 rfl rfl ?_
  refine gf_7_8 F hi2 mFL_X2_36 dX2_copyFrom_66 ?_
  refine g_eqi (y := I 7 i2 8) (by simp [up3, hne]) ?_
  refine gp_7_8 F hi mFL_X2_36 dX2_copyFrom_69 ?_
  refine g_aload_n F 0 dX2_copyFrom_72 rfl rfl ?_
  refine g_aload_n F 1 dX2_copyFrom_73 rfl rfl ?_
  refine gf_7_9 F hi2 mFL_X2_39 dX2_copyFrom_74 ?_
  refine g_eqi (y := I 7 i2 9) (by simp [up3, hne]) ?_
  refine gp_7_9 F hi mFL_X2_39 dX2_copyFrom_77 ?_
  refine g_aload_n F 0 dX2_copyFrom_80 rfl rfl ?_
  refine g_aload_n F 1 dX2_copyFrom_81 rfl rfl ?_
  refine gf_7_10 F hi2 mFL_X2_42 dX2_copyFrom_82 ?_
  refine g_eqi (y := I 7 i2 10) (by simp [up3, hne]) ?_
  refine gp_7_10 F hi mFL_X2_42 dX2_copyFrom_85 ?_
  refine g_vret F hr hlk dX2_copyFrom_88 ?_
  refine ⟨rfl, fun k hk => ?_, fun K n k h => ?_⟩
  · rcases (show k = 0 ∨ k = 1 ∨ k = 2 ∨ k = 3 ∨ k = 4 ∨ k = 5 ∨ k = 6 ∨ k = 7 ∨ k = 8 ∨ k = 9 ∨ k = 10 by omega) with rfl | rfl | rfl | rfl | rfl | rfl | rfl | rfl | rfl | rfl | rfl <;> simp [up3]
  · dsimp only
    repeat rw [up3_n (fun q => h ⟨q.1, q.2.1⟩)]
