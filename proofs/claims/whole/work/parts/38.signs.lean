/-! PART 38: the reference: signs are read -/
def MWr (I : Ii) (pl : Nat) (pad : Sg) (w : Bool × Nat) : Prop := MP I pl pad ∧ I 16 0 9 = nI w.2 ∧ I 16 0 10 = bz (w.1 = true) ∧ w.2 ≤ pl
def FW (I I' : Ii) : Prop := ∀ K i c, ¬ (K = 16 ∧ (c = 9 ∨ c = 10)) → I' K i c = I K i c
theorem FW.tr {I I1 I2 : Ii} (h1 : FW I I1) (h2 : FW I1 I2) : FW I I2 := fun K i c h => (h2 K i c h).trans (h1 K i c h)
theorem FW.a {I : Ii} {v : Int32} : FW I (up3 I 16 0 9 v) := fun K i c h => up3_n (fun e => h ⟨e.1, Or.inl e.2.2⟩)
theorem FW.b {I : Ii} {v : Int32} : FW I (up3 I 16 0 10 v) := fun K i c h => up3_n (fun e => h ⟨e.1, Or.inr e.2.2⟩)
theorem MP.fw {I I' : Ii} {pl : Nat} {pad : Sg} (P : MP I pl pad) (f : FW I I') : MP I' pl pad := ⟨(f 16 0 8 (by decide)).trans P.1, P.2.1, fun i hi => (f 22 0 i (by omega)).trans (P.2.2 i hi)⟩
theorem MWr.ok {I : Ii} {pl : Nat} {pad : Sg} {w : Bool × Nat} (W : MWr I pl pad w) {z : Int32} {b : Bool} (hz : z = bz (b = true)) : MWr (up3 I 16 0 10 z) pl pad (b, w.2) := ⟨W.1.fw FW.b, (up3_n (by decide)).trans W.2.1, up3_s.trans hz, W.2.2.2⟩
theorem MWr.at_ {I : Ii} {pl : Nat} {pad : Sg} {w : Bool × Nat} (W : MWr I pl pad w) {z : Int32} {q : Nat} (hz : z = nI q) (hq : q ≤ pl) : MWr (up3 I 16 0 9 z) pl pad (w.1, q) := ⟨W.1.fw FW.a, up3_s.trans hz, (up3_n (by decide)).trans W.2.2.1, hq⟩
/-- a reader's step: what it comes to -/
def RD (I : Ii) (pm : Pm) (σ : Sg) (u : Ii × Pm) (pl : Nat) (pad : Sg) (w : Bool × Nat) : Prop := ∃ ia, u = (upR ia 17 0 σ, pm) ∧ MWr ia pl pad w ∧ FW I ia
theorem RD.t {I : Ii} {pm : Pm} {σ : Sg} {pl tp : Nat} {pad : Sg} {b : Bool} {w : Bool × Nat} (W : MWr I pl pad (b, tp)) (hw : w = (true, tp + 1)) (hq : tp + 1 ≤ pl) : RD I pm σ (upR (up3 (up3 I 16 0 10 1) 16 0 9 (nI tp + (if (1 : Int32) = 0 then 0 else 1))) 17 0 σ, pm) pl pad w := by
  subst hw
  exact ⟨_, rfl, (W.ok (b := true) (z := 1) rfl).at_ (q := tp + 1) (nI_1 tp) hq, FW.b.tr FW.a⟩
theorem RD.f {I : Ii} {pm : Pm} {σ : Sg} {pl tp : Nat} {pad : Sg} {b : Bool} {w : Bool × Nat} (W : MWr I pl pad (b, tp)) (hw : w = (false, tp)) : RD I pm σ (upR (up3 (up3 I 16 0 10 0) 16 0 9 (nI tp + (if (0 : Int32) = 0 then 0 else 1))) 17 0 σ, pm) pl pad w := by
  subst hw
  exact ⟨_, rfl, (W.ok (b := false) (z := 0) rfl).at_ (q := tp) (by show nI tp + 0 = nI tp; rw [Int32.add_zero]) W.2.2.2, FW.b.tr FW.a⟩
theorem thn_no {p : Nat} {f : Nat → Bool × Nat} : thn (false, p) f = (false, p) := rfl
theorem thn_ye {p : Nat} {f : Nat → Bool × Nat} : thn (true, p) f = f p := rfl
theorem dg_nm {pl : Nat} {pad : Sg} {p : Nat} : (dgT pl pad 9 p).1 = (nmT pl pad p).1 := by
  unfold dgT nmT
  rw [show (48 : Int32) + 9 = 57 from rfl]
  by_cases c : 48 ≤ sgT pl pad p ∧ sgT pl pad p ≤ 57
  · rw [if_pos c, if_pos c]
  · rw [if_neg c, if_neg c]

set_option maxHeartbeats 4000000 in
set_option maxRecDepth 100000 in
theorem c_X6_sign {l : Launch} {G : Gm} (hj : Aj G) {I : Ii} {pm : Pm} {σ : Sg} {pl : Nat} {pad : Sg} {b : Bool} {tp : Nat} (W : MWr I pl pad (b, tp)) : CI l G yX6_sign (wz yX6_sign cX6_sign 1 (some .int)) (rmL 0) [.ref (G.2.2 16 0)] (upR I 17 0 σ) pm (fun r u => r = sgT pl pad tp ∧ u = (upR I 17 0 σ, pm)) := by
  have h80 := W.1.2.1
  have htp : tp ≤ pl := W.2.2.2
  refine CI.walk hj (by decide +kernel) (by show _ ≤ 1; exact Nat.le_of_ble_eq_true rfl) ?_
  intro p e s m args below meth c F hr hlk
  refine g_aload_n F 0 dX6_sign_0 rfl rfl ?_
  refine gf_16_9 F (by decide) mFL_X6_132 dX6_sign_1 ?_
  refine g_eqi (rd16 (by decide)) ?_
  refine g_aload_n F 0 dX6_sign_4 rfl rfl ?_
  refine gf_16_8 F (by decide) mFL_X6_121 dX6_sign_5 ?_
  refine g_eqi (rd16 (by decide)) ?_
  refine g_icmp_ge F 23 dX6_sign_8 (by decide) (fun c_8 => ?_) (fun c_8 => ?_)
  · have n_8 := nx_get (a := tp) (b := pl) W.2.1 W.1.1 (by omega) (by omega) c_8
    refine g_iconst (v := 0) F dX6_sign_23 (by decide) ?_
    refine g_iret F hr hlk rfl dX6_sign_24 ?_
    exact ⟨by unfold sgT; rw [if_neg (by omega)], rfl⟩
  · have n_8 := nx_gef (a := tp) (b := pl) W.2.1 W.1.1 (by omega) (by omega) c_8
    refine g_aload_n F 0 dX6_sign_11 rfl rfl ?_
    refine gf_16_7 F (by decide) mFL_X6_26 dX6_sign_12 ?_
    refine g_aload_n F 0 dX6_sign_15 rfl rfl ?_
    refine gf_16_9 F (by decide) mFL_X6_132 dX6_sign_16 ?_
    refine g_eqi (rd16 (by decide)) ?_
    refine ga_22 (j := tp) F (by decide) W.2.1 (by omega) dX6_sign_19 ?_
    refine g_eqi (rd16 (by decide)) ?_
    refine g_goto F 24 dX6_sign_20 (by decide) ?_
    refine g_iret F hr hlk rfl dX6_sign_24 ?_
    exact ⟨by unfold sgT; rw [if_pos (by omega)]; exact W.1.2.2 tp (by omega), rfl⟩
set_option maxHeartbeats 4000000 in
set_option maxRecDepth 100000 in
theorem c_X6_wants {l : Launch} {G : Gm} (hj : Aj G) {I : Ii} {pm : Pm} {σ : Sg} {pl : Nat} {pad : Sg} {b : Bool} {tp : Nat} (W : MWr I pl pad (b, tp)) {x : Int32} (hx : x ≠ 0) : CV l G yX6_wants (wz yX6_wants cX6_wants 2 none) (rmL 1) [.ref (G.2.2 16 0), .int x] (upR I 17 0 σ) pm (fun u => RD I pm σ u pl pad (thn (b, tp) (chT pl pad x))) := by
  refine CV.walk hj (by decide +kernel) (by show _ ≤ 2; exact Nat.le_of_ble_eq_true rfl) ?_
  intro p e s m args below meth c F hr hlk
  refine g_aload_n F 0 dX6_wants_0 rfl rfl ?_
  refine g_aload_n F 0 dX6_wants_1 rfl rfl ?_
  refine gf_16_10 F (by decide) mFL_X6_135 dX6_wants_2 ?_
  refine g_eqi (rd16 (by decide)) ?_
  refine g_eqi W.2.2.1 ?_
  refine g_if_eq F 20 dX6_wants_5 (by decide) (fun c_5 => ?_) (fun c_5 => ?_)
  · have B : b = false := by
      cases b
      · rfl
      · exact absurd rfl (bz_0.mp c_5)
    have E : thn (b, tp) (chT pl pad x) = (false, tp) := by rw [B]; rfl
    refine g_iconst (v := 0) F dX6_wants_20 (by decide) ?_
    refine gp_16_10 F (by decide) mFL_X6_135 (by decide) (by decide) dX6_wants_21 ?_
    refine g_I (wr16 (by decide)) ?_
    refine g_aload_n F 0 dX6_wants_24 rfl rfl ?_
    refine g_dup F dX6_wants_25 rfl ?_
    refine gf_16_9 F (by decide) mFL_X6_132 dX6_wants_26 ?_
    refine g_eqi (rd16 (by decide)) ?_
    refine g_eqi ((up3_n (by decide)).trans W.2.1) ?_
    refine g_aload_n F 0 dX6_wants_29 rfl rfl ?_
    refine gf_16_10 F (by decide) mFL_X6_135 dX6_wants_30 ?_
    refine g_eqi (rd16 (by decide)) ?_
    refine g_eqi up3_s ?_
    refine g_tif_eq (0) (1) 41 (fun kt kf => ?_) ?_
    · refine g_if_eq F 40 dX6_wants_33 (by decide) (fun q => ?_) (fun q => ?_)
      · refine g_iconst (v := 0) F dX6_wants_40 (by decide) ?_
        exact kt q
      · refine g_iconst (v := 1) F dX6_wants_36 (by decide) ?_
        refine g_goto F 41 dX6_wants_37 (by decide) ?_
        exact kf (by first | exact q | exact not_not_intro q)
    refine g_iadd F dX6_wants_41 ?_
    refine gp_16_9 F (by decide) mFL_X6_132 dX6_wants_42 ?_
    refine g_I (wr16 (by decide)) ?_
    refine g_vret F hr hlk dX6_wants_45 ?_
    first
    | exact RD.f W E
    | exact RD.t W E (by omega)
  · have B : b = true := bz_n.mp c_5
    refine g_aload_n F 0 dX6_wants_8 rfl rfl ?_
    refine g_callIv (na := 0) F 16 _ (c_X6_sign hj W) (by decide) rfl rfl lk_X6_139 rfl rfl (by decide +kernel) ⟨rfl, rfl, Nat.le_of_ble_eq_true rfl, Nat.le_of_ble_eq_true rfl, Nat.le_of_ble_eq_true rfl, Nat.le_of_ble_eq_true rfl, Nat.le_of_ble_eq_true rfl⟩ dX6_wants_9 (fun r_9 u_9 h_9 => ?_)
    obtain ⟨rfl, rfl⟩ := h_9
    try dsimp only
    refine g_iload_n F 1 dX6_wants_12 rfl rfl ?_
    refine g_icmp_ne F 20 dX6_wants_13 (by decide) (fun c_13 => ?_) (fun c_13 => ?_)
    · have E : thn (b, tp) (chT pl pad x) = (false, tp) := by rw [B, thn_ye]; unfold chT; rw [if_neg c_13]
      refine g_iconst (v := 0) F dX6_wants_20 (by decide) ?_
      refine gp_16_10 F (by decide) mFL_X6_135 (by decide) (by decide) dX6_wants_21 ?_
      refine g_I (wr16 (by decide)) ?_
      refine g_aload_n F 0 dX6_wants_24 rfl rfl ?_
      refine g_dup F dX6_wants_25 rfl ?_
      refine gf_16_9 F (by decide) mFL_X6_132 dX6_wants_26 ?_
      refine g_eqi (rd16 (by decide)) ?_
      refine g_eqi ((up3_n (by decide)).trans W.2.1) ?_
      refine g_aload_n F 0 dX6_wants_29 rfl rfl ?_
      refine gf_16_10 F (by decide) mFL_X6_135 dX6_wants_30 ?_
      refine g_eqi (rd16 (by decide)) ?_
      refine g_eqi up3_s ?_
      refine g_tif_eq (0) (1) 41 (fun kt kf => ?_) ?_
      · refine g_if_eq F 40 dX6_wants_33 (by decide) (fun q => ?_) (fun q => ?_)
        · refine g_iconst (v := 0) F dX6_wants_40 (by decide) ?_
          exact kt q
        · refine g_iconst (v := 1) F dX6_wants_36 (by decide) ?_
          refine g_goto F 41 dX6_wants_37 (by decide) ?_
          exact kf (by first | exact q | exact not_not_intro q)
      refine g_iadd F dX6_wants_41 ?_
      refine gp_16_9 F (by decide) mFL_X6_132 dX6_wants_42 ?_
      refine g_I (wr16 (by decide)) ?_
      refine g_vret F hr hlk dX6_wants_45 ?_
      first
      | exact RD.f W E
      | exact RD.t W E (by omega)
    · have E : thn (b, tp) (chT pl pad x) = (true, tp + 1) := by rw [B, thn_ye]; unfold chT; rw [if_pos c_13]
      have L := sg_in c_13 hx
      refine g_iconst (v := 1) F dX6_wants_16 (by decide) ?_
      refine g_goto F 21 dX6_wants_17 (by decide) ?_
      refine gp_16_10 F (by decide) mFL_X6_135 (by decide) (by decide) dX6_wants_21 ?_
      refine g_I (wr16 (by decide)) ?_
      refine g_aload_n F 0 dX6_wants_24 rfl rfl ?_
      refine g_dup F dX6_wants_25 rfl ?_
      refine gf_16_9 F (by decide) mFL_X6_132 dX6_wants_26 ?_
      refine g_eqi (rd16 (by decide)) ?_
      refine g_eqi ((up3_n (by decide)).trans W.2.1) ?_
      refine g_aload_n F 0 dX6_wants_29 rfl rfl ?_
      refine gf_16_10 F (by decide) mFL_X6_135 dX6_wants_30 ?_
      refine g_eqi (rd16 (by decide)) ?_
      refine g_eqi up3_s ?_
      refine g_tif_eq (0) (1) 41 (fun kt kf => ?_) ?_
      · refine g_if_eq F 40 dX6_wants_33 (by decide) (fun q => ?_) (fun q => ?_)
        · refine g_iconst (v := 0) F dX6_wants_40 (by decide) ?_
          exact kt q
        · refine g_iconst (v := 1) F dX6_wants_36 (by decide) ?_
          refine g_goto F 41 dX6_wants_37 (by decide) ?_
          exact kf (by first | exact q | exact not_not_intro q)
      refine g_iadd F dX6_wants_41 ?_
      refine gp_16_9 F (by decide) mFL_X6_132 dX6_wants_42 ?_
      refine g_I (wr16 (by decide)) ?_
      refine g_vret F hr hlk dX6_wants_45 ?_
      first
      | exact RD.f W E
      | exact RD.t W E (by omega)
set_option maxHeartbeats 4000000 in
set_option maxRecDepth 100000 in
theorem c_X6_digit {l : Launch} {G : Gm} (hj : Aj G) {I : Ii} {pm : Pm} {σ : Sg} {pl : Nat} {pad : Sg} {b : Bool} {tp : Nat} (W : MWr I pl pad (b, tp)) {x : Int32} : CI l G yX6_digit (wz yX6_digit cX6_digit 3 (some .int)) (rmL 1) [.ref (G.2.2 16 0), .int x] (upR I 17 0 σ) pm (fun r u => r = sgT pl pad tp - 48 ∧ RD I pm σ u pl pad (thn (b, tp) (dgT pl pad x))) := by
  refine CI.walk hj (by decide +kernel) (by show _ ≤ 3; exact Nat.le_of_ble_eq_true rfl) ?_
  intro p e s m args below meth c F hr hlk
  refine g_aload_n F 0 dX6_digit_0 rfl rfl ?_
  refine g_aload_n F 0 dX6_digit_1 rfl rfl ?_
  refine gf_16_10 F (by decide) mFL_X6_135 dX6_digit_2 ?_
  refine g_eqi (rd16 (by decide)) ?_
  refine g_eqi W.2.2.1 ?_
  refine g_if_eq F 28 dX6_digit_5 (by decide) (fun c_5 => ?_) (fun c_5 => ?_)
  · have B : b = false := by
      cases b
      · rfl
      · exact absurd rfl (bz_0.mp c_5)
    have E : thn (b, tp) (dgT pl pad x) = (false, tp) := by rw [B]; rfl
    have ZB : (0 : Int32) = bz (false = true) := rfl
    refine g_iconst (v := 0) F dX6_digit_28 (by decide) ?_
    refine gp_16_10 F (by decide) mFL_X6_135 (by decide) (by decide) dX6_digit_29 ?_
    refine g_I (wr16 (by decide)) ?_
    refine g_aload_n F 0 dX6_digit_32 rfl rfl ?_
    refine g_callIv (na := 0) F 16 _ (c_X6_sign hj (W.ok ZB)) (by decide) rfl rfl lk_X6_139 rfl rfl (by decide +kernel) ⟨rfl, rfl, Nat.le_of_ble_eq_true rfl, Nat.le_of_ble_eq_true rfl, Nat.le_of_ble_eq_true rfl, Nat.le_of_ble_eq_true rfl, Nat.le_of_ble_eq_true rfl⟩ dX6_digit_33 (fun r_33 u_33 h_33 => ?_)
    obtain ⟨rfl, rfl⟩ := h_33
    try dsimp only
    refine g_bipush (v := 48) F dX6_digit_36 (by decide) ?_
    refine g_isub F dX6_digit_38 ?_
    refine g_topi (fun x2_39 ex2_39 => ?_)
    refine g_istore_n (L' := [(2, _), (0, _), (1, _)]) F dX6_digit_39 rfl (by decide) rfl ?_
    refine g_aload_n F 1 dX6_digit_40 rfl rfl ?_
    refine g_dup F dX6_digit_41 rfl ?_
    refine gf_16_9 F (by decide) mFL_X6_132 dX6_digit_42 ?_
    refine g_eqi (rd16 (by decide)) ?_
    refine g_eqi ((up3_n (by decide)).trans W.2.1) ?_
    refine g_aload_n F 1 dX6_digit_45 rfl rfl ?_
    refine gf_16_10 F (by decide) mFL_X6_135 dX6_digit_46 ?_
    refine g_eqi (rd16 (by decide)) ?_
    refine g_eqi up3_s ?_
    refine g_tif_eq (0) (1) 57 (fun kt kf => ?_) ?_
    · refine g_if_eq F 56 dX6_digit_49 (by decide) (fun q => ?_) (fun q => ?_)
      · refine g_iconst (v := 0) F dX6_digit_56 (by decide) ?_
        exact kt q
      · refine g_iconst (v := 1) F dX6_digit_52 (by decide) ?_
        refine g_goto F 57 dX6_digit_53 (by decide) ?_
        exact kf (by first | exact q | exact not_not_intro q)
    refine g_iadd F dX6_digit_57 ?_
    refine gp_16_9 F (by decide) mFL_X6_132 dX6_digit_58 ?_
    refine g_I (wr16 (by decide)) ?_
    refine g_iload_n F 0 dX6_digit_61 rfl rfl ?_
    refine g_iret F hr hlk rfl dX6_digit_62 ?_
    first
    | exact ⟨by first | exact ex2_39 | rfl, RD.f W E⟩
    | exact ⟨by first | exact ex2_39 | rfl, RD.t W E (by omega)⟩
  · have B : b = true := bz_n.mp c_5
    refine g_aload_n F 0 dX6_digit_8 rfl rfl ?_
    refine g_callIv (na := 0) F 16 _ (c_X6_sign hj W) (by decide) rfl rfl lk_X6_139 rfl rfl (by decide +kernel) ⟨rfl, rfl, Nat.le_of_ble_eq_true rfl, Nat.le_of_ble_eq_true rfl, Nat.le_of_ble_eq_true rfl, Nat.le_of_ble_eq_true rfl, Nat.le_of_ble_eq_true rfl⟩ dX6_digit_9 (fun r_9 u_9 h_9 => ?_)
    obtain ⟨rfl, rfl⟩ := h_9
    try dsimp only
    refine g_bipush (v := 48) F dX6_digit_12 (by decide) ?_
    refine g_bipush (v := 48) F dX6_digit_14 (by decide) ?_
    refine g_iload_n F 1 dX6_digit_16 rfl rfl ?_
    refine g_iadd F dX6_digit_17 ?_
    refine g_callIs (na := 3) F (c_X6_in hj) lk_X6_54 rfl rfl (by decide +kernel) ⟨rfl, rfl, Nat.le_of_ble_eq_true rfl, Nat.le_of_ble_eq_true rfl, Nat.le_of_ble_eq_true rfl, Nat.le_of_ble_eq_true rfl, Nat.le_of_ble_eq_true rfl⟩ dX6_digit_18 (fun r_18 u_18 h_18 => ?_)
    obtain ⟨rfl, rfl⟩ := h_18
    try dsimp only
    refine g_if_eq F 28 dX6_digit_21 (by decide) (fun c_21 => ?_) (fun c_21 => ?_)
    · have E : thn (b, tp) (dgT pl pad x) = (false, tp) := by rw [B, thn_ye]; unfold dgT; rw [if_neg (bz_0.mp c_21)]
      have ZB : (0 : Int32) = bz (false = true) := rfl
      refine g_iconst (v := 0) F dX6_digit_28 (by decide) ?_
      refine gp_16_10 F (by decide) mFL_X6_135 (by decide) (by decide) dX6_digit_29 ?_
      refine g_I (wr16 (by decide)) ?_
      refine g_aload_n F 0 dX6_digit_32 rfl rfl ?_
      refine g_callIv (na := 0) F 16 _ (c_X6_sign hj (W.ok ZB)) (by decide) rfl rfl lk_X6_139 rfl rfl (by decide +kernel) ⟨rfl, rfl, Nat.le_of_ble_eq_true rfl, Nat.le_of_ble_eq_true rfl, Nat.le_of_ble_eq_true rfl, Nat.le_of_ble_eq_true rfl, Nat.le_of_ble_eq_true rfl⟩ dX6_digit_33 (fun r_33 u_33 h_33 => ?_)
      obtain ⟨rfl, rfl⟩ := h_33
      try dsimp only
      refine g_bipush (v := 48) F dX6_digit_36 (by decide) ?_
      refine g_isub F dX6_digit_38 ?_
      refine g_topi (fun x2_39 ex2_39 => ?_)
      refine g_istore_n (L' := [(2, _), (0, _), (1, _)]) F dX6_digit_39 rfl (by decide) rfl ?_
      refine g_aload_n F 1 dX6_digit_40 rfl rfl ?_
      refine g_dup F dX6_digit_41 rfl ?_
      refine gf_16_9 F (by decide) mFL_X6_132 dX6_digit_42 ?_
      refine g_eqi (rd16 (by decide)) ?_
      refine g_eqi ((up3_n (by decide)).trans W.2.1) ?_
      refine g_aload_n F 1 dX6_digit_45 rfl rfl ?_
      refine gf_16_10 F (by decide) mFL_X6_135 dX6_digit_46 ?_
      refine g_eqi (rd16 (by decide)) ?_
      refine g_eqi up3_s ?_
      refine g_tif_eq (0) (1) 57 (fun kt kf => ?_) ?_
      · refine g_if_eq F 56 dX6_digit_49 (by decide) (fun q => ?_) (fun q => ?_)
        · refine g_iconst (v := 0) F dX6_digit_56 (by decide) ?_
          exact kt q
        · refine g_iconst (v := 1) F dX6_digit_52 (by decide) ?_
          refine g_goto F 57 dX6_digit_53 (by decide) ?_
          exact kf (by first | exact q | exact not_not_intro q)
      refine g_iadd F dX6_digit_57 ?_
      refine gp_16_9 F (by decide) mFL_X6_132 dX6_digit_58 ?_
      refine g_I (wr16 (by decide)) ?_
      refine g_iload_n F 0 dX6_digit_61 rfl rfl ?_
      refine g_iret F hr hlk rfl dX6_digit_62 ?_
      first
      | exact ⟨by first | exact ex2_39 | rfl, RD.f W E⟩
      | exact ⟨by first | exact ex2_39 | rfl, RD.t W E (by omega)⟩
    · have E : thn (b, tp) (dgT pl pad x) = (true, tp + 1) := by rw [B, thn_ye]; unfold dgT; rw [if_pos (bz_n.mp c_21)]
      have L := dig_in (bz_n.mp c_21).1
      have ZB : (1 : Int32) = bz (true = true) := rfl
      refine g_iconst (v := 1) F dX6_digit_24 (by decide) ?_
      refine g_goto F 29 dX6_digit_25 (by decide) ?_
      refine gp_16_10 F (by decide) mFL_X6_135 (by decide) (by decide) dX6_digit_29 ?_
      refine g_I (wr16 (by decide)) ?_
      refine g_aload_n F 0 dX6_digit_32 rfl rfl ?_
      refine g_callIv (na := 0) F 16 _ (c_X6_sign hj (W.ok ZB)) (by decide) rfl rfl lk_X6_139 rfl rfl (by decide +kernel) ⟨rfl, rfl, Nat.le_of_ble_eq_true rfl, Nat.le_of_ble_eq_true rfl, Nat.le_of_ble_eq_true rfl, Nat.le_of_ble_eq_true rfl, Nat.le_of_ble_eq_true rfl⟩ dX6_digit_33 (fun r_33 u_33 h_33 => ?_)
      obtain ⟨rfl, rfl⟩ := h_33
      try dsimp only
      refine g_bipush (v := 48) F dX6_digit_36 (by decide) ?_
      refine g_isub F dX6_digit_38 ?_
      refine g_topi (fun x2_39 ex2_39 => ?_)
      refine g_istore_n (L' := [(2, _), (0, _), (1, _)]) F dX6_digit_39 rfl (by decide) rfl ?_
      refine g_aload_n F 1 dX6_digit_40 rfl rfl ?_
      refine g_dup F dX6_digit_41 rfl ?_
      refine gf_16_9 F (by decide) mFL_X6_132 dX6_digit_42 ?_
      refine g_eqi (rd16 (by decide)) ?_
      refine g_eqi ((up3_n (by decide)).trans W.2.1) ?_
      refine g_aload_n F 1 dX6_digit_45 rfl rfl ?_
      refine gf_16_10 F (by decide) mFL_X6_135 dX6_digit_46 ?_
      refine g_eqi (rd16 (by decide)) ?_
      refine g_eqi up3_s ?_
      refine g_tif_eq (0) (1) 57 (fun kt kf => ?_) ?_
      · refine g_if_eq F 56 dX6_digit_49 (by decide) (fun q => ?_) (fun q => ?_)
        · refine g_iconst (v := 0) F dX6_digit_56 (by decide) ?_
          exact kt q
        · refine g_iconst (v := 1) F dX6_digit_52 (by decide) ?_
          refine g_goto F 57 dX6_digit_53 (by decide) ?_
          exact kf (by first | exact q | exact not_not_intro q)
      refine g_iadd F dX6_digit_57 ?_
      refine gp_16_9 F (by decide) mFL_X6_132 dX6_digit_58 ?_
      refine g_I (wr16 (by decide)) ?_
      refine g_iload_n F 0 dX6_digit_61 rfl rfl ?_
      refine g_iret F hr hlk rfl dX6_digit_62 ?_
      first
      | exact ⟨by first | exact ex2_39 | rfl, RD.f W E⟩
      | exact ⟨by first | exact ex2_39 | rfl, RD.t W E (by omega)⟩
set_option maxHeartbeats 4000000 in
set_option maxRecDepth 100000 in
theorem c_X6_number {l : Launch} {G : Gm} (hj : Aj G) {I : Ii} {pm : Pm} {σ : Sg} {pl : Nat} {pad : Sg} {b : Bool} {tp : Nat} (W : MWr I pl pad (b, tp)) : CI l G yX6_number (wz yX6_number cX6_number 3 (some .int)) (rmL 2) [.ref (G.2.2 16 0)] (upR I 17 0 σ) pm (fun r u => RD I pm σ u pl pad (thn (b, tp) (nmT pl pad)) ∧ ((thn (b, tp) (nmT pl pad)).1 = true → r = nmV pl pad tp)) := by
  refine CI.walk hj (by decide +kernel) (by show _ ≤ 3; exact Nat.le_of_ble_eq_true rfl) ?_
  intro p e s m args below meth c F hr hlk
  have h80 := W.1.2.1
  have EXF : ∀ ia v xj, xj = 1 → MWr ia pl pad (false, tp) → FW I ia → thn (b, tp) (nmT pl pad) = (false, tp) → GG p l e (rmL 2) s m args below meth c G (AA G) 3 0 0 (MQ below (va_Qi (fun (r : Int32) (u : Ii × Pm) => RD I pm σ u pl pad (thn (b, tp) (nmT pl pad)) ∧ ((thn (b, tp) (nmT pl pad)).1 = true → r = nmV pl pad tp)) (fun (u : Ii × Pm) t => Wd G u.1 u.2 t.heap) (AA G)) args s 0 0 (AA G)) (upR ia 17 0 σ) pm [(0, .ref (G.2.2 16 0)), (1, .int v), (2, .int xj)] 9 [] := by
    intro ia v xj ej W2 f E
    refine g_iload_n F 2 dX6_number_9 rfl rfl ?_
    refine g_iconst (v := 3) F dX6_number_10 (by decide) ?_
    refine g_icmp_ge F 68 dX6_number_11 (by decide) (fun c_11 => ?_) (fun c_11 => ?_)
    · have n_11 := nx_get (a := 1) (b := 3) ej rfl (by omega) (by omega) c_11
      omega
    · have n_11 := nx_gef (a := 1) (b := 3) ej rfl (by omega) (by omega) c_11
      refine g_aload_n F 0 dX6_number_14 rfl rfl ?_
      refine gf_16_10 F (by decide) mFL_X6_135 dX6_number_15 ?_
      refine g_eqi (rd16 (by decide)) ?_
      refine g_eqi W2.2.2.1 ?_
      refine g_if_eq F 68 dX6_number_18 (by decide) (fun c_18 => ?_) (fun c_18 => ?_)
      · refine g_iload_n F 1 dX6_number_68 rfl rfl ?_
        refine g_iret F hr hlk rfl dX6_number_69 ?_
        exact ⟨⟨ia, rfl, by rw [E]; exact W2, f⟩, fun h => absurd (by rw [E] at h; exact h) Bool.false_ne_true⟩
      · exact absurd (bz_n.mp c_18) Bool.false_ne_true
  have LOOP : b = true → (nmT pl pad tp).1 = true → ∀ j, j ≤ 2 → ∀ ia v xj q, xj = nI (j + 1) → MWr ia pl pad (true, q) → FW I ia → nmI pl pad 2 (sgT pl pad tp - 48, tp + 1) = nmI pl pad (2 - j) (v, q) → GG p l e (rmL 2) s m args below meth c G (AA G) 3 0 0 (MQ below (va_Qi (fun (r : Int32) (u : Ii × Pm) => RD I pm σ u pl pad (thn (b, tp) (nmT pl pad)) ∧ ((thn (b, tp) (nmT pl pad)).1 = true → r = nmV pl pad tp)) (fun (u : Ii × Pm) t => Wd G u.1 u.2 t.heap) (AA G)) args s 0 0 (AA G)) (upR ia 17 0 σ) pm [(0, .ref (G.2.2 16 0)), (1, .int v), (2, .int xj)] 9 [] := by
    intro hb hok
    refine dn_ind ?_
    intro j hj2 ih ia v xj q ej W2 f hI
    have FINI : nmI pl pad (2 - j) (v, q) = (v, q) → RD I pm σ (upR ia 17 0 σ, pm) pl pad (thn (b, tp) (nmT pl pad)) ∧ ((thn (b, tp) (nmT pl pad)).1 = true → v = nmV pl pad tp) := fun EE => by
      have HH := hI.trans EE
      have kk := nmT_ok hok
      have ev : nmV pl pad tp = v := by unfold nmV; rw [HH]
      have ex : (nmT pl pad tp).2 = q := by rw [kk.2.2.2.1, HH]
      have et : thn (b, tp) (nmT pl pad) = (true, q) := by
        rw [hb, thn_ye]
        exact Prod.ext hok ex
      rw [et]
      exact ⟨⟨ia, rfl, W2, f⟩, fun _ => ev.symm⟩
    refine g_iload_n F 2 dX6_number_9 rfl rfl ?_
    refine g_iconst (v := 3) F dX6_number_10 (by decide) ?_
    refine g_icmp_ge F 68 dX6_number_11 (by decide) (fun c_11 => ?_) (fun c_11 => ?_)
    · have n_11 := nx_get (a := (j + 1)) (b := 3) ej rfl (by omega) (by omega) c_11
      have EE : nmI pl pad (2 - j) (v, q) = (v, q) := by rw [show 2 - j = 0 by omega]; rfl
      refine g_iload_n F 1 dX6_number_68 rfl rfl ?_
      refine g_iret F hr hlk rfl dX6_number_69 ?_
      exact FINI EE
    · have n_11 := nx_gef (a := (j + 1)) (b := 3) ej rfl (by omega) (by omega) c_11
      refine g_aload_n F 0 dX6_number_14 rfl rfl ?_
      refine gf_16_10 F (by decide) mFL_X6_135 dX6_number_15 ?_
      refine g_eqi (rd16 (by decide)) ?_
      refine g_eqi W2.2.2.1 ?_
      refine g_if_eq F 68 dX6_number_18 (by decide) (fun c_18 => ?_) (fun c_18 => ?_)
      · exact absurd rfl (bz_0.mp c_18)
      · refine g_iload_n F 1 dX6_number_21 rfl rfl ?_
        refine g_if_le F 68 dX6_number_22 (by decide) (fun c_22 => ?_) (fun c_22 => ?_)
        · have EE : nmI pl pad (2 - j) (v, q) = (v, q) := by rw [show 2 - j = (1 - j) + 1 by omega]; exact if_neg (fun z => absurd z.1 (Int32.not_lt.mpr c_22))
          refine g_iload_n F 1 dX6_number_68 rfl rfl ?_
          refine g_iret F hr hlk rfl dX6_number_69 ?_
          exact FINI EE
        · refine g_aload_n F 0 dX6_number_25 rfl rfl ?_
          refine g_callIv (na := 0) F 16 _ (c_X6_sign hj W2) (by decide) rfl rfl lk_X6_139 rfl rfl (by decide +kernel) ⟨rfl, rfl, Nat.le_of_ble_eq_true rfl, Nat.le_of_ble_eq_true rfl, Nat.le_of_ble_eq_true rfl, Nat.le_of_ble_eq_true rfl, Nat.le_of_ble_eq_true rfl⟩ dX6_number_26 (fun r_26 u_26 h_26 => ?_)
          obtain ⟨rfl, rfl⟩ := h_26
          try dsimp only
          refine g_bipush (v := 48) F dX6_number_29 (by decide) ?_
          refine g_bipush (v := 57) F dX6_number_31 (by decide) ?_
          refine g_callIs (na := 3) F (c_X6_in hj) lk_X6_54 rfl rfl (by decide +kernel) ⟨rfl, rfl, Nat.le_of_ble_eq_true rfl, Nat.le_of_ble_eq_true rfl, Nat.le_of_ble_eq_true rfl, Nat.le_of_ble_eq_true rfl, Nat.le_of_ble_eq_true rfl⟩ dX6_number_33 (fun r_33 u_33 h_33 => ?_)
          obtain ⟨rfl, rfl⟩ := h_33
          try dsimp only
          refine g_if_eq F 68 dX6_number_36 (by decide) (fun c_36 => ?_) (fun c_36 => ?_)
          · have EE : nmI pl pad (2 - j) (v, q) = (v, q) := by rw [show 2 - j = (1 - j) + 1 by omega]; exact if_neg (fun z => bz_0.mp c_36 z.2)
            refine g_iload_n F 1 dX6_number_68 rfl rfl ?_
            refine g_iret F hr hlk rfl dX6_number_69 ?_
            exact FINI EE
          · have E2 : nmI pl pad (2 - j) (v, q) = nmI pl pad (1 - j) (10 * v + sgT pl pad q - 48, q + 1) := by rw [show 2 - j = (1 - j) + 1 by omega]; exact if_pos ⟨Int32.not_le.mp c_22, bz_n.mp c_36⟩
            have hq2 : q < pl := dig_in (bz_n.mp c_36).1
            refine g_bipush (v := 10) F dX6_number_39 (by decide) ?_
            refine g_iload_n F 1 dX6_number_41 rfl rfl ?_
            refine g_imul F dX6_number_42 ?_
            refine g_aload_n F 0 dX6_number_43 rfl rfl ?_
            refine g_callIv (na := 0) F 16 _ (c_X6_sign hj W2) (by decide) rfl rfl lk_X6_139 rfl rfl (by decide +kernel) ⟨rfl, rfl, Nat.le_of_ble_eq_true rfl, Nat.le_of_ble_eq_true rfl, Nat.le_of_ble_eq_true rfl, Nat.le_of_ble_eq_true rfl, Nat.le_of_ble_eq_true rfl⟩ dX6_number_44 (fun r_44 u_44 h_44 => ?_)
            obtain ⟨rfl, rfl⟩ := h_44
            try dsimp only
            refine g_iadd F dX6_number_47 ?_
            refine g_bipush (v := 48) F dX6_number_48 (by decide) ?_
            refine g_isub F dX6_number_50 ?_
            refine g_topi (fun x1_51 ex1_51 => ?_)
            refine g_istore_n (L' := [(1, _), (0, _), (2, _)]) F dX6_number_51 rfl (by decide) rfl ?_
            refine g_aload_n F 1 dX6_number_52 rfl rfl ?_
            refine g_dup F dX6_number_53 rfl ?_
            refine gf_16_9 F (by decide) mFL_X6_132 dX6_number_54 ?_
            refine g_eqi (rd16 (by decide)) ?_
            refine g_eqi W2.2.1 ?_
            refine g_iconst (v := 1) F dX6_number_57 (by decide) ?_
            refine g_iadd F dX6_number_58 ?_
            refine gp_16_9 F (by decide) mFL_X6_132 dX6_number_59 ?_
            refine g_I (wr16 (by decide)) ?_
            refine g_iincC (q := 1) (L' := [(2, _), (1, _), (0, _)]) F 2 dX6_number_62 (by decide) rfl (by decide) rfl ?_
            refine g_goto F 9 dX6_number_65 (by decide) ?_
            refine g_sub [2, 1, 0] rfl ?_
            exact ih (by omega) _ _ _ (q + 1) (nx_add ej rfl) (W2.at_ (nI_1 q) hq2) (f.tr FW.a) (by rw [hI, E2, ex1_51, show 2 - (j + 1) = 1 - j by omega])
  refine g_aload_n F 0 dX6_number_0 rfl rfl ?_
  refine g_bipush (v := 9) F dX6_number_1 (by decide) ?_
  refine g_callIv (na := 1) F 16 _ (c_X6_digit hj W) (by decide) rfl rfl lk_X6_142 rfl rfl (by decide +kernel) ⟨rfl, rfl, Nat.le_of_ble_eq_true rfl, Nat.le_of_ble_eq_true rfl, Nat.le_of_ble_eq_true rfl, Nat.le_of_ble_eq_true rfl, Nat.le_of_ble_eq_true rfl⟩ dX6_number_3 (fun r_3 u_3 h_3 => ?_)
  obtain ⟨rfl, ia, rfl, W2, f2⟩ := h_3
  try dsimp only
  refine g_topi (fun x1_6 ex1_6 => ?_)
  refine g_istore_n (L' := [(1, _), (0, _)]) F dX6_number_6 rfl (by decide) rfl ?_
  refine g_iconst (v := 1) F dX6_number_7 (by decide) ?_
  refine g_istore_n (L' := [(2, _), (1, _), (0, _)]) F dX6_number_8 rfl (by decide) rfl ?_
  refine g_sub [2, 1, 0] rfl ?_
  by_cases hb : b = true
  · rw [hb, thn_ye] at W2
    by_cases hok : (nmT pl pad tp).1 = true
    · have ED := dgT_t (dg_nm.trans hok)
      rw [ED] at W2
      exact LOOP hb hok 0 (by decide) _ _ _ (tp + 1) (by first | rfl | assumption) W2 f2 (by first | rw [ex1_6] | rfl)
    · have ED := dgT_f (m := 9) (fun z => hok (dg_nm.symm.trans z))
      rw [ED] at W2
      exact EXF _ _ _ (by first | rfl | assumption) W2 f2 (by rw [hb, thn_ye]; exact nmT_f hok)
  · have hbf : b = false := by
      cases b
      · rfl
      · exact absurd rfl hb
    rw [hbf, thn_no] at W2
    exact EXF _ _ _ (by first | rfl | assumption) W2 f2 (by rw [hbf]; rfl)
