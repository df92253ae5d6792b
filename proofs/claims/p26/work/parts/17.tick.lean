/-! PART 17: a tick -/
theorem drop_lo {h i : Nat} {σ : Sg} (hi : i < 104) (h7 : i ≠ 7) : dropS h σ i = σ i := by
  unfold dropS
  rw [if_neg h7, if_neg (by omega), if_neg (by omega)]
theorem Rp.roll {n h : Nat} {I : Ii} {pm : Pm} {k j : Nat} {σ : Sg} (R : Rp n h I pm k (drvS j σ)) (hj : j < n) (L : LcOk σ j) : Rp n h (rollI (up3 I 7 (8 * k + pm k j) 5 (spdS σ j)) (8 * k + pm k j)) pm k (drvS (j + 1) σ) := by
  have lo : ∀ f, f < 11 → drvS j σ (16 + 11 * j + f) = σ (16 + 11 * j + f) := fun f hf => drv_out (Or.inr (by omega))
  have e3 : I 7 (8 * k + pm k j) 3 = σ (16 + 11 * j + 3) := (R.lc (f := 3) hj (by decide)).trans (lo 3 (by decide))
  have e4 : I 7 (8 * k + pm k j) 4 = σ (16 + 11 * j + 4) := (R.lc (f := 4) hj (by decide)).trans (lo 4 (by decide))
  have e6 : I 7 (8 * k + pm k j) 6 = σ (16 + 11 * j + 10) := (R.lc (f := 10) hj (by decide)).trans (lo 10 (by decide))
  have ea : lcAt (up3 I 7 (8 * k + pm k j) 5 (spdS σ j)) (8 * k + pm k j) = tenS σ j := by
    unfold lcAt tenS
    rw [up3_s, up3_n (by omega), up3_n (by omega), e3, e4, Int32.mul_comm]
  have ht := ten_bd L
  unfold rollI
  rw [ea, fd_eq ht.2.1 ht.2.2, (fm_eq ht.2.1 ht.2.2).1, up3_n (I := I) (by omega), e6, drv_succ]
  exact (((R.loco hj (f := 5) (by decide) _).loco hj (f := 10) (by decide) _).loco hj (f := 3) (by decide) _).loco hj (f := 4) (by decide) _
theorem Fr.roll {I : Ii} {pm : Pm} {k j : Nat} {v : Int32} (hj : j < 8) : Fr k I pm (rollI (up3 I 7 (8 * k + j) 5 v) (8 * k + j)) pm := by
  have e := inL_7 (k := k) hj
  unfold rollI
  exact (((Fr.up e).tr (Fr.up e)).tr (Fr.up e)).tr (Fr.up e)
set_option maxHeartbeats 4000000 in
set_option maxRecDepth 100000 in
theorem c_X1_sendFirst {l : Launch} {G : Gm} (hj : Aj G) {I : Ii} {pm : Pm} {k : Nat} (hk : k < 11) {n h : Nat} {σ : Sg} (R : Rp n h I pm k σ) (V : Iv n h σ) : CI l G yX1_sendFirst (wz yX1_sendFirst cX1_sendFirst 4 (some .int)) (rmL 3) [.ref (G.2.2 0 k)] I pm (fun r u => r = (sendS n h σ).2 ∧ Rp n (h - 1) u.1 u.2 k (sendS n h σ).1 ∧ Fr k I pm u.1 u.2 ∧ u.2 = pm) := by
  have hh := R.h20
  refine CI.walk hj (by decide +kernel) (by show _ ≤ 4; exact Nat.le_of_ble_eq_true rfl) ?_
  intro p e s m args below meth c F hr hlk
  refine g_aload_n F 0 dX1_sendFirst_0 rfl rfl ?_
  refine gf_0_1 F hk mFL_X1_20 dX1_sendFirst_1 ?_
  refine gf_2_3 F hk mFL_X1_120 dX1_sendFirst_4 ?_
  refine g_iconst (v := 1) F dX1_sendFirst_7 (by decide) ?_
  refine g_icmp_ge F 13 dX1_sendFirst_8 (by decide) (fun c_8 => ?_) (fun c_8 => ?_)
  · have n_8 := nx_get (a := h) (b := 1) R.hel rfl (by omega) (by omega) c_8
    refine g_aload_n F 0 dX1_sendFirst_13 rfl rfl ?_
    refine gf_0_1 F hk mFL_X1_20 dX1_sendFirst_14 ?_
    refine gf_2_0 F hk mFL_X1_123 dX1_sendFirst_17 ?_
    refine g_iconst (v := 0) F dX1_sendFirst_20 (by decide) ?_
    refine ga_3 (j := 0) F hk rfl (by omega) dX1_sendFirst_21 ?_
    refine g_topi (fun x1_22 ex1_22 => ?_)
    refine g_istore_n (L' := [(1, _), (0, _)]) F dX1_sendFirst_22 rfl (by decide) rfl ?_
    refine g_aload_n F 1 dX1_sendFirst_23 rfl rfl ?_
    refine gf_0_1 F hk mFL_X1_20 dX1_sendFirst_24 ?_
    refine gf_2_1 F hk mFL_X1_126 dX1_sendFirst_27 ?_
    refine g_iconst (v := 0) F dX1_sendFirst_30 (by decide) ?_
    refine ga_4 (j := 0) F hk rfl (by omega) dX1_sendFirst_31 ?_
    refine g_topi (fun x2_32 ex2_32 => ?_)
    refine g_istore_n (L' := [(2, _), (1, _), (0, _)]) F dX1_sendFirst_32 rfl (by decide) rfl ?_
    refine g_iload_n F 1 dX1_sendFirst_33 rfl rfl ?_
    refine g_iload_n F 0 dX1_sendFirst_34 rfl rfl ?_
    refine g_ixor F dX1_sendFirst_35 ?_
    refine g_topi (fun x3_36 ex3_36 => ?_)
    refine g_istore_n (L' := [(3, _), (2, _), (1, _), (0, _)]) F dX1_sendFirst_36 rfl (by decide) rfl ?_
    have hb : (0 ≤ (σ 104).toInt ∧ (σ 104).toInt ≤ 99) ∧ 0 ≤ (σ 105).toInt ∧ (σ 105).toInt ≤ 255 := V.2.2.2.2.2.2.2 0 (by omega)
    have rw0 := R.row (j := 0) (by omega)
    have e1 : x1_22 = σ 104 := ex1_22.trans rw0.1
    have e2 : x2_32 = σ 105 := ex2_32.trans rw0.2.1
    have e3 : x3_36 = σ 104 ^^^ σ 105 := by rw [ex3_36, e1, e2]
    have hcb := chk_bd hb.1 hb.2
    have HB12 : (0 ≤ x1_22 ∧ x1_22 ≤ 255) ∧ (0 ≤ x2_32 ∧ x2_32 ≤ 255) := by
      rw [e1, e2]
      have q0 := hb.1
      have q1 := hb.2
      exact ⟨⟨i_le.mpr q0.1, i_le.mpr (by have : (255 : Int32).toInt = 255 := rfl; omega)⟩, ⟨i_le.mpr q1.1, i_le.mpr (by have : (255 : Int32).toInt = 255 := rfl; omega)⟩⟩
    refine g_aload_n F 3 dX1_sendFirst_37 rfl rfl ?_
    refine gf_0_1 F hk mFL_X1_20 dX1_sendFirst_38 ?_
    refine g_callVv (na := 0) F 2 _ (c_X4_dropFirst hj hk R n_8) hk rfl rfl lk_X1_129 rfl rfl (by decide +kernel) ⟨rfl, rfl, Nat.le_of_ble_eq_true rfl, Nat.le_of_ble_eq_true rfl, Nat.le_of_ble_eq_true rfl, Nat.le_of_ble_eq_true rfl, Nat.le_of_ble_eq_true rfl⟩ dX1_sendFirst_41 (fun u_41 h_41 => ?_)
    obtain ⟨Rd, ue, uo⟩ := h_41
    obtain ⟨I3, pm3⟩ := u_41
    dsimp only at Rd ue uo
    have ue2 := ue.symm
    subst ue2
    dsimp only
    have en : I3 0 k 5 = σ 1 := Rd.1.2.2.1.trans (drop_lo (by decide) (by decide))
    have eg : I3 0 k 4 - I3 0 k 6 = σ 2 := Rd.1.2.2.2.1.trans (drop_lo (by decide) (by decide))
    have Fd : Fr k I pm I3 pm := Fr.rows uo
    refine g_aload_n F 3 dX1_sendFirst_44 rfl rfl ?_
    refine gf_0_5 F hk mFL_X1_49 dX1_sendFirst_45 ?_
    refine g_if_le F 93 dX1_sendFirst_48 (by decide) (fun c_48 => ?_) (fun c_48 => ?_)
    · have CC : ¬ (0 < σ 1 ∧ σ 1 ≤ σ 2) := fun q => Int32.not_lt.mpr c_48 (by rw [en]; exact q.1)
      have HC : x3_36 = chkS σ := by rw [e3]; unfold chkS; rw [if_neg CC]
      have HB3 : 0 ≤ x3_36 ∧ x3_36 ≤ 255 := by rw [HC]; exact ⟨i_le.mpr hcb.1, i_le.mpr hcb.2⟩
      have RS : Rp n (h - 1) I3 pm k (spoilS σ h) := by unfold spoilS; rw [if_neg CC]; exact Rd
      refine g_aload_n F 3 dX1_sendFirst_93 rfl rfl ?_
      refine g_iload_n F 2 dX1_sendFirst_94 rfl rfl ?_
      refine g_iload_n F 1 dX1_sendFirst_95 rfl rfl ?_
      refine g_iload_n F 0 dX1_sendFirst_96 rfl rfl ?_
      refine g_callIv (na := 3) F 0 _ (c_X1_takeFrame hj hk RS (V.spoil n_8)) hk rfl rfl lk_X1_132 rfl rfl (by decide +kernel) ⟨rfl, rfl, Nat.le_of_ble_eq_true rfl, Nat.le_of_ble_eq_true rfl, Nat.le_of_ble_eq_true rfl, Nat.le_of_ble_eq_true rfl, Nat.le_of_ble_eq_true rfl⟩ dX1_sendFirst_97 (fun r_97 u_97 h_97 => ?_)
      rcases h_97 with ⟨N, -, -⟩ | ⟨-, hr9, Ru, Fu, up⟩
      · exact absurd ⟨HB12.1, HB12.2, HB3⟩ N
      refine g_pop F dX1_sendFirst_100 rfl ?_
      refine g_iconst (v := 1) F dX1_sendFirst_101 (by decide) ?_
      refine g_iret F hr hlk rfl dX1_sendFirst_102 ?_
      have hne : ¬ h = 0 := by omega
      rw [e1, e2, HC] at Ru
      unfold sendS
      rw [if_neg hne]
      first
      | exact ⟨rfl, Ru, Fd.tr Fu, up⟩
      | exact ⟨rfl, Ru, ((Fd.tr (Fr.up (inL_0 (by decide)))).tr (Fr.up (inL_0 (by decide)))).tr Fu, up⟩
    · refine g_aload_n F 3 dX1_sendFirst_51 rfl rfl ?_
      refine gf_0_4 F hk mFL_X1_46 dX1_sendFirst_52 ?_
      refine g_aload_n F 3 dX1_sendFirst_55 rfl rfl ?_
      refine gf_0_6 F hk mFL_X1_52 dX1_sendFirst_56 ?_
      refine g_isub F dX1_sendFirst_59 ?_
      refine g_aload_n F 3 dX1_sendFirst_60 rfl rfl ?_
      refine gf_0_5 F hk mFL_X1_49 dX1_sendFirst_61 ?_
      refine g_icmp_lt F 93 dX1_sendFirst_64 (by decide) (fun c_64 => ?_) (fun c_64 => ?_)
      · have CC : ¬ (0 < σ 1 ∧ σ 1 ≤ σ 2) := fun q => Int32.not_le.mpr c_64 (by rw [en, eg]; exact q.2)
        have HC : x3_36 = chkS σ := by rw [e3]; unfold chkS; rw [if_neg CC]
        have HB3 : 0 ≤ x3_36 ∧ x3_36 ≤ 255 := by rw [HC]; exact ⟨i_le.mpr hcb.1, i_le.mpr hcb.2⟩
        have RS : Rp n (h - 1) I3 pm k (spoilS σ h) := by unfold spoilS; rw [if_neg CC]; exact Rd
        refine g_aload_n F 3 dX1_sendFirst_93 rfl rfl ?_
        refine g_iload_n F 2 dX1_sendFirst_94 rfl rfl ?_
        refine g_iload_n F 1 dX1_sendFirst_95 rfl rfl ?_
        refine g_iload_n F 0 dX1_sendFirst_96 rfl rfl ?_
        refine g_callIv (na := 3) F 0 _ (c_X1_takeFrame hj hk RS (V.spoil n_8)) hk rfl rfl lk_X1_132 rfl rfl (by decide +kernel) ⟨rfl, rfl, Nat.le_of_ble_eq_true rfl, Nat.le_of_ble_eq_true rfl, Nat.le_of_ble_eq_true rfl, Nat.le_of_ble_eq_true rfl, Nat.le_of_ble_eq_true rfl⟩ dX1_sendFirst_97 (fun r_97 u_97 h_97 => ?_)
        rcases h_97 with ⟨N, -, -⟩ | ⟨-, hr9, Ru, Fu, up⟩
        · exact absurd ⟨HB12.1, HB12.2, HB3⟩ N
        refine g_pop F dX1_sendFirst_100 rfl ?_
        refine g_iconst (v := 1) F dX1_sendFirst_101 (by decide) ?_
        refine g_iret F hr hlk rfl dX1_sendFirst_102 ?_
        have hne : ¬ h = 0 := by omega
        rw [e1, e2, HC] at Ru
        unfold sendS
        rw [if_neg hne]
        first
        | exact ⟨rfl, Ru, Fd.tr Fu, up⟩
        | exact ⟨rfl, Ru, ((Fd.tr (Fr.up (inL_0 (by decide)))).tr (Fr.up (inL_0 (by decide)))).tr Fu, up⟩
      · have CC : 0 < σ 1 ∧ σ 1 ≤ σ 2 := ⟨by rw [← en]; exact Int32.not_le.mp c_48, by rw [← en, ← eg]; exact Int32.not_lt.mp c_64⟩
        have RS : Rp n (h - 1) (up3 (up3 I3 0 k 6 (I3 0 k 4)) 0 k 9 (I3 0 k 9 + 1)) pm k (spoilS σ h) := by
          unfold spoilS
          rw [if_pos CC]
          have e9 : I3 0 k 9 = σ 5 := Rd.1.2.2.2.2.2.2.1.trans (drop_lo (by decide) (by decide))
          exact Rd.num (fun K i j hK => by rw [up3_k hK, up3_k hK]) (fun i hi => by rw [upd_n (by omega), upd_n (by omega)]) (by simp [up3, upd]; exact Rd.1.1) (by simp [up3, upd]; exact Rd.1.2.1) (by simp [up3, upd]; exact Rd.1.2.2.1) (by simp [up3, upd]) (by simp [up3, upd]; exact Rd.1.2.2.2.2.1) (by simp [up3, upd]; exact Rd.1.2.2.2.2.2.1) (by simp [up3, upd]; exact e9)
        refine g_iload_n F 0 dX1_sendFirst_67 rfl rfl ?_
        refine g_iconst (v := 1) F dX1_sendFirst_68 (by decide) ?_
        refine g_iadd F dX1_sendFirst_69 ?_
        refine g_sipush (v := 256) F dX1_sendFirst_70 (by decide) ?_
        refine g_irem F dX1_sendFirst_73 (by decide) ?_
        refine g_topi (fun x3_74 ex3_74 => ?_)
        refine g_istore_n (L' := [(3, _), (2, _), (1, _), (0, _)]) F dX1_sendFirst_74 rfl (by decide) rfl ?_
        have HC : x3_74 = chkS σ := by rw [ex3_74, e3]; unfold chkS; rw [if_pos CC]
        have HB3 : 0 ≤ x3_74 ∧ x3_74 ≤ 255 := by rw [HC]; exact ⟨i_le.mpr hcb.1, i_le.mpr hcb.2⟩
        refine g_aload_n F 3 dX1_sendFirst_75 rfl rfl ?_
        refine g_aload_n F 3 dX1_sendFirst_76 rfl rfl ?_
        refine gf_0_4 F hk mFL_X1_46 dX1_sendFirst_77 ?_
        refine gp_0_6 F hk mFL_X1_52 dX1_sendFirst_80 ?_
        refine g_aload_n F 3 dX1_sendFirst_83 rfl rfl ?_
        refine g_dup F dX1_sendFirst_84 rfl ?_
        refine gf_0_9 F hk mFL_X1_61 dX1_sendFirst_85 ?_
        refine g_eqi (y := I3 0 k 9) (by simp [up3]) ?_
        refine g_iconst (v := 1) F dX1_sendFirst_88 (by decide) ?_
        refine g_iadd F dX1_sendFirst_89 ?_
        refine gp_0_9 F hk mFL_X1_61 dX1_sendFirst_90 ?_
        refine g_aload_n F 3 dX1_sendFirst_93 rfl rfl ?_
        refine g_iload_n F 2 dX1_sendFirst_94 rfl rfl ?_
        refine g_iload_n F 1 dX1_sendFirst_95 rfl rfl ?_
        refine g_iload_n F 0 dX1_sendFirst_96 rfl rfl ?_
        refine g_callIv (na := 3) F 0 _ (c_X1_takeFrame hj hk RS (V.spoil n_8)) hk rfl rfl lk_X1_132 rfl rfl (by decide +kernel) ⟨rfl, rfl, Nat.le_of_ble_eq_true rfl, Nat.le_of_ble_eq_true rfl, Nat.le_of_ble_eq_true rfl, Nat.le_of_ble_eq_true rfl, Nat.le_of_ble_eq_true rfl⟩ dX1_sendFirst_97 (fun r_97 u_97 h_97 => ?_)
        rcases h_97 with ⟨N, -, -⟩ | ⟨-, hr9, Ru, Fu, up⟩
        · exact absurd ⟨HB12.1, HB12.2, HB3⟩ N
        refine g_pop F dX1_sendFirst_100 rfl ?_
        refine g_iconst (v := 1) F dX1_sendFirst_101 (by decide) ?_
        refine g_iret F hr hlk rfl dX1_sendFirst_102 ?_
        have hne : ¬ h = 0 := by omega
        rw [e1, e2, HC] at Ru
        unfold sendS
        rw [if_neg hne]
        first
        | exact ⟨rfl, Ru, Fd.tr Fu, up⟩
        | exact ⟨rfl, Ru, ((Fd.tr (Fr.up (inL_0 (by decide)))).tr (Fr.up (inL_0 (by decide)))).tr Fu, up⟩
  · have n_8 := nx_gef (a := h) (b := 1) R.hel rfl (by omega) (by omega) c_8
    refine g_iconst (v := 0) F dX1_sendFirst_11 (by decide) ?_
    refine g_iret F hr hlk rfl dX1_sendFirst_12 ?_
    have h0 : h = 0 := by omega
    subst h0
    exact ⟨rfl, R, Fr.rf, rfl⟩
set_option maxHeartbeats 4000000 in
set_option maxRecDepth 100000 in
theorem c_X1_tick {l : Launch} {G : Gm} (hj : Aj G) {I : Ii} {pm : Pm} {k : Nat} (hk : k < 11) {n h : Nat} {σ : Sg} (R : Rp n h I pm k σ) (V : Iv n h σ) : CI l G yX1_tick (wz yX1_tick cX1_tick 4 (some .int)) (rmL 4) [.ref (G.2.2 0 k)] I pm (fun r u => r = (sendS n h σ).2 ∧ Rp n (h - 1) u.1 u.2 k (tickS n h σ) ∧ Fr k I pm u.1 u.2 ∧ u.2 = pm) := by
  refine CI.walk hj (by decide +kernel) (by show _ ≤ 4; exact Nat.le_of_ble_eq_true rfl) ?_
  intro p e s m args below meth c F hr hlk
  have hn8 := R.n8
  have V1 := V.send
  have VD := V1.drv
  obtain ⟨σ1, hσ1⟩ : ∃ q, q = (sendS n h σ).1 := ⟨_, rfl⟩
  rw [← hσ1] at V1 VD
  have LOOP2 : ∀ j, j ≤ 8 → ∀ (I2 : Ii) (xs xj : Int32), xj = nI j → xs = (sendS n h σ).2 → Rp n (h - 1) I2 pm k (shoJ j (drvS n σ1)) → Fr k I pm I2 pm → GG p l e (rmL 4) s m args below meth c G (AA G) 4 0 0 (MQ below (va_Qi (fun (r : Int32) (u : Ii × Pm) => r = (sendS n h σ).2 ∧ Rp n (h - 1) u.1 u.2 k (tickS n h σ) ∧ Fr k I pm u.1 u.2 ∧ u.2 = pm) (fun (u : Ii × Pm) t => Wd G u.1 u.2 t.heap) (AA G)) args s 0 0 (AA G)) I2 pm [(0, .ref (G.2.2 0 k)), (1, .int xs), (2, .int xj)] 57 [] := by
    refine dn_ind ?_
    intro j hjl ih I2 xs xj ej es R2 F2
    refine g_iload_n F 2 dX1_tick_57 rfl rfl ?_
    refine g_bipush (v := 8) F dX1_tick_58 (by decide) ?_
    refine g_icmp_ge F 87 dX1_tick_60 (by decide) (fun c_60 => ?_) (fun c_60 => ?_)
    · have n_60 := nx_get (a := j) (b := 8) ej rfl (by omega) (by omega) c_60
      refine g_aload_n F 0 dX1_tick_87 rfl rfl ?_
      refine g_dup F dX1_tick_88 rfl ?_
      refine gf_0_4 F hk mFL_X1_46 dX1_tick_89 ?_
      refine g_iconst (v := 1) F dX1_tick_92 (by decide) ?_
      refine g_iadd F dX1_tick_93 ?_
      refine gp_0_4 F hk mFL_X1_46 dX1_tick_94 ?_
      refine g_iload_n F 1 dX1_tick_97 rfl rfl ?_
      refine g_iret F hr hlk rfl dX1_tick_98 ?_
      have hj8 : j = 8 := by omega
      subst hj8
      rw [shoJ_8] at R2
      refine ⟨es, ?_, F2.tr (Fr.up (inL_0 (by decide))), rfl⟩
      unfold tickS bothS
      rw [← hσ1]
      exact R2.num (fun K i j hK => up3_k hK) (fun i hi => by rw [upd_n (by omega), upd_n (by omega)]) (by simp [up3, upd]; exact R2.1.1) (by simp [up3, upd]; exact R2.1.2.1) (by simp [up3, upd]; exact R2.1.2.2.1) (by simp only [up3, upd]; simp; rw [age1, R2.1.2.2.2.1]) (by simp [up3, upd]; exact R2.1.2.2.2.2.1) (by simp [up3, upd]; exact R2.1.2.2.2.2.2.1) (by simp [up3, upd]; exact R2.1.2.2.2.2.2.2.1)
    · have n_60 := nx_gef (a := j) (b := 8) ej rfl (by omega) (by omega) c_60
      refine g_aload_n F 0 dX1_tick_63 rfl rfl ?_
      refine gf_0_2 F hk mFL_X1_24 dX1_tick_64 ?_
      refine g_iload_n F 2 dX1_tick_67 rfl rfl ?_
      refine g_iconst (v := 0) F dX1_tick_68 (by decide) ?_
      refine g_aload_n F 0 dX1_tick_69 rfl rfl ?_
      refine gf_0_2 F hk mFL_X1_24 dX1_tick_70 ?_
      refine g_iload_n F 2 dX1_tick_73 rfl rfl ?_
      refine ga_6 (j := j) F hk ej (by omega) dX1_tick_74 ?_
      refine g_iconst (v := 1) F dX1_tick_75 (by decide) ?_
      refine g_isub F dX1_tick_76 ?_
      refine g_mmax F mML_X1_114 mST_LMmax mIN_java_lang_Math mCO_LMmax ⟨Nat.le_of_ble_eq_true rfl, Nat.le_of_ble_eq_true rfl, Nat.le_of_ble_eq_true rfl, Nat.le_of_ble_eq_true rfl⟩ dX1_tick_77 ?_
      refine gs_6 (j := j) F hk ej (by omega) dX1_tick_80 ?_
      refine g_iincC (q := 1) (L' := [(2, _), (0, _), (1, _)]) F 2 dX1_tick_81 (by decide) rfl (by decide) rfl ?_
      refine g_goto F 57 dX1_tick_84 (by decide) ?_
      refine g_sub [1, 2, 0] rfl ?_
      have eb : I2 6 k j = drvS n σ1 (8 + j) := (R2.sh (by omega)).trans shoJ_at
      have hb := sho_bd (σ := drvS n σ1) (b := j) (by omega) (VD.2.2.2.2.2.1 j (by omega))
      refine ih (by omega) _ _ _ (nx_add ej rfl) es ?_ (F2.tr (Fr.up (inL_0 (by decide))))
      rw [shoJ_succ (by omega), hb.1, eb]
      exact R2.short (by omega) _
  have LOOP1 : ∀ j, j ≤ n → ∀ (I2 : Ii) (xs xj : Int32), xj = nI j → xs = (sendS n h σ).2 → Rp n (h - 1) I2 pm k (drvS j σ1) → Fr k I pm I2 pm → GG p l e (rmL 4) s m args below meth c G (AA G) 4 0 0 (MQ below (va_Qi (fun (r : Int32) (u : Ii × Pm) => r = (sendS n h σ).2 ∧ Rp n (h - 1) u.1 u.2 k (tickS n h σ) ∧ Fr k I pm u.1 u.2 ∧ u.2 = pm) (fun (u : Ii × Pm) t => Wd G u.1 u.2 t.heap) (AA G)) args s 0 0 (AA G)) I2 pm [(0, .ref (G.2.2 0 k)), (1, .int xs), (2, .int xj)] 7 [] := by
    refine dn_ind ?_
    intro j hjl ih I2 xs xj ej es R2 F2
    refine g_iload_n F 2 dX1_tick_7 rfl rfl ?_
    refine g_aload_n F 0 dX1_tick_8 rfl rfl ?_
    refine gf_0_3 F hk mFL_X1_29 dX1_tick_9 ?_
    refine g_icmp_ge F 55 dX1_tick_12 (by decide) (fun c_12 => ?_) (fun c_12 => ?_)
    · have n_12 := nx_get (a := j) (b := n) ej R2.cnt (by omega) (by omega) c_12
      refine g_iconst (v := 0) F dX1_tick_55 (by decide) ?_
      refine g_istore_n (L' := [(2, _), (0, _), (1, _)]) F dX1_tick_56 rfl (by decide) rfl ?_
      refine g_sub [1, 2, 0] rfl ?_
      have hjn : j = n := by omega
      subst hjn
      exact LOOP2 0 (by decide) _ _ _ (rfl) es (by rw [shoJ_0]; exact R2) F2
    · have n_12 := nx_gef (a := j) (b := n) ej R2.cnt (by omega) (by omega) c_12
      have hi7 : 8 * k + pm k j < 88 := inL7 hk (R2.p8 (by omega))
      have L1 := V1.2.2.2.2.1 j (by omega)
      have lo : ∀ f, f < 11 → drvS j σ1 (16 + 11 * j + f) = σ1 (16 + 11 * j + f) := fun f hf => drv_out (Or.inr (by omega))
      have LL : LcOk (drvS j σ1) j := L1.cong lo
      have ebk : blkS (drvS j σ1) j = blkS σ1 j := by unfold blkS; rw [lo 3 (by decide)]
      have esh : drvS j σ1 (8 + blkS (drvS j σ1) j) = σ1 (8 + blkS σ1 j) := by rw [ebk]; exact drv_out (Or.inl (by have := blk_lt L1; omega))
      refine g_aload_n F 0 dX1_tick_15 rfl rfl ?_
      refine gf_0_0 F hk mFL_X1_11 dX1_tick_16 ?_
      refine g_iload_n F 2 dX1_tick_19 rfl rfl ?_
      refine ga_1 (j := j) F hk ej (by omega) dX1_tick_20 ?_
      refine g_astore_n (L' := [(3, _), (0, _), (1, _), (2, _)]) F dX1_tick_21 rfl (by decide) rfl ?_
      refine g_aload_n F 1 dX1_tick_22 rfl rfl ?_
      refine g_aload_n F 0 dX1_tick_23 rfl rfl ?_
      refine g_callIv (na := 0) F 7 _ (c_X2_blockNumber hj hi7) hi7 rfl rfl lk_X1_87 rfl rfl (by decide +kernel) ⟨rfl, rfl, Nat.le_of_ble_eq_true rfl, Nat.le_of_ble_eq_true rfl, Nat.le_of_ble_eq_true rfl, Nat.le_of_ble_eq_true rfl, Nat.le_of_ble_eq_true rfl⟩ dX1_tick_24 (fun r_24 u_24 h_24 => ?_)
      obtain ⟨rfl, rfl⟩ := h_24
      try dsimp only
      refine g_callIv (na := 1) F 0 _ (c_X1_isShorted hj hk (blk_lt LL) (R2.blk (by omega) LL)) hk rfl rfl lk_X1_91 rfl rfl (by decide +kernel) ⟨rfl, rfl, Nat.le_of_ble_eq_true rfl, Nat.le_of_ble_eq_true rfl, Nat.le_of_ble_eq_true rfl, Nat.le_of_ble_eq_true rfl, Nat.le_of_ble_eq_true rfl⟩ dX1_tick_27 (fun r_27 u_27 h_27 => ?_)
      obtain ⟨rfl, rfl⟩ := h_27
      try dsimp only
      rw [R2.sh (blk_lt LL)]
      refine g_if_eq F 41 dX1_tick_30 (by decide) (fun c_30 => ?_) (fun c_30 => ?_)
      · have c30 : ¬ 0 < σ1 (8 + blkS σ1 j) := by rw [← esh]; exact bz_0.mp c_30
        have hsp : spdS σ1 j = spdF (I2 7 (8 * k + pm k j) 1) (I2 7 (8 * k + pm k j) 2) (I2 7 (8 * k + pm k j) 7) (I2 7 (8 * k + pm k j) 8) (I2 7 (8 * k + pm k j) 5) := by
          have g1 : I2 7 (8 * k + pm k j) 1 = σ1 (16 + 11 * j + 1) := (R2.lc (f := 1) (by omega) (by decide)).trans (lo 1 (by decide))
          have g2 : I2 7 (8 * k + pm k j) 2 = σ1 (16 + 11 * j + 2) := (R2.lc (f := 2) (by omega) (by decide)).trans (lo 2 (by decide))
          have g5 : I2 7 (8 * k + pm k j) 5 = σ1 (16 + 11 * j + 5) := (R2.lc (f := 5) (by omega) (by decide)).trans (lo 5 (by decide))
          have g7 : I2 7 (8 * k + pm k j) 7 = σ1 (16 + 11 * j + 6) := (R2.lc (f := 6) (by omega) (by decide)).trans (lo 6 (by decide))
          have g8 : I2 7 (8 * k + pm k j) 8 = σ1 (16 + 11 * j + 7) := (R2.lc (f := 7) (by omega) (by decide)).trans (lo 7 (by decide))
          rw [g1, g2, g5, g7, g8]
          unfold spdS
          rw [if_neg c30]
          obtain ⟨l1, l2, l3, l4, l5, l6, l7⟩ := L1
          exact (spd_eq l1.1 l1.2 l2.1 l2.2 l6.1 l6.2 l5.1 l5.2).1.symm
        refine g_aload_n F 0 dX1_tick_41 rfl rfl ?_
        refine g_callVv (na := 0) F 7 _ (c_X2_changeSpeed hj hi7) hi7 rfl rfl lk_X1_108 rfl rfl (by decide +kernel) ⟨rfl, rfl, Nat.le_of_ble_eq_true rfl, Nat.le_of_ble_eq_true rfl, Nat.le_of_ble_eq_true rfl, Nat.le_of_ble_eq_true rfl, Nat.le_of_ble_eq_true rfl⟩ dX1_tick_42 (fun u_42 h_42 => ?_)
        subst h_42
        try dsimp only
        refine g_I (I' := up3 I2 7 (8 * k + pm k j) 5 (spdS σ1 j)) (by rw [hsp]) ?_
        refine g_aload_n F 0 dX1_tick_45 rfl rfl ?_
        refine g_callVv (na := 0) F 7 _ (c_X2_roll hj hi7) hi7 rfl rfl lk_X1_111 rfl rfl (by decide +kernel) ⟨rfl, rfl, Nat.le_of_ble_eq_true rfl, Nat.le_of_ble_eq_true rfl, Nat.le_of_ble_eq_true rfl, Nat.le_of_ble_eq_true rfl, Nat.le_of_ble_eq_true rfl⟩ dX1_tick_46 (fun u_46 h_46 => ?_)
        subst h_46
        try dsimp only
        refine g_iincC (q := 1) (L' := [(2, _), (3, _), (0, _), (1, _)]) F 3 dX1_tick_49 (by decide) rfl (by decide) rfl ?_
        refine g_goto F 7 dX1_tick_52 (by decide) ?_
        refine g_sub [2, 3, 0] rfl ?_
        exact ih (by omega) _ _ _ (nx_add ej rfl) es (R2.roll (by omega) L1) (F2.tr (Fr.roll (R2.p8 (by omega))))
      · have c30 : 0 < σ1 (8 + blkS σ1 j) := by rw [← esh]; exact bz_n.mp c_30
        have hsp : spdS σ1 j = 0 := by unfold spdS; rw [if_pos c30]
        refine g_aload_n F 0 dX1_tick_33 rfl rfl ?_
        refine g_iconst (v := 0) F dX1_tick_34 (by decide) ?_
        refine gp_7_5 F hi7 mFL_X1_105 dX1_tick_35 ?_
        refine g_goto F 45 dX1_tick_38 (by decide) ?_
        refine g_I (I' := up3 I2 7 (8 * k + pm k j) 5 (spdS σ1 j)) (by rw [hsp]) ?_
        refine g_aload_n F 0 dX1_tick_45 rfl rfl ?_
        refine g_callVv (na := 0) F 7 _ (c_X2_roll hj hi7) hi7 rfl rfl lk_X1_111 rfl rfl (by decide +kernel) ⟨rfl, rfl, Nat.le_of_ble_eq_true rfl, Nat.le_of_ble_eq_true rfl, Nat.le_of_ble_eq_true rfl, Nat.le_of_ble_eq_true rfl, Nat.le_of_ble_eq_true rfl⟩ dX1_tick_46 (fun u_46 h_46 => ?_)
        subst h_46
        try dsimp only
        refine g_iincC (q := 1) (L' := [(2, _), (3, _), (0, _), (1, _)]) F 3 dX1_tick_49 (by decide) rfl (by decide) rfl ?_
        refine g_goto F 7 dX1_tick_52 (by decide) ?_
        refine g_sub [2, 3, 0] rfl ?_
        exact ih (by omega) _ _ _ (nx_add ej rfl) es (R2.roll (by omega) L1) (F2.tr (Fr.roll (R2.p8 (by omega))))
  refine g_aload_n F 0 dX1_tick_0 rfl rfl ?_
  refine g_callIv (na := 0) F 0 _ (c_X1_sendFirst hj hk R V) hk rfl rfl lk_X1_102 rfl rfl (by decide +kernel) ⟨rfl, rfl, Nat.le_of_ble_eq_true rfl, Nat.le_of_ble_eq_true rfl, Nat.le_of_ble_eq_true rfl, Nat.le_of_ble_eq_true rfl, Nat.le_of_ble_eq_true rfl⟩ dX1_tick_1 (fun r_1 u_1 h_1 => ?_)
  obtain ⟨hr1, Ru, Fu, up⟩ := h_1
  obtain ⟨I1, pm1⟩ := u_1
  dsimp only at Ru Fu up
  have up2 := up.symm
  subst up2
  dsimp only
  refine g_topi (fun x1_4 ex1_4 => ?_)
  refine g_istore_n (L' := [(1, _), (0, _)]) F dX1_tick_4 rfl (by decide) rfl ?_
  refine g_iconst (v := 0) F dX1_tick_5 (by decide) ?_
  refine g_istore_n (L' := [(2, _), (1, _), (0, _)]) F dX1_tick_6 rfl (by decide) rfl ?_
  refine g_sub [2, 1, 0] rfl ?_
  have ed : drvS 0 σ1 = (sendS n h σ).1 := by
    rw [← hσ1]
    funext i
    exact drv_out (by omega)
  exact LOOP1 0 (Nat.zero_le _) _ _ _ rfl (ex1_4.trans hr1) (by rw [ed]; exact Ru) Fu
set_option maxHeartbeats 4000000 in
set_option maxRecDepth 100000 in
theorem c_X1_takeTicks {l : Launch} {G : Gm} (hj : Aj G) {I : Ii} {pm : Pm} {k : Nat} (hk : k < 11) {n h : Nat} {σ : Sg} (R : Rp n h I pm k σ) (V : Iv n h σ) {x : Int32} : CI l G yX1_takeTicks (wz yX1_takeTicks cX1_takeTicks 4 (some .int)) (rmL 5) [.ref (G.2.2 0 k), .int x] I pm (fun r u => (¬ (1 ≤ x ∧ x ≤ 99) ∧ r = -2 ∧ u = (I, pm)) ∨ ((1 ≤ x ∧ x ≤ 99) ∧ 99999 < σ 0 + x ∧ r = -5 ∧ u = (I, pm)) ∨ ((1 ≤ x ∧ x ≤ 99) ∧ ¬ 99999 < σ 0 + x ∧ r = (itS n h σ x.toInt.toNat).2 ∧ Rp n (h - x.toInt.toNat) u.1 u.2 k (itS n h σ x.toInt.toNat).1 ∧ Fr k I pm u.1 u.2)) := by
  refine CI.walk hj (by decide +kernel) (by show _ ≤ 4; exact Nat.le_of_ble_eq_true rfl) ?_
  intro p e s m args below meth c F hr hlk
  have LOOP : ∀ j, j ≤ x.toInt.toNat → (1 ≤ x ∧ x ≤ 99) → ¬ 99999 < σ 0 + x → x = nI x.toInt.toNat → x.toInt.toNat ≤ 99 → ∀ (I2 : Ii) (pm2 : Pm) (xs xj : Int32), xj = nI j → xs = (itS n h σ j).2 → Rp n (h - j) I2 pm2 k (itS n h σ j).1 → Fr k I pm I2 pm2 → GG p l e (rmL 5) s m args below meth c G (AA G) 4 0 0 (MQ below (va_Qi (fun (r : Int32) (u : Ii × Pm) => (¬ (1 ≤ x ∧ x ≤ 99) ∧ r = -2 ∧ u = (I, pm)) ∨ ((1 ≤ x ∧ x ≤ 99) ∧ 99999 < σ 0 + x ∧ r = -5 ∧ u = (I, pm)) ∨ ((1 ≤ x ∧ x ≤ 99) ∧ ¬ 99999 < σ 0 + x ∧ r = (itS n h σ x.toInt.toNat).2 ∧ Rp n (h - x.toInt.toNat) u.1 u.2 k (itS n h σ x.toInt.toNat).1 ∧ Fr k I pm u.1 u.2)) (fun (u : Ii × Pm) t => Wd G u.1 u.2 t.heap) (AA G)) args s 0 0 (AA G)) I2 pm2 [(0, .ref (G.2.2 0 k)), (1, .int x), (2, .int xs), (3, .int xj)] 31 [] := by
    refine dn_ind ?_
    intro j hjl ih hb hc ex hx99 I2 pm2 xs xj ej es R2 F2
    refine g_iload_n F 3 dX1_takeTicks_31 rfl rfl ?_
    refine g_iload_n F 1 dX1_takeTicks_32 rfl rfl ?_
    refine g_icmp_ge F 49 dX1_takeTicks_33 (by decide) (fun c_33 => ?_) (fun c_33 => ?_)
    · have n_33 := nx_get (a := j) (b := x.toInt.toNat) ej ex (by omega) (by omega) c_33
      refine g_iload_n F 2 dX1_takeTicks_49 rfl rfl ?_
      refine g_iret F hr hlk rfl dX1_takeTicks_50 ?_
      have e : j = x.toInt.toNat := by omega
      rw [← e]
      exact Or.inr (Or.inr ⟨hb, hc, es, R2, F2⟩)
    · have n_33 := nx_gef (a := j) (b := x.toInt.toNat) ej ex (by omega) (by omega) c_33
      refine g_iload_n F 2 dX1_takeTicks_36 rfl rfl ?_
      refine g_aload_n F 0 dX1_takeTicks_37 rfl rfl ?_
      refine g_callIv (na := 0) F 0 _ (c_X1_tick hj hk R2 (V.it j)) hk rfl rfl lk_X1_99 rfl rfl (by decide +kernel) ⟨rfl, rfl, Nat.le_of_ble_eq_true rfl, Nat.le_of_ble_eq_true rfl, Nat.le_of_ble_eq_true rfl, Nat.le_of_ble_eq_true rfl, Nat.le_of_ble_eq_true rfl⟩ dX1_takeTicks_38 (fun r_38 u_38 h_38 => ?_)
      obtain ⟨hr1, Ru, Fu, -⟩ := h_38
      obtain ⟨I3, pm3⟩ := u_38
      dsimp only at Ru Fu
      dsimp only
      refine g_iadd F dX1_takeTicks_41 ?_
      refine g_topi (fun x2_42 ex2_42 => ?_)
      refine g_istore_n (L' := [(2, _), (0, _), (1, _), (3, _)]) F dX1_takeTicks_42 rfl (by decide) rfl ?_
      refine g_iincC (q := 1) (L' := [(3, _), (2, _), (0, _), (1, _)]) F 3 dX1_takeTicks_43 (by decide) rfl (by decide) rfl ?_
      refine g_goto F 31 dX1_takeTicks_46 (by decide) ?_
      refine g_sub [2, 3, 1, 0] rfl ?_
      exact ih (by omega) hb hc ex hx99 _ _ _ _ (nx_add ej rfl) (by rw [ex2_42, es, hr1]; rfl) (by rw [Nat.sub_sub] at Ru; exact Ru) (F2.tr Fu)
  refine g_iload_n F 1 dX1_takeTicks_0 rfl rfl ?_
  refine g_iconst (v := 1) F dX1_takeTicks_1 (by decide) ?_
  refine g_bipush (v := 99) F dX1_takeTicks_2 (by decide) ?_
  refine g_callIn (na := 3) F (c_X5_within hj) (gw mCO_yX5_within) F.2.2.1.1 mST_yX5_within mIN_RX5 rfl rfl (by decide +kernel) ⟨rfl, rfl, Nat.le_of_ble_eq_true rfl, Nat.le_of_ble_eq_true rfl, Nat.le_of_ble_eq_true rfl, Nat.le_of_ble_eq_true rfl, Nat.le_of_ble_eq_true rfl⟩ dX1_takeTicks_4 (fun r_4 u_4 h_4 => ?_)
  obtain ⟨rfl, rfl⟩ := h_4
  try dsimp only
  refine g_if_ne F 13 dX1_takeTicks_7 (by decide) (fun c_7 => ?_) (fun c_7 => ?_)
  · have P1 := bz_n.mp c_7
    refine g_aload_n F 0 dX1_takeTicks_13 rfl rfl ?_
    refine gf_0_4 F hk mFL_X1_46 dX1_takeTicks_14 ?_
    refine g_iload_n F 1 dX1_takeTicks_17 rfl rfl ?_
    refine g_iadd F dX1_takeTicks_18 ?_
    refine g_ldc F mCN_X1_98 dX1_takeTicks_19 ?_
    refine g_icmp_le F 27 dX1_takeTicks_21 (by decide) (fun c_21 => ?_) (fun c_21 => ?_)
    · rw [R.1.2.1] at c_21
      refine g_iconst (v := 0) F dX1_takeTicks_27 (by decide) ?_
      refine g_istore_n (L' := [(2, _), (0, _), (1, _)]) F dX1_takeTicks_28 rfl (by decide) rfl ?_
      refine g_iconst (v := 0) F dX1_takeTicks_29 (by decide) ?_
      refine g_istore_n (L' := [(3, _), (2, _), (0, _), (1, _)]) F dX1_takeTicks_30 rfl (by decide) rfl ?_
      refine g_sub [2, 3, 1, 0] rfl ?_
      have hx := rng (x := x) (M := 99) (m := 99) rfl (Int32.le_trans (by decide) P1.1) P1.2
      exact LOOP 0 (Nat.zero_le _) P1 (Int32.not_lt.mpr c_21) hx.2 hx.1 _ _ _ _ rfl rfl R Fr.rf
    · rw [R.1.2.1] at c_21
      refine g_bipush (v := -5) F dX1_takeTicks_24 (by decide) ?_
      refine g_iret F hr hlk rfl dX1_takeTicks_26 ?_
      exact Or.inr (Or.inl ⟨P1, Int32.not_le.mp c_21, rfl, rfl⟩)
  · have N1 := bz_0.mp c_7
    refine g_bipush (v := -2) F dX1_takeTicks_10 (by decide) ?_
    refine g_iret F hr hlk rfl dX1_takeTicks_12 ?_
    exact Or.inl ⟨N1, rfl, rfl⟩
