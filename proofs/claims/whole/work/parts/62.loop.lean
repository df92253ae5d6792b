/-! PART 62: the law -/
theorem law_neg : ∀ L, L < 5 → nI L - 5 < nI 0 := by decide +kernel
theorem cbK_1 : ∀ K, K < 24 → 8 ≤ K → cbK K = 1 := by decide +kernel
set_option maxHeartbeats 4000000 in
theorem law_loop {p : Program} {l : Launch} {e : Env} {s : State} {m : MethodId} {below : List Frame} {meth : Method} {c : Code} {G : Gm} {A : Nat → Prop} {b L : Nat} {xs : Nat → Int32} (F : FX p s m #[Value.ref b] c cL_law 4 RL G A) (hj : Aj G) (C : SC s A b L xs) (hA : ∀ q, A q → s.heap.size ≤ q) (hr : meth.sig.returnType = ret) (hlocks : meth.locks = false) : ∀ j, j ≤ L / 5 → ∀ x, x = nI (5 * j) → ∀ I pm, SIM I pm → GG p l e room_1 s m #[Value.ref b] below meth c G A 4 181 4042 (lw_Z below #[Value.ref b] s) I pm [(0, .ref b), (1, .ref (G.2.2 8 0)), (2, .ref (G.2.2 16 0)), (3, .int x)] 18 [] := by
  have hL := C.2.2.2
  refine dn_ind ?_
  intro j hj5 ih x ex I pm S
  refine g_iload_n F 3 dL_law_18 rfl rfl ?_
  refine g_aload_n F 0 dL_law_19 rfl rfl ?_
  refine g_slen F C dL_law_20 ?_
  refine g_iconst (v := 5) F dL_law_21 (by decide) ?_
  refine g_isub F dL_law_22 ?_
  refine g_icmp_gt F 805 dL_law_23 (by decide) (fun c1 => ?_) (fun c1 => ?_)
  · refine g_iconst (v := 1) F dL_law_805 (by decide) ?_
    exact fun H locs ls h1 h2 h3 => va_forget (fun q hq => hA _ (h2.2.2 q hq)) (W.widen (Nat.le_of_ble_eq_true rfl) (Nat.le_of_ble_eq_true rfl) (lw_ret F.1.1 F.1.2.1 hr hlocks dL_law_806))
  · have hk : 5 * j + 5 ≤ L := by
      by_cases h5 : 5 ≤ L
      · have e5 : nI L - 5 = nI (L - 5) := nx_sub rfl rfl h5
        have := nx_gtf ex e5 (by omega) (by omega) c1
        omega
      · have h := law_neg L (by omega)
        rw [ex, show 5 * j = 0 by omega] at c1
        exact absurd h c1
    refine g_aload_n F 0 dL_law_26 rfl rfl ?_
    refine g_iload_n F 3 dL_law_27 rfl rfl ?_
    refine g_sld F C ex (by omega) dL_law_28 ?_
    refine g_bipush (v := 31) F dL_law_29 (by decide) ?_
    refine g_iand F dL_law_31 ?_
    have kk : ∀ I1 pm1, SIM I1 pm1 → GG p l e room_1 s m #[Value.ref b] below meth c G A 4 181 4042 (lw_Z below #[Value.ref b] s) I1 pm1 [(0, .ref b), (1, .ref (G.2.2 8 0)), (2, .ref (G.2.2 16 0)), (3, .int x)] 799 [] := fun I1 pm1 S1 => by
      refine g_iinc (v := x + 5) (L' := [(3, .int (x + 5)), (0, .ref b), (1, .ref (G.2.2 8 0)), (2, .ref (G.2.2 16 0))]) F 3 dL_law_799 rfl rfl (by decide) rfl ?_
      refine g_goto F 18 dL_law_802 (by decide) ?_
      refine g_sub [1, 2, 3, 0] rfl ?_
      exact ih (by omega) _ (nx_add ex rfl) I1 pm1 S1
    generalize xs (5 * j) &&& 31 = v
    by_cases q : v.toInt < 0 ∨ 22 < v.toInt
    · exact g_tabOut F 799 dL_law_32 q (by decide) (kk _ _ S)
    · obtain ⟨t, ht, et⟩ : ∃ t : Nat, t < 23 ∧ v.toInt = (t : Int) := ⟨v.toInt.toNat, by omega, by omega⟩
      rcases (show t = 0 ∨ t = 1 ∨ t = 2 ∨ t = 3 ∨ t = 4 ∨ t = 5 ∨ t = 6 ∨ t = 7 ∨ t = 8 ∨ t = 9 ∨ t = 10 ∨ t = 11 ∨ t = 12 ∨ t = 13 ∨ t = 14 ∨ t = 15 ∨ t = 16 ∨ t = 17 ∨ t = 18 ∨ t = 19 ∨ t = 20 ∨ t = 21 ∨ t = 22 by omega) with rfl | rfl | rfl | rfl | rfl | rfl | rfl | rfl | rfl | rfl | rfl | rfl | rfl | rfl | rfl | rfl | rfl | rfl | rfl | rfl | rfl | rfl | rfl
      · exact g_tabIn (off := 108) F 140 dL_law_32 (by rw [et]; decide) (by rw [et]; decide) (by rw [et]; rfl) (by decide) (la_loco F hj S C ex hk (Nat.le_of_ble_eq_true rfl) (Nat.le_of_ble_eq_true rfl) kk)
      · exact g_tabIn (off := 161) F 193 dL_law_32 (by rw [et]; decide) (by rw [et]; decide) (by rw [et]; rfl) (by decide) (la_lift F hj S C ex hk (Nat.le_of_ble_eq_true rfl) (Nat.le_of_ble_eq_true rfl) kk)
      · exact g_tabIn (off := 184) F 216 dL_law_32 (by rw [et]; decide) (by rw [et]; decide) (by rw [et]; rfl) (by decide) (la_noise F hj S C ex hk (Nat.le_of_ble_eq_true rfl) (Nat.le_of_ble_eq_true rfl) kk)
      · exact g_tabIn (off := 207) F 239 dL_law_32 (by rw [et]; decide) (by rw [et]; decide) (by rw [et]; rfl) (by decide) (la_order F hj S C ex hk (Nat.le_of_ble_eq_true rfl) (Nat.le_of_ble_eq_true rfl) kk)
      · exact g_tabIn (off := 250) F 282 dL_law_32 (by rw [et]; decide) (by rw [et]; decide) (by rw [et]; rfl) (by decide) (la_frame F hj S C ex hk (Nat.le_of_ble_eq_true rfl) (Nat.le_of_ble_eq_true rfl) kk)
      · exact g_tabIn (off := 293) F 325 dL_law_32 (by rw [et]; decide) (by rw [et]; decide) (by rw [et]; rfl) (by decide) (la_shorts F hj S C ex hk (Nat.le_of_ble_eq_true rfl) (Nat.le_of_ble_eq_true rfl) kk)
      · exact g_tabIn (off := 326) F 358 dL_law_32 (by rw [et]; decide) (by rw [et]; decide) (by rw [et]; rfl) (by decide) (la_pass F hj S C ex hk (Nat.le_of_ble_eq_true rfl) (Nat.le_of_ble_eq_true rfl) kk)
      · exact g_tabIn (off := 349) F 381 dL_law_32 (by rw [et]; decide) (by rw [et]; decide) (by rw [et]; rfl) (by decide) (la_of F hj S C ex hk (Nat.le_of_ble_eq_true rfl) (Nat.le_of_ble_eq_true rfl) kk)
      · exact g_tabIn (off := 382) F 414 dL_law_32 (by rw [et]; decide) (by rw [et]; decide) (by rw [et]; rfl) (by decide) (la_address F hj S C ex hk (Nat.le_of_ble_eq_true rfl) (Nat.le_of_ble_eq_true rfl) kk)
      · exact g_tabIn (off := 405) F 437 dL_law_32 (by rw [et]; decide) (by rw [et]; decide) (by rw [et]; rfl) (by decide) (la_waiting F hj S C ex hk (Nat.le_of_ble_eq_true rfl) (Nat.le_of_ble_eq_true rfl) kk)
      · exact g_tabIn (off := 438) F 470 dL_law_32 (by rw [et]; decide) (by rw [et]; decide) (by rw [et]; rfl) (by decide) (la_block F hj S C ex hk (Nat.le_of_ble_eq_true rfl) (Nat.le_of_ble_eq_true rfl) kk)
      · exact g_tabIn (off := 471) F 503 dL_law_32 (by rw [et]; decide) (by rw [et]; decide) (by rw [et]; rfl) (by decide) (la_count F hj S C ex hk (Nat.le_of_ble_eq_true rfl) (Nat.le_of_ble_eq_true rfl) kk)
      · exact g_tabIn (off := 494) F 526 dL_law_32 (by rw [et]; decide) (by rw [et]; decide) (by rw [et]; rfl) (by decide) (la_reaches F hj S C ex hk (Nat.le_of_ble_eq_true rfl) (Nat.le_of_ble_eq_true rfl) kk)
      · exact g_tabIn (off := 527) F 559 dL_law_32 (by rw [et]; decide) (by rw [et]; decide) (by rw [et]; rfl) (by decide) (la_settles F hj S C ex hk (Nat.le_of_ble_eq_true rfl) (Nat.le_of_ble_eq_true rfl) kk)
      · exact g_tabIn (off := 550) F 582 dL_law_32 (by rw [et]; decide) (by rw [et]; decide) (by rw [et]; rfl) (by decide) (la_meets F hj S C ex hk (Nat.le_of_ble_eq_true rfl) (Nat.le_of_ble_eq_true rfl) kk)
      · exact g_tabIn (off := 583) F 615 dL_law_32 (by rw [et]; decide) (by rw [et]; decide) (by rw [et]; rfl) (by decide) (la_stepFor F hj S C ex hk (Nat.le_of_ble_eq_true rfl) (Nat.le_of_ble_eq_true rfl) kk)
      · exact g_tabIn (off := 616) F 648 dL_law_32 (by rw [et]; decide) (by rw [et]; decide) (by rw [et]; rfl) (by decide) (la_put F hj S C ex hk (Nat.le_of_ble_eq_true rfl) (Nat.le_of_ble_eq_true rfl) kk)
      · exact g_tabIn (off := 669) F 701 dL_law_32 (by rw [et]; decide) (by rw [et]; decide) (by rw [et]; rfl) (by decide) (la_wipe F hj S C ex hk (Nat.le_of_ble_eq_true rfl) (Nat.le_of_ble_eq_true rfl) kk)
      · exact g_tabIn (off := 682) F 714 dL_law_32 (by rw [et]; decide) (by rw [et]; decide) (by rw [et]; rfl) (by decide) (la_fault F hj S C ex hk (Nat.le_of_ble_eq_true rfl) (Nat.le_of_ble_eq_true rfl) kk)
      · exact g_tabIn (off := 695) F 727 dL_law_32 (by rw [et]; decide) (by rw [et]; decide) (by rw [et]; rfl) (by decide) (la_carryOut F hj S C ex hk (Nat.le_of_ble_eq_true rfl) (Nat.le_of_ble_eq_true rfl) kk)
      · exact g_tabIn (off := 708) F 740 dL_law_32 (by rw [et]; decide) (by rw [et]; decide) (by rw [et]; rfl) (by decide) (la_undo F hj S C ex hk (Nat.le_of_ble_eq_true rfl) (Nat.le_of_ble_eq_true rfl) kk)
      · exact g_tabIn (off := 721) F 753 dL_law_32 (by rw [et]; decide) (by rw [et]; decide) (by rw [et]; rfl) (by decide) (la_save F hj S C ex hk (Nat.le_of_ble_eq_true rfl) (Nat.le_of_ble_eq_true rfl) kk)
      · exact g_tabIn (off := 744) F 776 dL_law_32 (by rw [et]; decide) (by rw [et]; decide) (by rw [et]; rfl) (by decide) (la_restore F hj S C ex hk (Nat.le_of_ble_eq_true rfl) (Nat.le_of_ble_eq_true rfl) kk)
-- ===== YOUR PART BEGINS =====
set_option maxHeartbeats 4000000 in
theorem whole_start {p : Program} {e : Env} {s : State} {m : MethodId} {below : List Frame} {meth : Method} {c : Code} (l : Launch) (hflags : l.flags = flags0) {b L : Nat} {xs : Nat → Int32} (hL : L ≤ 2560) (C0 : lw_At p s m meth c b L xs) : W p l e room_1 s m #[Value.ref b] below meth c s.heap [] 0 0 (lw_Z below #[Value.ref b] s) (entryFrame m ([Value.ref b] : List Value).toArray 4) := by
  obtain ⟨hx, hb, hr, hml, hown, hts, hX, hbl, hlocks, hgv⟩ := C0
  obtain ⟨G, hG, hK⟩ := law_G hts s.heap.size
  obtain ⟨hNN, hNC⟩ := law_N hts
  have hj : Aj G := aj_B hG
  have CF : CallFix p m c cL_law 4 s #[Value.ref b] wsL_law RL := ⟨hx, hb, hml, hown, fun w h => hts w (wsL_in w h)⟩
  have F : FX p s m #[Value.ref b] c cL_law 4 RL G (fun q => s.heap.size ≤ q) := ⟨CF, hK, hNN, hj, fun K i _ => adB_ge hG K i⟩
  have FF : FN p s m #[Value.ref b] c cL_law 4 RL G (fun q => s.heap.size ≤ q) := ⟨CF, hK, hNC, hj, fun q h => h⟩
  have C : SC s (fun q => s.heap.size ≤ q) b L xs := ⟨hX, hbl, Nat.not_le.mpr hbl, hL⟩
  have N : GN p l e room_1 s m #[Value.ref b] below meth c G (fun q => s.heap.size ≤ q) 4 0 0 (lw_Z below #[Value.ref b] s) (fun _ _ => False) (EC G [.null, .null, .null, .null, .null, .null] 0) s.heap.size (lv_args 0 [.ref b]) 0 [] := by
    refine n_new (K := 8) (i := 0) FF inlX5 tyX5 tyX5_ok mCL_L_7 mIS_RX5 mIN_RX5 (ci := 5) (fs := [.null, .null, .null, .null, .null, .null]) rfl (fun j hj => by rcases (show j = 0 ∨ j = 1 ∨ j = 2 ∨ j = 3 ∨ j = 4 ∨ j = 5 by omega) with rfl | rfl | rfl | rfl | rfl | rfl <;> rfl) (Nat.le_of_ble_eq_true rfl) (Nat.le_of_ble_eq_true rfl) (by decide) (ad_8 hG) dL_law_0 ?_
    refine n_mono (S' := SZ (fun _ _ => False) 0) (E' := (EC G [.null, .null, .null, .null, .null, .null] 0)) (fun K i h => ⟨?_, ec_one rfl⟩) ?_
    · rcases h with h | h | ⟨-, h⟩ | ⟨-, h⟩
      · exact Or.inl h
      · exact Or.inr h
      · omega
      · omega
    refine n_dup FF dL_law_3 rfl ?_
    refine n_call FF (k_X5 hj hG rfl) (gw mCO_yX5_init) mML_L_9 mIM_yX5_init mIN_RX5 rfl (adB_ge hG 8 0) (fun q h => by show s.heap.size ≤ q; omega) (by decide +kernel) ⟨rfl, rfl, Nat.le_of_ble_eq_true rfl, Nat.le_of_ble_eq_true rfl, Nat.le_of_ble_eq_true rfl, Nat.le_of_ble_eq_true rfl, Nat.le_of_ble_eq_true rfl⟩ dL_law_4 ?_
    refine n_astore_n (L' := [(1, .ref (G.2.2 8 0)), (0, .ref b)]) FF dL_law_7 rfl (by decide) rfl ?_
    refine n_new (K := 16) (i := 0) FF inlX6 tyX6 tyX6_ok mCL_L_10 mIS_RX6 mIN_RX6 (ci := 6) (fs := [.int 0, .null, .null, .null, .int 0, .null, .null, .null, .int 0, .int 0, .int 0, .null, .int 0]) rfl (fun j hj => by rcases (show j = 0 ∨ j = 1 ∨ j = 2 ∨ j = 3 ∨ j = 4 ∨ j = 5 ∨ j = 6 ∨ j = 7 ∨ j = 8 ∨ j = 9 ∨ j = 10 ∨ j = 11 ∨ j = 12 by omega) with rfl | rfl | rfl | rfl | rfl | rfl | rfl | rfl | rfl | rfl | rfl | rfl | rfl <;> rfl) (Nat.le_of_ble_eq_true rfl) (Nat.le_of_ble_eq_true rfl) (by decide) (by have := ad_rf (K := 16) (i := 0) hG (by decide); omega) dL_law_8 ?_
    refine n_dup FF dL_law_11 rfl ?_
    refine n_call FF (k_X6 hj (Or.inr ⟨rfl, rfl⟩) (by simp [upE]) (by have := ad_rf (K := 17) (i := 0) hG (by decide); omega) (by have := ad_rf (K := 18) (i := 0) hG (by decide); omega) (by have := ad_rf (K := 19) (i := 0) hG (by decide); omega) (by have := ad_rf (K := 20) (i := 0) hG (by decide); omega) (by have := ad_rf (K := 21) (i := 0) hG (by decide); omega) (by have := ad_rf (K := 22) (i := 0) hG (by decide); omega) (by have := ad_rf (K := 23) (i := 0) hG (by decide); omega)) (gw mCO_yX6_init) mML_L_12 mIM_yX6_init mIN_RX6 rfl (adB_ge hG 16 0) (fun q h => by show s.heap.size ≤ q; omega) (by decide +kernel) ⟨rfl, rfl, Nat.le_of_ble_eq_true rfl, Nat.le_of_ble_eq_true rfl, Nat.le_of_ble_eq_true rfl, Nat.le_of_ble_eq_true rfl, Nat.le_of_ble_eq_true rfl⟩ dL_law_12 ?_
    refine n_astore_n (L' := [(2, .ref (G.2.2 16 0)), (1, .ref (G.2.2 8 0)), (0, .ref b)]) FF dL_law_15 rfl (by decide) rfl ?_
    refine n_iconst (v := 0) FF dL_law_16 (by decide) ?_
    refine n_istore_n (L' := [(3, .int 0), (2, .ref (G.2.2 16 0)), (1, .ref (G.2.2 8 0)), (0, .ref b)]) FF dL_law_17 rfl (by decide) rfl ?_
    refine n_sub [3, 2, 1, 0] rfl ?_
    refine n_world (fun K i hi => ?_) (law_loop F hj C (fun q h => h) hr hlocks 0 (Nat.zero_le _) _ rfl _ _ sim_0)
    have h24 := cbK_lt hi
    by_cases h15 : K ≤ 15
    · refine ⟨Or.inl (Or.inl ⟨h15, hi⟩), ?_⟩
      try dsimp only
      rw [if_neg (by omega)]
      unfold upE
      rw [if_neg (by omega)]
    · have h1 := cbK_1 K h24.1 (by omega)
      rw [h1] at hi
      have e0 : i = 0 := by omega
      subst e0
      refine ⟨?_, ?_⟩
      · by_cases q : K = 16
        · exact Or.inl (Or.inr ⟨q, rfl⟩)
        · exact Or.inr ⟨⟨by omega, by omega⟩, rfl⟩
      · try dsimp only
        rw [if_pos ⟨⟨by omega, by omega⟩, rfl⟩]
  have hg := N s.heap [] _ ⟨rfl, fun K i h => h.elim⟩ va_S.rf (lv_entry [.ref b] (n := 4) (Nat.le_of_ble_eq_true rfl))
  rw [← lg_entry_eq] at hg
  exact hg
