/-! PART 92: the law's start -/
set_option maxHeartbeats 4000000 in
theorem whole_start {p : Program} {e : Env} {s : State} {m : MethodId} {below : List Frame} {meth : Method} {c : Code} (l : Launch) (hflags : l.flags = flags0) {b L : Nat} {xs : Nat → Int32} (hL : L ≤ 260) (C0 : lw_At p s m meth c b L xs) : W p l e room_1 s m #[Value.ref b] below meth c s.heap [] 0 0 (lw_Z below #[Value.ref b] s) (entryFrame m ([Value.ref b] : List Value).toArray 14) := by
  obtain ⟨hx, hb, hr, hml, hown, hts, hX, hbl, hlocks, hgv⟩ := C0
  obtain ⟨G, hG, hK⟩ := law_G hts s.heap.size
  obtain ⟨hNN, hNC⟩ := law_N hts
  have hj : Aj G := aj_B hG
  have CF : CallFix p m c cL_law 14 s #[Value.ref b] wsL_law RL := ⟨hx, hb, hml, hown, fun w h => hts w (wsL_in w h)⟩
  have F : FX p s m #[Value.ref b] c cL_law 14 RL G (fun q => s.heap.size ≤ q) := ⟨CF, hK, hNN, hj, fun K i _ => adB_ge hG K i⟩
  have FF : FN p s m #[Value.ref b] c cL_law 14 RL G (fun q => s.heap.size ≤ q) := ⟨CF, hK, hNC, hj, fun q h => h⟩
  have C : SC s (fun q => s.heap.size ≤ q) b L xs := ⟨hX, hbl, Nat.not_le.mpr hbl, hL⟩
  have N : GN p l e room_1 s m #[Value.ref b] below meth c G (fun q => s.heap.size ≤ q) 14 0 0 (lw_Z below #[Value.ref b] s) (fun _ _ => False) (EC G [.null, .null, .null, .null, .null, .null] 0) s.heap.size (lv_args 0 [.ref b]) 0 [] := by
    refine n_new (K := 8) (i := 0) FF inlX5 tyX5 tyX5_ok mCL_L_13 mIS_RX5 mIN_RX5 (ci := 5) (fs := [.null, .null, .null, .null, .null, .null]) rfl (fun j hj => by rcases (show j = 0 ∨ j = 1 ∨ j = 2 ∨ j = 3 ∨ j = 4 ∨ j = 5 by omega) with rfl | rfl | rfl | rfl | rfl | rfl <;> rfl) (Nat.le_of_ble_eq_true rfl) (Nat.le_of_ble_eq_true rfl) (by decide) (ad_8 hG) dL_law_0 ?_
    refine n_mono (S' := SZ (fun _ _ => False) 0) (E' := (EC G [.null, .null, .null, .null, .null, .null] 0)) (fun K i h => ⟨?_, ec_one rfl⟩) ?_
    · rcases h with h | h | ⟨-, h⟩ | ⟨-, h⟩
      · exact Or.inl h
      · exact Or.inr h
      · omega
      · omega
    refine n_dup FF dL_law_3 rfl ?_
    refine n_call FF (k_X5 hj hG rfl) (gw mCO_yX5_init) mML_L_72 mIM_yX5_init mIN_RX5 rfl (adB_ge hG 8 0) (fun q h => by show s.heap.size ≤ q; omega) (by decide +kernel) ⟨rfl, rfl, Nat.le_of_ble_eq_true rfl, Nat.le_of_ble_eq_true rfl, Nat.le_of_ble_eq_true rfl, Nat.le_of_ble_eq_true rfl, Nat.le_of_ble_eq_true rfl⟩ dL_law_4 ?_
    refine n_astore_n (L' := [(1, .ref (G.2.2 8 0)), (0, .ref b)]) FF dL_law_7 rfl (by decide) rfl ?_
    refine n_sub [1, 0] rfl ?_
    exact n_world (fun K i hi => ⟨⟨by have := (cbK_lt hi).1; omega, hi⟩, rfl⟩) (law_pre F hj C (fun q h => h) hr hlocks)
  have hg := N s.heap [] _ ⟨rfl, fun K i h => h.elim⟩ va_S.rf (lv_entry [.ref b] (n := 14) (Nat.le_of_ble_eq_true rfl))
  rw [← lg_entry_eq] at hg
  exact hg
