-- ===== PART A: goes FIRST, ahead of the names: the tables' words, and 'selects' of the private methods out of them =====
/-- a private method of a class that the tables say can be made, by its rows of tables_1 -/
def lw_okq (q : MethodName × Nat) : Prop := (q.1.cls ≠ "java/lang/invoke/MethodHandle" ∧ q.1.cls ≠ "java/lang/invoke/VarHandle") ∧ Cond.instantiable q.1.cls q.2 ∈ tables_1 ∧ Cond.privateMethod q.1 ∈ tables_1 ∧ Cond.instanceMethod q.1 ∈ tables_1
theorem lw_p0 : lw_okq (⟨"LocoFrames$Layout", "rankOf", "(I)I"⟩, 10) := ⟨⟨by decide +kernel, by decide +kernel⟩, List.mem_of_getElem? (i := 19) (by decide +kernel), List.mem_of_getElem? (i := 233) (by decide +kernel), List.mem_of_getElem? (i := 234) (by decide +kernel)⟩
theorem lw_p1 : lw_okq (⟨"LocoFrames$Station", "setRow", "(IIII)V"⟩, 4) := ⟨⟨by decide +kernel, by decide +kernel⟩, List.mem_of_getElem? (i := 27) (by decide +kernel), List.mem_of_getElem? (i := 270) (by decide +kernel), List.mem_of_getElem? (i := 271) (by decide +kernel)⟩
theorem lw_p2 : lw_okq (⟨"LocoFrames$Layout", "isShorted", "(I)Z"⟩, 10) := ⟨⟨by decide +kernel, by decide +kernel⟩, List.mem_of_getElem? (i := 19) (by decide +kernel), List.mem_of_getElem? (i := 286) (by decide +kernel), List.mem_of_getElem? (i := 287) (by decide +kernel)⟩
theorem lw_p3 : lw_okq (⟨"LocoFrames$Layout", "sendFirst", "()I"⟩, 10) := ⟨⟨by decide +kernel, by decide +kernel⟩, List.mem_of_getElem? (i := 19) (by decide +kernel), List.mem_of_getElem? (i := 319) (by decide +kernel), List.mem_of_getElem? (i := 320) (by decide +kernel)⟩
theorem lw_p4 : lw_okq (⟨"LocoFrames$Pad", "here", "()I"⟩, 6) := ⟨⟨by decide +kernel, by decide +kernel⟩, List.mem_of_getElem? (i := 153) (by decide +kernel), List.mem_of_getElem? (i := 483) (by decide +kernel), List.mem_of_getElem? (i := 484) (by decide +kernel)⟩
theorem lw_p5 : lw_okq (⟨"LocoFrames$Pad", "readsNumber", "()Z"⟩, 6) := ⟨⟨by decide +kernel, by decide +kernel⟩, List.mem_of_getElem? (i := 153) (by decide +kernel), List.mem_of_getElem? (i := 487) (by decide +kernel), List.mem_of_getElem? (i := 488) (by decide +kernel)⟩
theorem lw_p6 : lw_okq (⟨"LocoFrames$Pad", "hold", "(I)V"⟩, 6) := ⟨⟨by decide +kernel, by decide +kernel⟩, List.mem_of_getElem? (i := 153) (by decide +kernel), List.mem_of_getElem? (i := 491) (by decide +kernel), List.mem_of_getElem? (i := 492) (by decide +kernel)⟩
theorem lw_p7 : lw_okq (⟨"LocoFrames$Pad", "readsDigit", "(I)Z"⟩, 6) := ⟨⟨by decide +kernel, by decide +kernel⟩, List.mem_of_getElem? (i := 153) (by decide +kernel), List.mem_of_getElem? (i := 499) (by decide +kernel), List.mem_of_getElem? (i := 500) (by decide +kernel)⟩
theorem lw_p8 : lw_okq (⟨"LocoFrames", "carriesOne", "()Z"⟩, 6) := ⟨⟨by decide +kernel, by decide +kernel⟩, List.mem_of_getElem? (i := 11) (by decide +kernel), List.mem_of_getElem? (i := 509) (by decide +kernel), List.mem_of_getElem? (i := 510) (by decide +kernel)⟩
theorem lw_p9 : lw_okq (⟨"LocoFramesModel", "locoOf", "(I)I"⟩, 13) := ⟨⟨by decide +kernel, by decide +kernel⟩, List.mem_of_getElem? (i := 530) (by decide +kernel), List.mem_of_getElem? (i := 583) (by decide +kernel), List.mem_of_getElem? (i := 584) (by decide +kernel)⟩
theorem lw_p10 : lw_okq (⟨"LocoFramesModel", "get", "(II)I"⟩, 13) := ⟨⟨by decide +kernel, by decide +kernel⟩, List.mem_of_getElem? (i := 530) (by decide +kernel), List.mem_of_getElem? (i := 587) (by decide +kernel), List.mem_of_getElem? (i := 588) (by decide +kernel)⟩
theorem lw_p11 : lw_okq (⟨"LocoFramesModel", "records", "()V"⟩, 13) := ⟨⟨by decide +kernel, by decide +kernel⟩, List.mem_of_getElem? (i := 530) (by decide +kernel), List.mem_of_getElem? (i := 591) (by decide +kernel), List.mem_of_getElem? (i := 592) (by decide +kernel)⟩
theorem lw_p12 : lw_okq (⟨"LocoFramesModel", "lay", "(III)V"⟩, 13) := ⟨⟨by decide +kernel, by decide +kernel⟩, List.mem_of_getElem? (i := 530) (by decide +kernel), List.mem_of_getElem? (i := 595) (by decide +kernel), List.mem_of_getElem? (i := 596) (by decide +kernel)⟩
theorem lw_p13 : lw_okq (⟨"LocoFramesModel", "refusesOrder", "(III)I"⟩, 13) := ⟨⟨by decide +kernel, by decide +kernel⟩, List.mem_of_getElem? (i := 530) (by decide +kernel), List.mem_of_getElem? (i := 611) (by decide +kernel), List.mem_of_getElem? (i := 612) (by decide +kernel)⟩
theorem lw_p14 : lw_okq (⟨"LocoFramesModel", "laysOrder", "(III)I"⟩, 13) := ⟨⟨by decide +kernel, by decide +kernel⟩, List.mem_of_getElem? (i := 530) (by decide +kernel), List.mem_of_getElem? (i := 615) (by decide +kernel), List.mem_of_getElem? (i := 616) (by decide +kernel)⟩
theorem lw_p15 : lw_okq (⟨"LocoFramesModel", "comes", "(III)I"⟩, 13) := ⟨⟨by decide +kernel, by decide +kernel⟩, List.mem_of_getElem? (i := 530) (by decide +kernel), List.mem_of_getElem? (i := 626) (by decide +kernel), List.mem_of_getElem? (i := 627) (by decide +kernel)⟩
def lw_privs_1 : List (MethodName × Nat) := [(⟨"LocoFrames$Layout", "rankOf", "(I)I"⟩, 10), (⟨"LocoFrames$Station", "setRow", "(IIII)V"⟩, 4), (⟨"LocoFrames$Layout", "isShorted", "(I)Z"⟩, 10), (⟨"LocoFrames$Layout", "sendFirst", "()I"⟩, 10), (⟨"LocoFrames$Pad", "here", "()I"⟩, 6), (⟨"LocoFrames$Pad", "readsNumber", "()Z"⟩, 6), (⟨"LocoFrames$Pad", "hold", "(I)V"⟩, 6), (⟨"LocoFrames$Pad", "readsDigit", "(I)Z"⟩, 6), (⟨"LocoFrames", "carriesOne", "()Z"⟩, 6), (⟨"LocoFramesModel", "locoOf", "(I)I"⟩, 13), (⟨"LocoFramesModel", "get", "(II)I"⟩, 13), (⟨"LocoFramesModel", "records", "()V"⟩, 13), (⟨"LocoFramesModel", "lay", "(III)V"⟩, 13), (⟨"LocoFramesModel", "refusesOrder", "(III)I"⟩, 13), (⟨"LocoFramesModel", "laysOrder", "(III)I"⟩, 13), (⟨"LocoFramesModel", "comes", "(III)I"⟩, 13)]
theorem lw_r1 : ∀ q ∈ lw_privs_1, lw_okq q := List.forall_mem_cons.mpr ⟨lw_p0, List.forall_mem_cons.mpr ⟨lw_p1, List.forall_mem_cons.mpr ⟨lw_p2, List.forall_mem_cons.mpr ⟨lw_p3, List.forall_mem_cons.mpr ⟨lw_p4, List.forall_mem_cons.mpr ⟨lw_p5, List.forall_mem_cons.mpr ⟨lw_p6, List.forall_mem_cons.mpr ⟨lw_p7, List.forall_mem_cons.mpr ⟨lw_p8, List.forall_mem_cons.mpr ⟨lw_p9, List.forall_mem_cons.mpr ⟨lw_p10, List.forall_mem_cons.mpr ⟨lw_p11, List.forall_mem_cons.mpr ⟨lw_p12, List.forall_mem_cons.mpr ⟨lw_p13, List.forall_mem_cons.mpr ⟨lw_p14, List.forall_mem_cons.mpr ⟨lw_p15, fun _ h => absurd h List.not_mem_nil⟩⟩⟩⟩⟩⟩⟩⟩⟩⟩⟩⟩⟩⟩⟩⟩
theorem lw_p16 : lw_okq (⟨"LocoFramesModel", "isShort", "(I)Z"⟩, 13) := ⟨⟨by decide +kernel, by decide +kernel⟩, List.mem_of_getElem? (i := 530) (by decide +kernel), List.mem_of_getElem? (i := 630) (by decide +kernel), List.mem_of_getElem? (i := 631) (by decide +kernel)⟩
theorem lw_p17 : lw_okq (⟨"LocoFramesModel", "blockOf", "(I)I"⟩, 13) := ⟨⟨by decide +kernel, by decide +kernel⟩, List.mem_of_getElem? (i := 530) (by decide +kernel), List.mem_of_getElem? (i := 634) (by decide +kernel), List.mem_of_getElem? (i := 635) (by decide +kernel)⟩
theorem lw_p18 : lw_okq (⟨"LocoFramesModel", "hears", "(II)V"⟩, 13) := ⟨⟨by decide +kernel, by decide +kernel⟩, List.mem_of_getElem? (i := 530) (by decide +kernel), List.mem_of_getElem? (i := 638) (by decide +kernel), List.mem_of_getElem? (i := 639) (by decide +kernel)⟩
theorem lw_p19 : lw_okq (⟨"LocoFramesModel", "refusesPass", "(I)I"⟩, 13) := ⟨⟨by decide +kernel, by decide +kernel⟩, List.mem_of_getElem? (i := 530) (by decide +kernel), List.mem_of_getElem? (i := 653) (by decide +kernel), List.mem_of_getElem? (i := 654) (by decide +kernel)⟩
theorem lw_p20 : lw_okq (⟨"LocoFramesModel", "ticks", "(I)I"⟩, 13) := ⟨⟨by decide +kernel, by decide +kernel⟩, List.mem_of_getElem? (i := 530) (by decide +kernel), List.mem_of_getElem? (i := 658) (by decide +kernel), List.mem_of_getElem? (i := 659) (by decide +kernel)⟩
theorem lw_p21 : lw_okq (⟨"LocoFramesModel", "tick", "()I"⟩, 13) := ⟨⟨by decide +kernel, by decide +kernel⟩, List.mem_of_getElem? (i := 530) (by decide +kernel), List.mem_of_getElem? (i := 662) (by decide +kernel), List.mem_of_getElem? (i := 663) (by decide +kernel)⟩
theorem lw_p22 : lw_okq (⟨"LocoFramesModel", "sends", "()I"⟩, 13) := ⟨⟨by decide +kernel, by decide +kernel⟩, List.mem_of_getElem? (i := 530) (by decide +kernel), List.mem_of_getElem? (i := 666) (by decide +kernel), List.mem_of_getElem? (i := 667) (by decide +kernel)⟩
theorem lw_p23 : lw_okq (⟨"LocoFramesModel", "speeds", "(I)V"⟩, 13) := ⟨⟨by decide +kernel, by decide +kernel⟩, List.mem_of_getElem? (i := 530) (by decide +kernel), List.mem_of_getElem? (i := 670) (by decide +kernel), List.mem_of_getElem? (i := 671) (by decide +kernel)⟩
theorem lw_p24 : lw_okq (⟨"LocoFramesModel", "due", "(I)I"⟩, 13) := ⟨⟨by decide +kernel, by decide +kernel⟩, List.mem_of_getElem? (i := 530) (by decide +kernel), List.mem_of_getElem? (i := 674) (by decide +kernel), List.mem_of_getElem? (i := 675) (by decide +kernel)⟩
theorem lw_p25 : lw_okq (⟨"LocoFramesModel", "goes", "(I)V"⟩, 13) := ⟨⟨by decide +kernel, by decide +kernel⟩, List.mem_of_getElem? (i := 530) (by decide +kernel), List.mem_of_getElem? (i := 681) (by decide +kernel), List.mem_of_getElem? (i := 682) (by decide +kernel)⟩
theorem lw_p26 : lw_okq (⟨"LocoFramesModel", "locosIn", "(I)I"⟩, 13) := ⟨⟨by decide +kernel, by decide +kernel⟩, List.mem_of_getElem? (i := 530) (by decide +kernel), List.mem_of_getElem? (i := 701) (by decide +kernel), List.mem_of_getElem? (i := 702) (by decide +kernel)⟩
theorem lw_p27 : lw_okq (⟨"LocoFramesModel", "overBlocks", "(I)I"⟩, 13) := ⟨⟨by decide +kernel, by decide +kernel⟩, List.mem_of_getElem? (i := 530) (by decide +kernel), List.mem_of_getElem? (i := 709) (by decide +kernel), List.mem_of_getElem? (i := 710) (by decide +kernel)⟩
theorem lw_p28 : lw_okq (⟨"LocoFramesModel", "allSpeeds", "()I"⟩, 13) := ⟨⟨by decide +kernel, by decide +kernel⟩, List.mem_of_getElem? (i := 530) (by decide +kernel), List.mem_of_getElem? (i := 713) (by decide +kernel), List.mem_of_getElem? (i := 714) (by decide +kernel)⟩
theorem lw_p29 : lw_okq (⟨"LocoFramesModel", "putAside", "()V"⟩, 13) := ⟨⟨by decide +kernel, by decide +kernel⟩, List.mem_of_getElem? (i := 530) (by decide +kernel), List.mem_of_getElem? (i := 721) (by decide +kernel), List.mem_of_getElem? (i := 722) (by decide +kernel)⟩
theorem lw_p30 : lw_okq (⟨"LocoFramesModel", "takeBack", "()V"⟩, 13) := ⟨⟨by decide +kernel, by decide +kernel⟩, List.mem_of_getElem? (i := 530) (by decide +kernel), List.mem_of_getElem? (i := 725) (by decide +kernel), List.mem_of_getElem? (i := 726) (by decide +kernel)⟩
theorem lw_p31 : lw_okq (⟨"LocoFramesModel", "reads", "()I"⟩, 13) := ⟨⟨by decide +kernel, by decide +kernel⟩, List.mem_of_getElem? (i := 530) (by decide +kernel), List.mem_of_getElem? (i := 754) (by decide +kernel), List.mem_of_getElem? (i := 755) (by decide +kernel)⟩
def lw_privs_2 : List (MethodName × Nat) := [(⟨"LocoFramesModel", "isShort", "(I)Z"⟩, 13), (⟨"LocoFramesModel", "blockOf", "(I)I"⟩, 13), (⟨"LocoFramesModel", "hears", "(II)V"⟩, 13), (⟨"LocoFramesModel", "refusesPass", "(I)I"⟩, 13), (⟨"LocoFramesModel", "ticks", "(I)I"⟩, 13), (⟨"LocoFramesModel", "tick", "()I"⟩, 13), (⟨"LocoFramesModel", "sends", "()I"⟩, 13), (⟨"LocoFramesModel", "speeds", "(I)V"⟩, 13), (⟨"LocoFramesModel", "due", "(I)I"⟩, 13), (⟨"LocoFramesModel", "goes", "(I)V"⟩, 13), (⟨"LocoFramesModel", "locosIn", "(I)I"⟩, 13), (⟨"LocoFramesModel", "overBlocks", "(I)I"⟩, 13), (⟨"LocoFramesModel", "allSpeeds", "()I"⟩, 13), (⟨"LocoFramesModel", "putAside", "()V"⟩, 13), (⟨"LocoFramesModel", "takeBack", "()V"⟩, 13), (⟨"LocoFramesModel", "reads", "()I"⟩, 13)]
theorem lw_r2 : ∀ q ∈ lw_privs_2, lw_okq q := List.forall_mem_cons.mpr ⟨lw_p16, List.forall_mem_cons.mpr ⟨lw_p17, List.forall_mem_cons.mpr ⟨lw_p18, List.forall_mem_cons.mpr ⟨lw_p19, List.forall_mem_cons.mpr ⟨lw_p20, List.forall_mem_cons.mpr ⟨lw_p21, List.forall_mem_cons.mpr ⟨lw_p22, List.forall_mem_cons.mpr ⟨lw_p23, List.forall_mem_cons.mpr ⟨lw_p24, List.forall_mem_cons.mpr ⟨lw_p25, List.forall_mem_cons.mpr ⟨lw_p26, List.forall_mem_cons.mpr ⟨lw_p27, List.forall_mem_cons.mpr ⟨lw_p28, List.forall_mem_cons.mpr ⟨lw_p29, List.forall_mem_cons.mpr ⟨lw_p30, List.forall_mem_cons.mpr ⟨lw_p31, fun _ h => absurd h List.not_mem_nil⟩⟩⟩⟩⟩⟩⟩⟩⟩⟩⟩⟩⟩⟩⟩⟩
theorem lw_p32 : lw_okq (⟨"LocoFramesModel", "readsOrder", "()V"⟩, 13) := ⟨⟨by decide +kernel, by decide +kernel⟩, List.mem_of_getElem? (i := 530) (by decide +kernel), List.mem_of_getElem? (i := 758) (by decide +kernel), List.mem_of_getElem? (i := 759) (by decide +kernel)⟩
theorem lw_p33 : lw_okq (⟨"LocoFramesModel", "sign", "()I"⟩, 13) := ⟨⟨by decide +kernel, by decide +kernel⟩, List.mem_of_getElem? (i := 530) (by decide +kernel), List.mem_of_getElem? (i := 762) (by decide +kernel), List.mem_of_getElem? (i := 763) (by decide +kernel)⟩
theorem lw_p34 : lw_okq (⟨"LocoFramesModel", "digit", "(I)I"⟩, 13) := ⟨⟨by decide +kernel, by decide +kernel⟩, List.mem_of_getElem? (i := 530) (by decide +kernel), List.mem_of_getElem? (i := 766) (by decide +kernel), List.mem_of_getElem? (i := 767) (by decide +kernel)⟩
theorem lw_p35 : lw_okq (⟨"LocoFramesModel", "number", "()I"⟩, 13) := ⟨⟨by decide +kernel, by decide +kernel⟩, List.mem_of_getElem? (i := 530) (by decide +kernel), List.mem_of_getElem? (i := 770) (by decide +kernel), List.mem_of_getElem? (i := 771) (by decide +kernel)⟩
theorem lw_p36 : lw_okq (⟨"LocoFramesModel", "wants", "(I)V"⟩, 13) := ⟨⟨by decide +kernel, by decide +kernel⟩, List.mem_of_getElem? (i := 530) (by decide +kernel), List.mem_of_getElem? (i := 774) (by decide +kernel), List.mem_of_getElem? (i := 775) (by decide +kernel)⟩
theorem lw_p37 : lw_okq (⟨"LocoFramesModel", "refuses", "(I)I"⟩, 13) := ⟨⟨by decide +kernel, by decide +kernel⟩, List.mem_of_getElem? (i := 530) (by decide +kernel), List.mem_of_getElem? (i := 782) (by decide +kernel), List.mem_of_getElem? (i := 783) (by decide +kernel)⟩
theorem lw_p38 : lw_okq (⟨"LocoFramesModel", "does", "(I)V"⟩, 13) := ⟨⟨by decide +kernel, by decide +kernel⟩, List.mem_of_getElem? (i := 530) (by decide +kernel), List.mem_of_getElem? (i := 786) (by decide +kernel), List.mem_of_getElem? (i := 787) (by decide +kernel)⟩
def lw_privs_3 : List (MethodName × Nat) := [(⟨"LocoFramesModel", "readsOrder", "()V"⟩, 13), (⟨"LocoFramesModel", "sign", "()I"⟩, 13), (⟨"LocoFramesModel", "digit", "(I)I"⟩, 13), (⟨"LocoFramesModel", "number", "()I"⟩, 13), (⟨"LocoFramesModel", "wants", "(I)V"⟩, 13), (⟨"LocoFramesModel", "refuses", "(I)I"⟩, 13), (⟨"LocoFramesModel", "does", "(I)V"⟩, 13)]
theorem lw_r3 : ∀ q ∈ lw_privs_3, lw_okq q := List.forall_mem_cons.mpr ⟨lw_p32, List.forall_mem_cons.mpr ⟨lw_p33, List.forall_mem_cons.mpr ⟨lw_p34, List.forall_mem_cons.mpr ⟨lw_p35, List.forall_mem_cons.mpr ⟨lw_p36, List.forall_mem_cons.mpr ⟨lw_p37, List.forall_mem_cons.mpr ⟨lw_p38, fun _ h => absurd h List.not_mem_nil⟩⟩⟩⟩⟩⟩⟩
def lw_privs : List (MethodName × Nat) := lw_privs_1 ++ (lw_privs_2 ++ (lw_privs_3))
def lw_tbl : List Cond := k2_sels lw_privs ++ tables_1
theorem lw_privs_ok : ∀ q ∈ lw_privs, lw_okq q := by
  show ∀ q ∈ lw_privs_1 ++ (lw_privs_2 ++ (lw_privs_3)), lw_okq q
  exact List.forall_mem_append.mpr ⟨lw_r1, List.forall_mem_append.mpr ⟨lw_r2, lw_r3⟩⟩
/-! ===== BEGIN words of one list among another's, by their places ===== -/
theorem goodIn_r {big : List Cond} (ws : List Cond) (ps : List Nat) (hp : ws = ps.filterMap (fun i => big[i]?)) (h : ws.all goodWord = true) : GoodIn big ws := by
  intro w hw
  have h1 := List.all_eq_true.mp h w hw
  rw [hp] at hw
  obtain ⟨i, -, hi⟩ := List.mem_filterMap.mp hw
  have hm : w ∈ big := by first | exact List.mem_of_getElem? hi | exact List.getElem?_mem hi
  exact ⟨hm, good_of_word h1⟩
theorem goodIn_app {big a b : List Cond} (ha : GoodIn big a) (hb : GoodIn big b) : GoodIn big (a ++ b) := fun w h => (List.mem_append.mp h).elim (ha w) (hb w)
theorem goodIn_ca {big a b : List Cond} {c : Cond} (ha : GoodIn big (c :: a)) (hb : GoodIn big b) : GoodIn big (c :: (a ++ b)) := fun w h => (List.mem_cons.mp h).elim (fun e => ha w (List.mem_cons.mpr (Or.inl e))) (fun h => (List.mem_append.mp h).elim (fun h => ha w (List.mem_cons.mpr (Or.inr h))) (hb w))
theorem goodIn_sub {big ws : List Cond} (hm : ∀ w ∈ ws, w ∈ big) (h : ws.all goodWord = true) : GoodIn big ws := fun w hw => ⟨hm w hw, good_of_word (List.all_eq_true.mp h w hw)⟩
/-! ===== END ===== -/

/-! ===== BEGIN printed: names, fields, word lists, decode rows ===== -/
def RX0 : String := "LocoFrames$History"
def TX0 : u_T := fun k => match k with
  | 0 => ("LocoFrames$History", "states", "[LLocoFrames$Layout;", true)
  | 1 => ("LocoFrames$History", "first", "I", false)
  | _ => ("LocoFrames$History", "held", "I", false)
def tyX0 : Nat → FieldType := fun k => match k with
  | 0 => .array (.object "LocoFrames$Layout")
  | 1 => .int
  | _ => .int
abbrev wsX00 : List Cond := u_ws RX0 TX0 3
theorem nmX0 : ∀ a, a < 3 → ∀ b, b < 3 → a ≠ b → (TX0 a).2.1 ≠ (TX0 b).2.1 := by decide +kernel
theorem tyX0_ok : ∀ k, k < 3 → parseFieldDescriptor (TX0 k).2.2.1 = some (tyX0 k) := by decide +kernel
abbrev cX0_init : ByteArray := prog_2_method_1_code
def yX0_init : MethodName := ⟨RX0, "<init>", "()V"⟩
abbrev cX0_draft : ByteArray := prog_2_method_2_code
def yX0_draft : MethodName := ⟨RX0, "draft", "(LLocoFrames$Layout;)V"⟩
abbrev cX0_kept : ByteArray := prog_2_method_3_code
def yX0_kept : MethodName := ⟨RX0, "kept", "(I)I"⟩
abbrev cX0_takeBack : ByteArray := prog_2_method_4_code
def yX0_takeBack : MethodName := ⟨RX0, "takeBack", "(LLocoFrames$Layout;)I"⟩
def RX1 : String := "LocoFrames$Layout"
def TX1 : u_T := fun k => match k with
  | 0 => ("LocoFrames$Layout", "locos", "[LLocoFrames$Loco;", true)
  | 1 => ("LocoFrames$Layout", "station", "LLocoFrames$Station;", true)
  | 2 => ("LocoFrames$Layout", "shortTicks", "[I", true)
  | 3 => ("LocoFrames$Layout", "locoCount", "I", false)
  | 4 => ("LocoFrames$Layout", "ticks", "I", false)
  | 5 => ("LocoFrames$Layout", "noiseTicks", "I", false)
  | 6 => ("LocoFrames$Layout", "spoiledAt", "I", false)
  | 7 => ("LocoFrames$Layout", "frames", "I", false)
  | 8 => ("LocoFrames$Layout", "broken", "I", false)
  | _ => ("LocoFrames$Layout", "spoiled", "I", false)
def tyX1 : Nat → FieldType := fun k => match k with
  | 0 => .array (.object "LocoFrames$Loco")
  | 1 => .object "LocoFrames$Station"
  | 2 => .array .int
  | 3 => .int
  | 4 => .int
  | 5 => .int
  | 6 => .int
  | 7 => .int
  | 8 => .int
  | _ => .int
abbrev wsX10 : List Cond := u_ws RX1 TX1 10
theorem nmX1 : ∀ a, a < 10 → ∀ b, b < 10 → a ≠ b → (TX1 a).2.1 ≠ (TX1 b).2.1 := by decide +kernel
theorem tyX1_ok : ∀ k, k < 10 → parseFieldDescriptor (TX1 k).2.2.1 = some (tyX1 k) := by decide +kernel
abbrev cX1_init : ByteArray := prog_3_method_1_code
def yX1_init : MethodName := ⟨RX1, "<init>", "()V"⟩
abbrev cX1_copyFrom : ByteArray := prog_3_method_2_code
def yX1_copyFrom : MethodName := ⟨RX1, "copyFrom", "(LLocoFrames$Layout;)V"⟩
abbrev cX1_locoAt : ByteArray := prog_3_method_3_code
def yX1_locoAt : MethodName := ⟨RX1, "locoAt", "(I)LLocoFrames$Loco;"⟩
abbrev cX1_locoWith : ByteArray := prog_3_method_4_code
def yX1_locoWith : MethodName := ⟨RX1, "locoWith", "(I)LLocoFrames$Loco;"⟩
abbrev cX1_rankOf : ByteArray := prog_3_method_5_code
def yX1_rankOf : MethodName := ⟨RX1, "rankOf", "(I)I"⟩
abbrev cX1_addLoco : ByteArray := prog_3_method_6_code
def yX1_addLoco : MethodName := ⟨RX1, "addLoco", "(IIII)I"⟩
abbrev cX1_removeLoco : ByteArray := prog_3_method_7_code
def yX1_removeLoco : MethodName := ⟨RX1, "removeLoco", "(I)I"⟩
abbrev cX1_changeNoise : ByteArray := prog_3_method_8_code
def yX1_changeNoise : MethodName := ⟨RX1, "changeNoise", "(I)I"⟩
abbrev cX1_changeShort : ByteArray := prog_3_method_9_code
def yX1_changeShort : MethodName := ⟨RX1, "changeShort", "(II)I"⟩
abbrev cX1_takeFrame : ByteArray := prog_3_method_10_code
def yX1_takeFrame : MethodName := ⟨RX1, "takeFrame", "(III)I"⟩
abbrev cX1_takeTicks : ByteArray := prog_3_method_11_code
def yX1_takeTicks : MethodName := ⟨RX1, "takeTicks", "(I)I"⟩
abbrev cX1_tick : ByteArray := prog_3_method_12_code
def yX1_tick : MethodName := ⟨RX1, "tick", "()I"⟩
abbrev cX1_sendFirst : ByteArray := prog_3_method_13_code
def yX1_sendFirst : MethodName := ⟨RX1, "sendFirst", "()I"⟩
abbrev cX1_isShorted : ByteArray := prog_3_method_14_code
def yX1_isShorted : MethodName := ⟨RX1, "isShorted", "(I)Z"⟩
abbrev cX1_locosIn : ByteArray := prog_3_method_15_code
def yX1_locosIn : MethodName := ⟨RX1, "locosIn", "(I)I"⟩
abbrev cX1_blocksWithShort : ByteArray := prog_3_method_16_code
def yX1_blocksWithShort : MethodName := ⟨RX1, "blocksWithShort", "()I"⟩
abbrev cX1_crowdedBlocks : ByteArray := prog_3_method_17_code
def yX1_crowdedBlocks : MethodName := ⟨RX1, "crowdedBlocks", "()I"⟩
abbrev cX1_speedSum : ByteArray := prog_3_method_18_code
def yX1_speedSum : MethodName := ⟨RX1, "speedSum", "()I"⟩
def RX2 : String := "LocoFrames$Loco"
def TX2 : u_T := fun k => match k with
  | 0 => ("LocoFrames$Loco", "address", "I", false)
  | 1 => ("LocoFrames$Loco", "mass", "I", false)
  | 2 => ("LocoFrames$Loco", "curve", "I", false)
  | 3 => ("LocoFrames$Loco", "place", "I", false)
  | 4 => ("LocoFrames$Loco", "tenths", "I", false)
  | 5 => ("LocoFrames$Loco", "speed", "I", false)
  | 6 => ("LocoFrames$Loco", "rounds", "I", false)
  | 7 => ("LocoFrames$Loco", "step", "I", false)
  | 8 => ("LocoFrames$Loco", "way", "I", false)
  | 9 => ("LocoFrames$Loco", "lights", "I", false)
  | _ => ("LocoFrames$Loco", "heard", "I", false)
def tyX2 : Nat → FieldType := fun k => match k with
  | 0 => .int
  | 1 => .int
  | 2 => .int
  | 3 => .int
  | 4 => .int
  | 5 => .int
  | 6 => .int
  | 7 => .int
  | 8 => .int
  | 9 => .int
  | _ => .int
abbrev wsX20 : List Cond := u_ws RX2 TX2 11
theorem nmX2 : ∀ a, a < 11 → ∀ b, b < 11 → a ≠ b → (TX2 a).2.1 ≠ (TX2 b).2.1 := by decide +kernel
theorem tyX2_ok : ∀ k, k < 11 → parseFieldDescriptor (TX2 k).2.2.1 = some (tyX2 k) := by decide +kernel
abbrev cX2_init : ByteArray := prog_4_method_1_code
def yX2_init : MethodName := ⟨RX2, "<init>", "()V"⟩
abbrev cX2_begin : ByteArray := prog_4_method_2_code
def yX2_begin : MethodName := ⟨RX2, "begin", "(IIII)V"⟩
abbrev cX2_copyFrom : ByteArray := prog_4_method_3_code
def yX2_copyFrom : MethodName := ⟨RX2, "copyFrom", "(LLocoFrames$Loco;)V"⟩
abbrev cX2_blockNumber : ByteArray := prog_4_method_4_code
def yX2_blockNumber : MethodName := ⟨RX2, "blockNumber", "()I"⟩
abbrev cX2_goal : ByteArray := prog_4_method_5_code
def yX2_goal : MethodName := ⟨RX2, "goal", "()I"⟩
abbrev cX2_mostGain : ByteArray := prog_4_method_6_code
def yX2_mostGain : MethodName := ⟨RX2, "mostGain", "()I"⟩
abbrev cX2_ticksToGoal : ByteArray := prog_4_method_7_code
def yX2_ticksToGoal : MethodName := ⟨RX2, "ticksToGoal", "()I"⟩
abbrev cX2_changeSpeed : ByteArray := prog_4_method_8_code
def yX2_changeSpeed : MethodName := ⟨RX2, "changeSpeed", "()V"⟩
abbrev cX2_roll : ByteArray := prog_4_method_9_code
def yX2_roll : MethodName := ⟨RX2, "roll", "()V"⟩
abbrev cX2_hear : ByteArray := prog_4_method_10_code
def yX2_hear : MethodName := ⟨RX2, "hear", "(I)V"⟩
abbrev cX2_told : ByteArray := prog_4_method_11_code
def yX2_told : MethodName := ⟨RX2, "told", "(I)I"⟩
def RX3 : String := "LocoFrames$Pad"
def TX3 : u_T := fun k => match k with
  | 0 => ("LocoFrames$Pad", "text", "[C", true)
  | 1 => ("LocoFrames$Pad", "length", "I", false)
  | 2 => ("LocoFrames$Pad", "at", "I", false)
  | 3 => ("LocoFrames$Pad", "kind", "I", false)
  | 4 => ("LocoFrames$Pad", "numbers", "[I", true)
  | _ => ("LocoFrames$Pad", "numbersRead", "I", false)
def tyX3 : Nat → FieldType := fun k => match k with
  | 0 => .array .char
  | 1 => .int
  | 2 => .int
  | 3 => .int
  | 4 => .array .int
  | _ => .int
abbrev wsX30 : List Cond := u_ws RX3 TX3 6
theorem nmX3 : ∀ a, a < 6 → ∀ b, b < 6 → a ≠ b → (TX3 a).2.1 ≠ (TX3 b).2.1 := by decide +kernel
theorem tyX3_ok : ∀ k, k < 6 → parseFieldDescriptor (TX3 k).2.2.1 = some (tyX3 k) := by decide +kernel
abbrev cX3_init : ByteArray := prog_5_method_1_code
def yX3_init : MethodName := ⟨RX3, "<init>", "()V"⟩
abbrev cX3_append : ByteArray := prog_5_method_2_code
def yX3_append : MethodName := ⟨RX3, "append", "(J)I"⟩
abbrev cX3_countOf : ByteArray := prog_5_method_3_code
def yX3_countOf : MethodName := ⟨RX3, "countOf", "(J)I"⟩
abbrev cX3_codeAt : ByteArray := prog_5_method_4_code
def yX3_codeAt : MethodName := ⟨RX3, "codeAt", "(JI)I"⟩
abbrev cX3_clear : ByteArray := prog_5_method_5_code
def yX3_clear : MethodName := ⟨RX3, "clear", "()I"⟩
abbrev cX3_rewind : ByteArray := prog_5_method_6_code
def yX3_rewind : MethodName := ⟨RX3, "rewind", "()V"⟩
abbrev cX3_firstFault : ByteArray := prog_5_method_7_code
def yX3_firstFault : MethodName := ⟨RX3, "firstFault", "()I"⟩
abbrev cX3_readsOrder : ByteArray := prog_5_method_8_code
def yX3_readsOrder : MethodName := ⟨RX3, "readsOrder", "()Z"⟩
abbrev cX3_here : ByteArray := prog_5_method_9_code
def yX3_here : MethodName := ⟨RX3, "here", "()I"⟩
abbrev cX3_reads : ByteArray := prog_5_method_10_code
def yX3_reads : MethodName := ⟨RX3, "reads", "(I)Z"⟩
abbrev cX3_readsDigit : ByteArray := prog_5_method_11_code
def yX3_readsDigit : MethodName := ⟨RX3, "readsDigit", "(I)Z"⟩
abbrev cX3_readsNumber : ByteArray := prog_5_method_12_code
def yX3_readsNumber : MethodName := ⟨RX3, "readsNumber", "()Z"⟩
abbrev cX3_hold : ByteArray := prog_5_method_13_code
def yX3_hold : MethodName := ⟨RX3, "hold", "(I)V"⟩
def RX4 : String := "LocoFrames$Station"
def TX4 : u_T := fun k => match k with
  | 0 => ("LocoFrames$Station", "addresses", "[I", true)
  | 1 => ("LocoFrames$Station", "data", "[I", true)
  | 2 => ("LocoFrames$Station", "urgencies", "[I", true)
  | _ => ("LocoFrames$Station", "held", "I", false)
def tyX4 : Nat → FieldType := fun k => match k with
  | 0 => .array .int
  | 1 => .array .int
  | 2 => .array .int
  | _ => .int
abbrev wsX40 : List Cond := u_ws RX4 TX4 4
theorem nmX4 : ∀ a, a < 4 → ∀ b, b < 4 → a ≠ b → (TX4 a).2.1 ≠ (TX4 b).2.1 := by decide +kernel
theorem tyX4_ok : ∀ k, k < 4 → parseFieldDescriptor (TX4 k).2.2.1 = some (tyX4 k) := by decide +kernel
abbrev cX4_init : ByteArray := prog_6_method_1_code
def yX4_init : MethodName := ⟨RX4, "<init>", "()V"⟩
abbrev cX4_copyFrom : ByteArray := prog_6_method_2_code
def yX4_copyFrom : MethodName := ⟨RX4, "copyFrom", "(LLocoFrames$Station;)V"⟩
abbrev cX4_take : ByteArray := prog_6_method_3_code
def yX4_take : MethodName := ⟨RX4, "take", "(III)I"⟩
abbrev cX4_setRow : ByteArray := prog_6_method_4_code
def yX4_setRow : MethodName := ⟨RX4, "setRow", "(IIII)V"⟩
abbrev cX4_dropFirst : ByteArray := prog_6_method_5_code
def yX4_dropFirst : MethodName := ⟨RX4, "dropFirst", "()V"⟩
abbrev cX4_told : ByteArray := prog_6_method_6_code
def yX4_told : MethodName := ⟨RX4, "told", "(II)I"⟩
def RX5 : String := "LocoFrames"
def TX5 : u_T := fun k => match k with
  | 0 => ("LocoFrames", "now", "LLocoFrames$Layout;", true)
  | 1 => ("LocoFrames", "foreseen", "LLocoFrames$Layout;", true)
  | 2 => ("LocoFrames", "history", "LLocoFrames$History;", true)
  | 3 => ("LocoFrames", "slots", "[LLocoFrames$Layout;", true)
  | 4 => ("LocoFrames", "saved", "[Z", true)
  | _ => ("LocoFrames", "pad", "LLocoFrames$Pad;", true)
def tyX5 : Nat → FieldType := fun k => match k with
  | 0 => .object "LocoFrames$Layout"
  | 1 => .object "LocoFrames$Layout"
  | 2 => .object "LocoFrames$History"
  | 3 => .array (.object "LocoFrames$Layout")
  | 4 => .array .boolean
  | _ => .object "LocoFrames$Pad"
abbrev wsX50 : List Cond := u_ws RX5 TX5 6
theorem nmX5 : ∀ a, a < 6 → ∀ b, b < 6 → a ≠ b → (TX5 a).2.1 ≠ (TX5 b).2.1 := by decide +kernel
theorem tyX5_ok : ∀ k, k < 6 → parseFieldDescriptor (TX5 k).2.2.1 = some (tyX5 k) := by decide +kernel
abbrev cX5_init : ByteArray := prog_1_method_1_code
def yX5_init : MethodName := ⟨RX5, "<init>", "()V"⟩
abbrev cX5_loco : ByteArray := prog_1_method_2_code
def yX5_loco : MethodName := ⟨RX5, "loco", "(IIII)I"⟩
abbrev cX5_lift : ByteArray := prog_1_method_3_code
def yX5_lift : MethodName := ⟨RX5, "lift", "(I)I"⟩
abbrev cX5_noise : ByteArray := prog_1_method_4_code
def yX5_noise : MethodName := ⟨RX5, "noise", "(I)I"⟩
abbrev cX5_order : ByteArray := prog_1_method_5_code
def yX5_order : MethodName := ⟨RX5, "order", "(III)I"⟩
abbrev cX5_frame : ByteArray := prog_1_method_6_code
def yX5_frame : MethodName := ⟨RX5, "frame", "(III)I"⟩
abbrev cX5_shorts : ByteArray := prog_1_method_7_code
def yX5_shorts : MethodName := ⟨RX5, "shorts", "(II)I"⟩
abbrev cX5_pass : ByteArray := prog_1_method_8_code
def yX5_pass : MethodName := ⟨RX5, "pass", "(I)I"⟩
abbrev cX5_of : ByteArray := prog_1_method_9_code
def yX5_of : MethodName := ⟨RX5, "of", "(II)I"⟩
abbrev cX5_address : ByteArray := prog_1_method_10_code
def yX5_address : MethodName := ⟨RX5, "address", "(I)I"⟩
abbrev cX5_waiting : ByteArray := prog_1_method_11_code
def yX5_waiting : MethodName := ⟨RX5, "waiting", "(II)I"⟩
abbrev cX5_block : ByteArray := prog_1_method_12_code
def yX5_block : MethodName := ⟨RX5, "block", "(II)I"⟩
abbrev cX5_count : ByteArray := prog_1_method_13_code
def yX5_count : MethodName := ⟨RX5, "count", "(I)I"⟩
abbrev cX5_reaches : ByteArray := prog_1_method_14_code
def yX5_reaches : MethodName := ⟨RX5, "reaches", "(II)I"⟩
abbrev cX5_settles : ByteArray := prog_1_method_15_code
def yX5_settles : MethodName := ⟨RX5, "settles", "(I)I"⟩
abbrev cX5_meets : ByteArray := prog_1_method_16_code
def yX5_meets : MethodName := ⟨RX5, "meets", "(II)I"⟩
abbrev cX5_stepFor : ByteArray := prog_1_method_17_code
def yX5_stepFor : MethodName := ⟨RX5, "stepFor", "(II)I"⟩
abbrev cX5_put : ByteArray := prog_1_method_18_code
def yX5_put : MethodName := ⟨RX5, "put", "(J)I"⟩
abbrev cX5_wipe : ByteArray := prog_1_method_19_code
def yX5_wipe : MethodName := ⟨RX5, "wipe", "()I"⟩
abbrev cX5_fault : ByteArray := prog_1_method_20_code
def yX5_fault : MethodName := ⟨RX5, "fault", "()I"⟩
abbrev cX5_carryOut : ByteArray := prog_1_method_21_code
def yX5_carryOut : MethodName := ⟨RX5, "carryOut", "()I"⟩
abbrev cX5_undo : ByteArray := prog_1_method_22_code
def yX5_undo : MethodName := ⟨RX5, "undo", "()I"⟩
abbrev cX5_save : ByteArray := prog_1_method_23_code
def yX5_save : MethodName := ⟨RX5, "save", "(I)I"⟩
abbrev cX5_restore : ByteArray := prog_1_method_24_code
def yX5_restore : MethodName := ⟨RX5, "restore", "(I)I"⟩
abbrev cX5_carriesOne : ByteArray := prog_1_method_25_code
def yX5_carriesOne : MethodName := ⟨RX5, "carriesOne", "()Z"⟩
abbrev cX5_within : ByteArray := prog_1_method_26_code
def yX5_within : MethodName := ⟨RX5, "within", "(III)Z"⟩
abbrev cX5_isBlock : ByteArray := prog_1_method_27_code
def yX5_isBlock : MethodName := ⟨RX5, "isBlock", "(I)Z"⟩
abbrev cX5_curveSpeed : ByteArray := prog_1_method_28_code
def yX5_curveSpeed : MethodName := ⟨RX5, "curveSpeed", "(II)I"⟩
def RX6 : String := "LocoFramesModel"
def TX6 : u_T := fun k => match k with
  | 0 => ("LocoFramesModel", "thrown", "I", false)
  | 1 => ("LocoFramesModel", "s", "[I", true)
  | 2 => ("LocoFramesModel", "aside", "[I", true)
  | 3 => ("LocoFramesModel", "undos", "[I", true)
  | 4 => ("LocoFramesModel", "undoMany", "I", false)
  | 5 => ("LocoFramesModel", "slots", "[I", true)
  | 6 => ("LocoFramesModel", "hasSlot", "[Z", true)
  | 7 => ("LocoFramesModel", "pad", "[I", true)
  | 8 => ("LocoFramesModel", "length", "I", false)
  | 9 => ("LocoFramesModel", "at", "I", false)
  | 10 => ("LocoFramesModel", "isWell", "Z", false)
  | 11 => ("LocoFramesModel", "told", "[I", true)
  | _ => ("LocoFramesModel", "toldMany", "I", false)
def tyX6 : Nat → FieldType := fun k => match k with
  | 0 => .int
  | 1 => .array .int
  | 2 => .array .int
  | 3 => .array .int
  | 4 => .int
  | 5 => .array .int
  | 6 => .array .boolean
  | 7 => .array .int
  | 8 => .int
  | 9 => .int
  | 10 => .boolean
  | 11 => .array .int
  | _ => .int
abbrev wsX60 : List Cond := u_ws RX6 TX6 13
theorem nmX6 : ∀ a, a < 13 → ∀ b, b < 13 → a ≠ b → (TX6 a).2.1 ≠ (TX6 b).2.1 := by decide +kernel
theorem tyX6_ok : ∀ k, k < 13 → parseFieldDescriptor (TX6 k).2.2.1 = some (tyX6 k) := by decide +kernel
abbrev cX6_init : ByteArray := prog_8_method_1_code
def yX6_init : MethodName := ⟨RX6, "<init>", "()V"⟩
abbrev cX6_in : ByteArray := prog_8_method_3_code
def yX6_in : MethodName := ⟨RX6, "in", "(III)Z"⟩
abbrev cX6_get : ByteArray := prog_8_method_4_code
def yX6_get : MethodName := ⟨RX6, "get", "(II)I"⟩
abbrev cX6_lay : ByteArray := prog_8_method_5_code
def yX6_lay : MethodName := ⟨RX6, "lay", "(III)V"⟩
abbrev cX6_locoOf : ByteArray := prog_8_method_6_code
def yX6_locoOf : MethodName := ⟨RX6, "locoOf", "(I)I"⟩
abbrev cX6_records : ByteArray := prog_8_method_7_code
def yX6_records : MethodName := ⟨RX6, "records", "()V"⟩
abbrev cX6_putAside : ByteArray := prog_8_method_8_code
def yX6_putAside : MethodName := ⟨RX6, "putAside", "()V"⟩
abbrev cX6_takeBack : ByteArray := prog_8_method_9_code
def yX6_takeBack : MethodName := ⟨RX6, "takeBack", "()V"⟩
abbrev cX6_blockOf : ByteArray := prog_8_method_10_code
def yX6_blockOf : MethodName := ⟨RX6, "blockOf", "(I)I"⟩
abbrev cX6_isShort : ByteArray := prog_8_method_11_code
def yX6_isShort : MethodName := ⟨RX6, "isShort", "(I)Z"⟩
abbrev cX6_byCurve : ByteArray := prog_8_method_12_code
def yX6_byCurve : MethodName := ⟨RX6, "byCurve", "(II)I"⟩
abbrev cX6_due : ByteArray := prog_8_method_13_code
def yX6_due : MethodName := ⟨RX6, "due", "(I)I"⟩
abbrev cX6_hears : ByteArray := prog_8_method_14_code
def yX6_hears : MethodName := ⟨RX6, "hears", "(II)V"⟩
abbrev cX6_comes : ByteArray := prog_8_method_15_code
def yX6_comes : MethodName := ⟨RX6, "comes", "(III)I"⟩
abbrev cX6_sends : ByteArray := prog_8_method_16_code
def yX6_sends : MethodName := ⟨RX6, "sends", "()I"⟩
abbrev cX6_speeds : ByteArray := prog_8_method_17_code
def yX6_speeds : MethodName := ⟨RX6, "speeds", "(I)V"⟩
abbrev cX6_goes : ByteArray := prog_8_method_18_code
def yX6_goes : MethodName := ⟨RX6, "goes", "(I)V"⟩
abbrev cX6_tick : ByteArray := prog_8_method_19_code
def yX6_tick : MethodName := ⟨RX6, "tick", "()I"⟩
abbrev cX6_ticks : ByteArray := prog_8_method_20_code
def yX6_ticks : MethodName := ⟨RX6, "ticks", "(I)I"⟩
abbrev cX6_loco : ByteArray := prog_8_method_21_code
def yX6_loco : MethodName := ⟨RX6, "loco", "(IIII)I"⟩
abbrev cX6_lift : ByteArray := prog_8_method_22_code
def yX6_lift : MethodName := ⟨RX6, "lift", "(I)I"⟩
abbrev cX6_noise : ByteArray := prog_8_method_23_code
def yX6_noise : MethodName := ⟨RX6, "noise", "(I)I"⟩
abbrev cX6_refusesOrder : ByteArray := prog_8_method_24_code
def yX6_refusesOrder : MethodName := ⟨RX6, "refusesOrder", "(III)I"⟩
abbrev cX6_laysOrder : ByteArray := prog_8_method_25_code
def yX6_laysOrder : MethodName := ⟨RX6, "laysOrder", "(III)I"⟩
abbrev cX6_order : ByteArray := prog_8_method_26_code
def yX6_order : MethodName := ⟨RX6, "order", "(III)I"⟩
abbrev cX6_refusesFrame : ByteArray := prog_8_method_27_code
def yX6_refusesFrame : MethodName := ⟨RX6, "refusesFrame", "(III)I"⟩
abbrev cX6_frame : ByteArray := prog_8_method_28_code
def yX6_frame : MethodName := ⟨RX6, "frame", "(III)I"⟩
abbrev cX6_refusesShorts : ByteArray := prog_8_method_29_code
def yX6_refusesShorts : MethodName := ⟨RX6, "refusesShorts", "(II)I"⟩
abbrev cX6_shorts : ByteArray := prog_8_method_30_code
def yX6_shorts : MethodName := ⟨RX6, "shorts", "(II)I"⟩
abbrev cX6_refusesPass : ByteArray := prog_8_method_31_code
def yX6_refusesPass : MethodName := ⟨RX6, "refusesPass", "(I)I"⟩
abbrev cX6_pass : ByteArray := prog_8_method_32_code
def yX6_pass : MethodName := ⟨RX6, "pass", "(I)I"⟩
abbrev cX6_of : ByteArray := prog_8_method_33_code
def yX6_of : MethodName := ⟨RX6, "of", "(II)I"⟩
abbrev cX6_address : ByteArray := prog_8_method_34_code
def yX6_address : MethodName := ⟨RX6, "address", "(I)I"⟩
abbrev cX6_waiting : ByteArray := prog_8_method_35_code
def yX6_waiting : MethodName := ⟨RX6, "waiting", "(II)I"⟩
abbrev cX6_locosIn : ByteArray := prog_8_method_36_code
def yX6_locosIn : MethodName := ⟨RX6, "locosIn", "(I)I"⟩
abbrev cX6_block : ByteArray := prog_8_method_37_code
def yX6_block : MethodName := ⟨RX6, "block", "(II)I"⟩
abbrev cX6_overBlocks : ByteArray := prog_8_method_38_code
def yX6_overBlocks : MethodName := ⟨RX6, "overBlocks", "(I)I"⟩
abbrev cX6_allSpeeds : ByteArray := prog_8_method_39_code
def yX6_allSpeeds : MethodName := ⟨RX6, "allSpeeds", "()I"⟩
abbrev cX6_count : ByteArray := prog_8_method_40_code
def yX6_count : MethodName := ⟨RX6, "count", "(I)I"⟩
abbrev cX6_reaches : ByteArray := prog_8_method_41_code
def yX6_reaches : MethodName := ⟨RX6, "reaches", "(II)I"⟩
abbrev cX6_settles : ByteArray := prog_8_method_42_code
def yX6_settles : MethodName := ⟨RX6, "settles", "(I)I"⟩
abbrev cX6_meets : ByteArray := prog_8_method_43_code
def yX6_meets : MethodName := ⟨RX6, "meets", "(II)I"⟩
abbrev cX6_stepFor : ByteArray := prog_8_method_44_code
def yX6_stepFor : MethodName := ⟨RX6, "stepFor", "(II)I"⟩
abbrev cX6_put : ByteArray := prog_8_method_45_code
def yX6_put : MethodName := ⟨RX6, "put", "(J)I"⟩
abbrev cX6_wipe : ByteArray := prog_8_method_46_code
def yX6_wipe : MethodName := ⟨RX6, "wipe", "()I"⟩
abbrev cX6_sign : ByteArray := prog_8_method_47_code
def yX6_sign : MethodName := ⟨RX6, "sign", "()I"⟩
abbrev cX6_wants : ByteArray := prog_8_method_48_code
def yX6_wants : MethodName := ⟨RX6, "wants", "(I)V"⟩
abbrev cX6_digit : ByteArray := prog_8_method_49_code
def yX6_digit : MethodName := ⟨RX6, "digit", "(I)I"⟩
abbrev cX6_number : ByteArray := prog_8_method_50_code
def yX6_number : MethodName := ⟨RX6, "number", "()I"⟩
abbrev cX6_readsOrder : ByteArray := prog_8_method_51_code
def yX6_readsOrder : MethodName := ⟨RX6, "readsOrder", "()V"⟩
abbrev cX6_reads : ByteArray := prog_8_method_52_code
def yX6_reads : MethodName := ⟨RX6, "reads", "()I"⟩
abbrev cX6_fault : ByteArray := prog_8_method_53_code
def yX6_fault : MethodName := ⟨RX6, "fault", "()I"⟩
abbrev cX6_refuses : ByteArray := prog_8_method_54_code
def yX6_refuses : MethodName := ⟨RX6, "refuses", "(I)I"⟩
abbrev cX6_does : ByteArray := prog_8_method_55_code
def yX6_does : MethodName := ⟨RX6, "does", "(I)V"⟩
abbrev cX6_carryOut : ByteArray := prog_8_method_56_code
def yX6_carryOut : MethodName := ⟨RX6, "carryOut", "()I"⟩
abbrev cX6_undo : ByteArray := prog_8_method_57_code
def yX6_undo : MethodName := ⟨RX6, "undo", "()I"⟩
abbrev cX6_save : ByteArray := prog_8_method_58_code
def yX6_save : MethodName := ⟨RX6, "save", "(I)I"⟩
abbrev cX6_restore : ByteArray := prog_8_method_59_code
def yX6_restore : MethodName := ⟨RX6, "restore", "(I)I"⟩
def RJ9 : String := "java/lang/Math"
def TJ9 : u_T := fun k => match k with
  | _ => ("", "", "", false)
def tyJ9 : Nat → FieldType := fun k => match k with
  | _ => .int
abbrev wsJ90 : List Cond := u_ws RJ9 TJ9 0
theorem nmJ9 : ∀ a, a < 0 → ∀ b, b < 0 → a ≠ b → (TJ9 a).2.1 ≠ (TJ9 b).2.1 := by decide +kernel
theorem tyJ9_ok : ∀ k, k < 0 → parseFieldDescriptor (TJ9 k).2.2.1 = some (tyJ9 k) := by decide +kernel
abbrev cJ9_floorDiv_7cf53 : ByteArray := prog_9_method_47_code
def yJ9_floorDiv_7cf53 : MethodName := ⟨RJ9, "floorDiv", "(II)I"⟩
abbrev cJ9_floorMod_7cf53 : ByteArray := prog_9_method_50_code
def yJ9_floorMod_7cf53 : MethodName := ⟨RJ9, "floorMod", "(II)I"⟩
abbrev cJ9_abs_0f7a4 : ByteArray := prog_9_method_59_code
def yJ9_abs_0f7a4 : MethodName := ⟨RJ9, "abs", "(I)I"⟩
abbrev cJ9_max_7cf53 : ByteArray := prog_9_method_65_code
def yJ9_max_7cf53 : MethodName := ⟨RJ9, "max", "(II)I"⟩
abbrev cJ9_min_7cf53 : ByteArray := prog_9_method_69_code
def yJ9_min_7cf53 : MethodName := ⟨RJ9, "min", "(II)I"⟩
def RJ10 : String := "java/lang/System"
def TJ10 : u_T := fun k => match k with
  | _ => ("", "", "", false)
def tyJ10 : Nat → FieldType := fun k => match k with
  | _ => .int
abbrev wsJ100 : List Cond := u_ws RJ10 TJ10 0
theorem nmJ10 : ∀ a, a < 0 → ∀ b, b < 0 → a ≠ b → (TJ10 a).2.1 ≠ (TJ10 b).2.1 := by decide +kernel
theorem tyJ10_ok : ∀ k, k < 0 → parseFieldDescriptor (TJ10 k).2.2.1 = some (tyJ10 k) := by decide +kernel
def RL : String := "LocoFramesLaw"
abbrev cL_law : ByteArray := code
def yL_law : MethodName := ⟨RL, "law", "([I)Z"⟩
def wsL_law_r1 : List Cond := [Cond.classLink RL 7 RX5, Cond.instantiable RX5 6, Cond.initialized RX5, Cond.classLink RL 10 RX6, Cond.instantiable RX6 13, Cond.initialized RX6, Cond.constantLong RL 81 (4294967295), Cond.methodLink RL 9 yX5_init, Cond.instanceMethod yX5_init, Cond.code yX5_init cX5_init 2 none, Cond.methodLink RX5 3 objectInit, Cond.instanceMethod objectInit, Cond.code objectInit ⟨#[0xb1]⟩ 1 none, Cond.classLink RX5 9 RX1, Cond.instantiable RX1 10, Cond.initialized RX1, Cond.fieldLink RX5 12 "LocoFrames" "now" "LLocoFrames$Layout;", Cond.fieldLink RX5 16 "LocoFrames" "foreseen" "LLocoFrames$Layout;", Cond.classLink RX5 19 RX0, Cond.instantiable RX0 3, Cond.initialized RX0, Cond.fieldLink RX5 22 "LocoFrames" "history" "LLocoFrames$History;", Cond.fieldLink RX5 26 "LocoFrames" "slots" "[LLocoFrames$Layout;", Cond.arrayClass .boolean]
def wsL_law_r2 : List Cond := [Cond.fieldLink RX5 30 "LocoFrames" "saved" "[Z", Cond.classLink RX5 34 RX3, Cond.instantiable RX3 6, Cond.initialized RX3, Cond.fieldLink RX5 37 "LocoFrames" "pad" "LLocoFrames$Pad;", Cond.methodLink RX5 11 yX1_init, Cond.instanceMethod yX1_init, Cond.code yX1_init cX1_init 2 none, Cond.methodLink RX1 3 objectInit, Cond.classLink RX1 9 RX2, Cond.fieldLink RX1 11 "LocoFrames$Layout" "locos" "[LLocoFrames$Loco;", Cond.classLink RX1 17 RX4, Cond.instantiable RX4 4, Cond.initialized RX4, Cond.fieldLink RX1 20 "LocoFrames$Layout" "station" "LLocoFrames$Station;", Cond.arrayClass .int, Cond.fieldLink RX1 24 "LocoFrames$Layout" "shortTicks" "[I", Cond.instantiable RX2 11, Cond.initialized RX2, Cond.instanceMethod yX4_init, Cond.code yX4_init cX4_init 1 none, Cond.methodLink RX4 3 objectInit, Cond.fieldLink RX4 9 "LocoFrames$Station" "addresses" "[I", Cond.fieldLink RX4 15 "LocoFrames$Station" "data" "[I"]
def wsL_law_r3 : List Cond := [Cond.fieldLink RX4 18 "LocoFrames$Station" "urgencies" "[I", Cond.instanceMethod yX2_init, Cond.code yX2_init cX2_init 1 none, Cond.methodLink RX2 3 objectInit, Cond.methodLink RX5 21 yX0_init, Cond.instanceMethod yX0_init, Cond.code yX0_init cX0_init 2 none, Cond.methodLink RX0 3 objectInit, Cond.classLink RX0 9 RX1, Cond.fieldLink RX0 11 "LocoFrames$History" "states" "[LLocoFrames$Layout;", Cond.methodLink RX0 17 yX1_init, Cond.instanceMethod yX3_init, Cond.code yX3_init cX3_init 1 none, Cond.methodLink RX3 3 objectInit, Cond.arrayClass .char, Cond.fieldLink RX3 9 "LocoFrames$Pad" "text" "[C", Cond.fieldLink RX3 15 "LocoFrames$Pad" "numbers" "[I", Cond.methodLink RL 12 yX6_init, Cond.instanceMethod yX6_init, Cond.code yX6_init cX6_init 1 none, Cond.methodLink RX6 1 objectInit, Cond.fieldLink RX6 7 "LocoFramesModel" "s" "[I", Cond.fieldLink RX6 13 "LocoFramesModel" "aside" "[I", Cond.fieldLink RX6 16 "LocoFramesModel" "undos" "[I"]
def wsL_law_r4 : List Cond := [Cond.fieldLink RX6 19 "LocoFramesModel" "slots" "[I", Cond.fieldLink RX6 22 "LocoFramesModel" "hasSlot" "[Z", Cond.fieldLink RX6 26 "LocoFramesModel" "pad" "[I", Cond.fieldLink RX6 29 "LocoFramesModel" "told" "[I", Cond.fieldLink RX6 32 "LocoFramesModel" "thrown" "I", Cond.methodLink RL 13 yX5_loco, Cond.instanceMethod yX5_loco, Cond.selects RX5 yX5_loco yX5_loco, Cond.code yX5_loco cX5_loco 5 (some .int), Cond.methodLink RX5 41 yX0_draft, Cond.instanceMethod yX0_draft, Cond.selects RX0 yX0_draft yX0_draft, Cond.code yX0_draft cX0_draft 2 none, Cond.fieldLink RX0 18 "LocoFrames$History" "first" "I", Cond.fieldLink RX0 22 "LocoFrames$History" "held" "I", Cond.methodLink RX0 25 yX1_copyFrom, Cond.instanceMethod yX1_copyFrom, Cond.selects RX1 yX1_copyFrom yX1_copyFrom, Cond.code yX1_copyFrom cX1_copyFrom 3 none, Cond.fieldLink RX1 29 "LocoFrames$Layout" "locoCount" "I", Cond.methodLink RX1 40 arraycopyName, Cond.native arraycopyName, Cond.static arraycopyName, Cond.initialized "java/lang/System"]
def wsL_law_r5 : List Cond := [Cond.fieldLink RX1 46 "LocoFrames$Layout" "ticks" "I", Cond.fieldLink RX1 49 "LocoFrames$Layout" "noiseTicks" "I", Cond.fieldLink RX1 52 "LocoFrames$Layout" "spoiledAt" "I", Cond.fieldLink RX1 55 "LocoFrames$Layout" "frames" "I", Cond.fieldLink RX1 58 "LocoFrames$Layout" "broken" "I", Cond.fieldLink RX1 61 "LocoFrames$Layout" "spoiled" "I", Cond.methodLink RX1 33 yX2_copyFrom, Cond.instanceMethod yX2_copyFrom, Cond.selects RX2 yX2_copyFrom yX2_copyFrom, Cond.code yX2_copyFrom cX2_copyFrom 2 none, Cond.fieldLink RX2 9 "LocoFrames$Loco" "address" "I", Cond.fieldLink RX2 15 "LocoFrames$Loco" "mass" "I", Cond.fieldLink RX2 18 "LocoFrames$Loco" "curve" "I", Cond.fieldLink RX2 21 "LocoFrames$Loco" "place" "I", Cond.fieldLink RX2 24 "LocoFrames$Loco" "tenths" "I", Cond.fieldLink RX2 27 "LocoFrames$Loco" "speed" "I", Cond.fieldLink RX2 30 "LocoFrames$Loco" "rounds" "I", Cond.fieldLink RX2 33 "LocoFrames$Loco" "step" "I", Cond.fieldLink RX2 36 "LocoFrames$Loco" "way" "I", Cond.fieldLink RX2 39 "LocoFrames$Loco" "lights" "I", Cond.fieldLink RX2 42 "LocoFrames$Loco" "heard" "I", Cond.methodLink RX1 37 yX4_copyFrom, Cond.instanceMethod yX4_copyFrom, Cond.selects RX4 yX4_copyFrom yX4_copyFrom]
def wsL_law_r6 : List Cond := [Cond.code yX4_copyFrom cX4_copyFrom 2 none, Cond.methodLink RX4 21 arraycopyName, Cond.fieldLink RX4 27 "LocoFrames$Station" "held" "I", Cond.methodLink RX5 45 yX1_addLoco, Cond.instanceMethod yX1_addLoco, Cond.selects RX1 yX1_addLoco yX1_addLoco, Cond.code yX1_addLoco cX1_addLoco 7 (some .int), Cond.fieldLink RX1 76 "LocoFrames$Loco" "address" "I", Cond.static yX5_within, Cond.code yX5_within cX5_within 3 (some .boolean), Cond.methodLink RX1 68 yX1_rankOf, Cond.instanceMethod yX1_rankOf, Cond.selects RX1 yX1_rankOf yX1_rankOf, Cond.code yX1_rankOf cX1_rankOf 3 (some .int), Cond.methodLink RX1 79 yX2_begin, Cond.instanceMethod yX2_begin, Cond.selects RX2 yX2_begin yX2_begin, Cond.code yX2_begin cX2_begin 5 none, Cond.methodLink RX5 49 yX0_kept, Cond.instanceMethod yX0_kept, Cond.selects RX0 yX0_kept yX0_kept, Cond.code yX0_kept cX0_kept 2 (some .int), Cond.methodLink RL 17 yX6_loco, Cond.instanceMethod yX6_loco]
def wsL_law_r7 : List Cond := [Cond.selects RX6 yX6_loco yX6_loco, Cond.code yX6_loco cX6_loco 7 (some .int), Cond.methodLink RX6 54 yX6_in, Cond.static yX6_in, Cond.code yX6_in cX6_in 3 (some .boolean), Cond.methodLink RX6 87 yX6_locoOf, Cond.instanceMethod yX6_locoOf, Cond.selects RX6 yX6_locoOf yX6_locoOf, Cond.code yX6_locoOf cX6_locoOf 3 (some .int), Cond.methodLink RX6 36 yX6_get, Cond.instanceMethod yX6_get, Cond.selects RX6 yX6_get yX6_get, Cond.code yX6_get cX6_get 3 (some .int), Cond.methodLink RX6 90 yX6_records, Cond.instanceMethod yX6_records, Cond.selects RX6 yX6_records yX6_records, Cond.code yX6_records cX6_records 2 none, Cond.fieldLink RX6 40 "LocoFramesModel" "undoMany" "I", Cond.methodLink RX6 50 yX6_lay, Cond.instanceMethod yX6_lay, Cond.selects RX6 yX6_lay yX6_lay, Cond.code yX6_lay cX6_lay 4 none, Cond.methodLink RL 18 yX5_lift, Cond.instanceMethod yX5_lift]
def wsL_law_r8 : List Cond := [Cond.selects RX5 yX5_lift yX5_lift, Cond.code yX5_lift cX5_lift 2 (some .int), Cond.methodLink RX5 53 yX1_removeLoco, Cond.instanceMethod yX1_removeLoco, Cond.selects RX1 yX1_removeLoco yX1_removeLoco, Cond.code yX1_removeLoco cX1_removeLoco 5 (some .int), Cond.methodLink RL 22 yX6_lift, Cond.instanceMethod yX6_lift, Cond.selects RX6 yX6_lift yX6_lift, Cond.code yX6_lift cX6_lift 4 (some .int), Cond.methodLink RL 23 yX5_noise, Cond.instanceMethod yX5_noise, Cond.selects RX5 yX5_noise yX5_noise, Cond.code yX5_noise cX5_noise 2 (some .int), Cond.methodLink RX5 56 yX1_changeNoise, Cond.instanceMethod yX1_changeNoise, Cond.selects RX1 yX1_changeNoise yX1_changeNoise, Cond.code yX1_changeNoise cX1_changeNoise 3 (some .int), Cond.methodLink RL 26 yX6_noise, Cond.instanceMethod yX6_noise, Cond.selects RX6 yX6_noise yX6_noise, Cond.code yX6_noise cX6_noise 3 (some .int), Cond.methodLink RL 27 yX5_order, Cond.instanceMethod yX5_order]
def wsL_law_r9 : List Cond := [Cond.selects RX5 yX5_order yX5_order, Cond.code yX5_order cX5_order 4 (some .int), Cond.fieldLink RX5 59 "LocoFrames$Layout" "station" "LLocoFrames$Station;", Cond.methodLink RX5 63 yX4_take, Cond.instanceMethod yX4_take, Cond.selects RX4 yX4_take yX4_take, Cond.code yX4_take cX4_take 5 (some .int), Cond.methodLink RX4 35 yX4_setRow, Cond.instanceMethod yX4_setRow, Cond.selects RX4 yX4_setRow yX4_setRow, Cond.code yX4_setRow cX4_setRow 5 none, Cond.methodLink RL 31 yX6_order, Cond.instanceMethod yX6_order, Cond.selects RX6 yX6_order yX6_order, Cond.code yX6_order cX6_order 5 (some .int), Cond.methodLink RX6 93 yX6_refusesOrder, Cond.instanceMethod yX6_refusesOrder, Cond.selects RX6 yX6_refusesOrder yX6_refusesOrder, Cond.code yX6_refusesOrder cX6_refusesOrder 4 (some .int), Cond.methodLink RX6 96 yX6_laysOrder, Cond.instanceMethod yX6_laysOrder, Cond.selects RX6 yX6_laysOrder yX6_laysOrder, Cond.code yX6_laysOrder cX6_laysOrder 6 (some .int), Cond.methodLink RL 32 yX5_frame]
def wsL_law_r10 : List Cond := [Cond.instanceMethod yX5_frame, Cond.selects RX5 yX5_frame yX5_frame, Cond.code yX5_frame cX5_frame 4 (some .int), Cond.methodLink RX5 69 yX1_takeFrame, Cond.instanceMethod yX1_takeFrame, Cond.selects RX1 yX1_takeFrame yX1_takeFrame, Cond.code yX1_takeFrame cX1_takeFrame 7 (some .int), Cond.methodLink RX1 87 yX2_blockNumber, Cond.instanceMethod yX2_blockNumber, Cond.selects RX2 yX2_blockNumber yX2_blockNumber, Cond.code yX2_blockNumber cX2_blockNumber 1 (some .int), Cond.methodLink RX1 91 yX1_isShorted, Cond.instanceMethod yX1_isShorted, Cond.selects RX1 yX1_isShorted yX1_isShorted, Cond.code yX1_isShorted cX1_isShorted 2 (some .boolean), Cond.methodLink RX1 94 yX2_hear, Cond.instanceMethod yX2_hear, Cond.selects RX2 yX2_hear yX2_hear, Cond.code yX2_hear cX2_hear 3 none, Cond.methodLink RL 35 yX6_frame, Cond.instanceMethod yX6_frame, Cond.selects RX6 yX6_frame yX6_frame, Cond.code yX6_frame cX6_frame 5 (some .int), Cond.methodLink RX6 99 yX6_refusesFrame]
def wsL_law_r11 : List Cond := [Cond.static yX6_refusesFrame, Cond.code yX6_refusesFrame cX6_refusesFrame 3 (some .int), Cond.methodLink RX6 66 yX6_comes, Cond.instanceMethod yX6_comes, Cond.selects RX6 yX6_comes yX6_comes, Cond.code yX6_comes cX6_comes 6 (some .int), Cond.methodLink RX6 58 yX6_isShort, Cond.instanceMethod yX6_isShort, Cond.selects RX6 yX6_isShort yX6_isShort, Cond.code yX6_isShort cX6_isShort 2 (some .boolean), Cond.methodLink RX6 43 yX6_blockOf, Cond.instanceMethod yX6_blockOf, Cond.selects RX6 yX6_blockOf yX6_blockOf, Cond.code yX6_blockOf cX6_blockOf 2 (some .int), Cond.methodLink RX6 62 yX6_hears, Cond.instanceMethod yX6_hears, Cond.selects RX6 yX6_hears yX6_hears, Cond.code yX6_hears cX6_hears 3 none, Cond.methodLink RL 36 yX5_shorts, Cond.instanceMethod yX5_shorts, Cond.selects RX5 yX5_shorts yX5_shorts, Cond.code yX5_shorts cX5_shorts 3 (some .int), Cond.methodLink RX5 72 yX1_changeShort, Cond.instanceMethod yX1_changeShort]
def wsL_law_r12 : List Cond := [Cond.selects RX1 yX1_changeShort yX1_changeShort, Cond.code yX1_changeShort cX1_changeShort 4 (some .int), Cond.static yX5_isBlock, Cond.code yX5_isBlock cX5_isBlock 1 (some .boolean), Cond.methodLink RX5 155 yX5_within, Cond.methodLink RL 40 yX6_shorts, Cond.instanceMethod yX6_shorts, Cond.selects RX6 yX6_shorts yX6_shorts, Cond.code yX6_shorts cX6_shorts 5 (some .int), Cond.methodLink RX6 102 yX6_refusesShorts, Cond.static yX6_refusesShorts, Cond.code yX6_refusesShorts cX6_refusesShorts 2 (some .int), Cond.methodLink RL 41 yX5_pass, Cond.instanceMethod yX5_pass, Cond.selects RX5 yX5_pass yX5_pass, Cond.code yX5_pass cX5_pass 2 (some .int), Cond.methodLink RX5 76 yX1_takeTicks, Cond.instanceMethod yX1_takeTicks, Cond.selects RX1 yX1_takeTicks yX1_takeTicks, Cond.code yX1_takeTicks cX1_takeTicks 4 (some .int), Cond.constant RX1 98 (99999), Cond.methodLink RX1 99 yX1_tick, Cond.instanceMethod yX1_tick, Cond.selects RX1 yX1_tick yX1_tick]
def wsL_law_r13 : List Cond := [Cond.code yX1_tick cX1_tick 4 (some .int), Cond.fieldLink RX1 105 "LocoFrames$Loco" "speed" "I", Cond.methodLink RX1 114 Lib.Math.max.name, Cond.static Lib.Math.max.name, Cond.initialized "java/lang/Math", Cond.code Lib.Math.max.name Lib.Math.max.code 2 (some .int), Cond.methodLink RX1 102 yX1_sendFirst, Cond.instanceMethod yX1_sendFirst, Cond.selects RX1 yX1_sendFirst yX1_sendFirst, Cond.code yX1_sendFirst cX1_sendFirst 4 (some .int), Cond.fieldLink RX1 120 "LocoFrames$Station" "held" "I", Cond.fieldLink RX1 123 "LocoFrames$Station" "addresses" "[I", Cond.fieldLink RX1 126 "LocoFrames$Station" "data" "[I", Cond.methodLink RX1 129 yX4_dropFirst, Cond.instanceMethod yX4_dropFirst, Cond.selects RX4 yX4_dropFirst yX4_dropFirst, Cond.code yX4_dropFirst cX4_dropFirst 2 none, Cond.methodLink RX4 39 Lib.Math.max.name, Cond.methodLink RX1 132 yX1_takeFrame, Cond.methodLink RX1 108 yX2_changeSpeed, Cond.instanceMethod yX2_changeSpeed, Cond.selects RX2 yX2_changeSpeed yX2_changeSpeed, Cond.code yX2_changeSpeed cX2_changeSpeed 2 none, Cond.methodLink RX2 62 Lib.Math.min.name]
def wsL_law_r14 : List Cond := [Cond.static Lib.Math.min.name, Cond.code Lib.Math.min.name Lib.Math.min.code 2 (some .int), Cond.methodLink RX2 65 Lib.Math.max.name, Cond.methodLink RX2 49 yX2_mostGain, Cond.instanceMethod yX2_mostGain, Cond.selects RX2 yX2_mostGain yX2_mostGain, Cond.code yX2_mostGain cX2_mostGain 1 (some .int), Cond.methodLink RX2 53 yX2_goal, Cond.instanceMethod yX2_goal, Cond.selects RX2 yX2_goal yX2_goal, Cond.code yX2_goal cX2_goal 2 (some .int), Cond.static yX5_curveSpeed, Cond.code yX5_curveSpeed cX5_curveSpeed 3 (some .int), Cond.methodLink RX1 111 yX2_roll, Cond.instanceMethod yX2_roll, Cond.selects RX2 yX2_roll yX2_roll, Cond.code yX2_roll cX2_roll 3 none, Cond.methodLink RX2 68 yJ9_floorDiv_7cf53, Cond.static yJ9_floorDiv_7cf53, Cond.initialized RJ9, Cond.code yJ9_floorDiv_7cf53 cJ9_floorDiv_7cf53 3 (some .int), Cond.methodLink RX2 71 yJ9_floorMod_7cf53, Cond.static yJ9_floorMod_7cf53, Cond.code yJ9_floorMod_7cf53 cJ9_floorMod_7cf53 3 (some .int)]
def wsL_law_r15 : List Cond := [Cond.methodLink RL 44 yX6_pass, Cond.instanceMethod yX6_pass, Cond.selects RX6 yX6_pass yX6_pass, Cond.code yX6_pass cX6_pass 3 (some .int), Cond.methodLink RX6 106 yX6_refusesPass, Cond.instanceMethod yX6_refusesPass, Cond.selects RX6 yX6_refusesPass yX6_refusesPass, Cond.code yX6_refusesPass cX6_refusesPass 2 (some .int), Cond.constant RX6 105 (99999), Cond.methodLink RX6 109 yX6_ticks, Cond.instanceMethod yX6_ticks, Cond.selects RX6 yX6_ticks yX6_ticks, Cond.code yX6_ticks cX6_ticks 4 (some .int), Cond.methodLink RX6 84 yX6_tick, Cond.instanceMethod yX6_tick, Cond.selects RX6 yX6_tick yX6_tick, Cond.code yX6_tick cX6_tick 3 (some .int), Cond.methodLink RX6 73 yX6_sends, Cond.instanceMethod yX6_sends, Cond.selects RX6 yX6_sends yX6_sends, Cond.code yX6_sends cX6_sends 5 (some .int), Cond.methodLink RX6 77 yX6_speeds, Cond.instanceMethod yX6_speeds, Cond.selects RX6 yX6_speeds yX6_speeds]
def wsL_law_r16 : List Cond := [Cond.code yX6_speeds cX6_speeds 6 none, Cond.methodLink RX6 70 yX6_due, Cond.instanceMethod yX6_due, Cond.selects RX6 yX6_due yX6_due, Cond.code yX6_due cX6_due 3 (some .int), Cond.methodLink RX6 47 yX6_byCurve, Cond.static yX6_byCurve, Cond.code yX6_byCurve cX6_byCurve 3 (some .int), Cond.methodLink RX6 81 yX6_goes, Cond.instanceMethod yX6_goes, Cond.selects RX6 yX6_goes yX6_goes, Cond.code yX6_goes cX6_goes 4 none, Cond.methodLink RL 45 yX5_of, Cond.instanceMethod yX5_of, Cond.selects RX5 yX5_of yX5_of, Cond.code yX5_of cX5_of 4 (some .int), Cond.methodLink RX5 79 yX1_locoWith, Cond.instanceMethod yX1_locoWith, Cond.selects RX1 yX1_locoWith yX1_locoWith, Cond.code yX1_locoWith cX1_locoWith 2 (some (.object "LocoFrames$Loco")), Cond.methodLink RX1 72 yX1_locoAt, Cond.instanceMethod yX1_locoAt, Cond.selects RX1 yX1_locoAt yX1_locoAt, Cond.code yX1_locoAt cX1_locoAt 2 (some (.object "LocoFrames$Loco"))]
def wsL_law_r17 : List Cond := [Cond.methodLink RX5 83 yX2_told, Cond.instanceMethod yX2_told, Cond.selects RX2 yX2_told yX2_told, Cond.code yX2_told cX2_told 2 (some .int), Cond.methodLink RX2 74 yX2_blockNumber, Cond.methodLink RL 48 yX6_of, Cond.instanceMethod yX6_of, Cond.selects RX6 yX6_of yX6_of, Cond.code yX6_of cX6_of 4 (some .int), Cond.methodLink RL 49 yX5_address, Cond.instanceMethod yX5_address, Cond.selects RX5 yX5_address yX5_address, Cond.code yX5_address cX5_address 3 (some .int), Cond.fieldLink RX5 91 "LocoFrames$Loco" "address" "I", Cond.methodLink RX5 88 yX1_locoAt, Cond.methodLink RL 52 yX6_address, Cond.instanceMethod yX6_address, Cond.selects RX6 yX6_address yX6_address, Cond.code yX6_address cX6_address 2 (some .int), Cond.methodLink RL 53 yX5_waiting, Cond.instanceMethod yX5_waiting, Cond.selects RX5 yX5_waiting yX5_waiting, Cond.code yX5_waiting cX5_waiting 3 (some .int), Cond.methodLink RX5 95 yX4_told]
def wsL_law_r18 : List Cond := [Cond.instanceMethod yX4_told, Cond.selects RX4 yX4_told yX4_told, Cond.code yX4_told cX4_told 3 (some .int), Cond.methodLink RL 56 yX6_waiting, Cond.instanceMethod yX6_waiting, Cond.selects RX6 yX6_waiting yX6_waiting, Cond.code yX6_waiting cX6_waiting 3 (some .int), Cond.methodLink RL 57 yX5_block, Cond.instanceMethod yX5_block, Cond.selects RX5 yX5_block yX5_block, Cond.code yX5_block cX5_block 3 (some .int), Cond.fieldLink RX5 101 "LocoFrames$Layout" "shortTicks" "[I", Cond.methodLink RX5 97 yX5_isBlock, Cond.methodLink RX5 105 yX1_locosIn, Cond.instanceMethod yX1_locosIn, Cond.selects RX1 yX1_locosIn yX1_locosIn, Cond.code yX1_locosIn cX1_locosIn 4 (some .int), Cond.methodLink RL 60 yX6_block, Cond.instanceMethod yX6_block, Cond.selects RX6 yX6_block yX6_block, Cond.code yX6_block cX6_block 3 (some .int), Cond.methodLink RX6 112 yX6_locosIn, Cond.instanceMethod yX6_locosIn, Cond.selects RX6 yX6_locosIn yX6_locosIn]
def wsL_law_r19 : List Cond := [Cond.code yX6_locosIn cX6_locosIn 4 (some .int), Cond.methodLink RL 61 yX5_count, Cond.instanceMethod yX5_count, Cond.selects RX5 yX5_count yX5_count, Cond.code yX5_count cX5_count 2 (some .int), Cond.fieldLink RX5 108 "LocoFrames$Layout" "ticks" "I", Cond.fieldLink RX5 111 "LocoFrames$Layout" "locoCount" "I", Cond.fieldLink RX5 114 "LocoFrames$Station" "held" "I", Cond.fieldLink RX5 117 "LocoFrames$Layout" "noiseTicks" "I", Cond.fieldLink RX5 120 "LocoFrames$Layout" "frames" "I", Cond.fieldLink RX5 123 "LocoFrames$Layout" "broken" "I", Cond.fieldLink RX5 126 "LocoFrames$Layout" "spoiled" "I", Cond.fieldLink RX5 139 "LocoFrames$Pad" "length" "I", Cond.fieldLink RX5 142 "LocoFrames$History" "held" "I", Cond.methodLink RX5 129 yX1_blocksWithShort, Cond.instanceMethod yX1_blocksWithShort, Cond.selects RX1 yX1_blocksWithShort yX1_blocksWithShort, Cond.code yX1_blocksWithShort cX1_blocksWithShort 3 (some .int), Cond.methodLink RX5 133 yX1_crowdedBlocks, Cond.instanceMethod yX1_crowdedBlocks, Cond.selects RX1 yX1_crowdedBlocks yX1_crowdedBlocks, Cond.code yX1_crowdedBlocks cX1_crowdedBlocks 3 (some .int), Cond.methodLink RX1 136 yX1_locosIn, Cond.methodLink RX5 136 yX1_speedSum]
def wsL_law_r20 : List Cond := [Cond.instanceMethod yX1_speedSum, Cond.selects RX1 yX1_speedSum yX1_speedSum, Cond.code yX1_speedSum cX1_speedSum 3 (some .int), Cond.methodLink RL 64 yX6_count, Cond.instanceMethod yX6_count, Cond.selects RX6 yX6_count yX6_count, Cond.code yX6_count cX6_count 2 (some .int), Cond.fieldLink RX6 121 "LocoFramesModel" "length" "I", Cond.methodLink RX6 115 yX6_overBlocks, Cond.instanceMethod yX6_overBlocks, Cond.selects RX6 yX6_overBlocks yX6_overBlocks, Cond.code yX6_overBlocks cX6_overBlocks 4 (some .int), Cond.methodLink RX6 118 yX6_allSpeeds, Cond.instanceMethod yX6_allSpeeds, Cond.selects RX6 yX6_allSpeeds yX6_allSpeeds, Cond.code yX6_allSpeeds cX6_allSpeeds 3 (some .int), Cond.methodLink RL 65 yX5_reaches, Cond.instanceMethod yX5_reaches, Cond.selects RX5 yX5_reaches yX5_reaches, Cond.code yX5_reaches cX5_reaches 5 (some .int), Cond.methodLink RX5 143 yX1_copyFrom, Cond.methodLink RX5 146 yX2_blockNumber, Cond.methodLink RX5 149 yX1_tick, Cond.methodLink RL 68 yX6_reaches]
def wsL_law_r21 : List Cond := [Cond.instanceMethod yX6_reaches, Cond.selects RX6 yX6_reaches yX6_reaches, Cond.code yX6_reaches cX6_reaches 5 (some .int), Cond.methodLink RX6 124 yX6_putAside, Cond.instanceMethod yX6_putAside, Cond.selects RX6 yX6_putAside yX6_putAside, Cond.code yX6_putAside cX6_putAside 2 none, Cond.methodLink RX6 127 yX6_takeBack, Cond.instanceMethod yX6_takeBack, Cond.selects RX6 yX6_takeBack yX6_takeBack, Cond.code yX6_takeBack cX6_takeBack 2 none, Cond.methodLink RL 69 yX5_settles, Cond.instanceMethod yX5_settles, Cond.selects RX5 yX5_settles yX5_settles, Cond.code yX5_settles cX5_settles 3 (some .int), Cond.methodLink RX5 152 yX2_ticksToGoal, Cond.instanceMethod yX2_ticksToGoal, Cond.selects RX2 yX2_ticksToGoal yX2_ticksToGoal, Cond.code yX2_ticksToGoal cX2_ticksToGoal 3 (some .int), Cond.methodLink RX2 56 Lib.Math.abs.name, Cond.static Lib.Math.abs.name, Cond.code Lib.Math.abs.name Lib.Math.abs.code 1 (some .int), Cond.methodLink RL 72 yX6_settles, Cond.instanceMethod yX6_settles]
def wsL_law_r22 : List Cond := [Cond.selects RX6 yX6_settles yX6_settles, Cond.code yX6_settles cX6_settles 5 (some .int), Cond.methodLink RL 73 yX5_meets, Cond.instanceMethod yX5_meets, Cond.selects RX5 yX5_meets yX5_meets, Cond.code yX5_meets cX5_meets 6 (some .int), Cond.methodLink RL 76 yX6_meets, Cond.instanceMethod yX6_meets, Cond.selects RX6 yX6_meets yX6_meets, Cond.code yX6_meets cX6_meets 6 (some .int), Cond.methodLink RL 77 yX5_stepFor, Cond.instanceMethod yX5_stepFor, Cond.selects RX5 yX5_stepFor yX5_stepFor, Cond.code yX5_stepFor cX5_stepFor 5 (some .int), Cond.fieldLink RX5 159 "LocoFrames$Loco" "curve" "I", Cond.methodLink RX5 162 yX5_curveSpeed, Cond.methodLink RL 80 yX6_stepFor, Cond.instanceMethod yX6_stepFor, Cond.selects RX6 yX6_stepFor yX6_stepFor, Cond.code yX6_stepFor cX6_stepFor 5 (some .int), Cond.methodLink RL 83 yX5_put, Cond.instanceMethod yX5_put, Cond.selects RX5 yX5_put yX5_put, Cond.code yX5_put cX5_put 3 (some .int)]
def wsL_law_r23 : List Cond := [Cond.methodLink RX5 165 yX3_append, Cond.instanceMethod yX3_append, Cond.selects RX3 yX3_append yX3_append, Cond.code yX3_append cX3_append 5 (some .int), Cond.fieldLink RX3 23 "LocoFrames$Pad" "length" "I", Cond.methodLink RX3 19 yX3_countOf, Cond.static yX3_countOf, Cond.code yX3_countOf cX3_countOf 4 (some .int), Cond.methodLink RX3 27 yX3_codeAt, Cond.static yX3_codeAt, Cond.code yX3_codeAt cX3_codeAt 3 (some .int), Cond.methodLink RL 87 yX6_put, Cond.instanceMethod yX6_put, Cond.selects RX6 yX6_put yX6_put, Cond.code yX6_put cX6_put 8 (some .int), Cond.constantLong RX6 130 (255), Cond.methodLink RL 88 yX5_wipe, Cond.instanceMethod yX5_wipe, Cond.selects RX5 yX5_wipe yX5_wipe, Cond.code yX5_wipe cX5_wipe 1 (some .int), Cond.methodLink RX5 169 yX3_clear, Cond.instanceMethod yX3_clear, Cond.selects RX3 yX3_clear yX3_clear, Cond.code yX3_clear cX3_clear 2 (some .int)]
def wsL_law_r24 : List Cond := [Cond.methodLink RL 92 yX6_wipe, Cond.instanceMethod yX6_wipe, Cond.selects RX6 yX6_wipe yX6_wipe, Cond.code yX6_wipe cX6_wipe 2 (some .int), Cond.methodLink RL 93 yX5_fault, Cond.instanceMethod yX5_fault, Cond.selects RX5 yX5_fault yX5_fault, Cond.code yX5_fault cX5_fault 1 (some .int), Cond.methodLink RX5 172 yX3_firstFault, Cond.instanceMethod yX3_firstFault, Cond.selects RX3 yX3_firstFault yX3_firstFault, Cond.code yX3_firstFault cX3_firstFault 2 (some .int), Cond.fieldLink RX3 35 "LocoFrames$Pad" "at" "I", Cond.methodLink RX3 38 yX3_rewind, Cond.instanceMethod yX3_rewind, Cond.selects RX3 yX3_rewind yX3_rewind, Cond.code yX3_rewind cX3_rewind 1 none, Cond.methodLink RX3 41 yX3_readsOrder, Cond.instanceMethod yX3_readsOrder, Cond.selects RX3 yX3_readsOrder yX3_readsOrder, Cond.code yX3_readsOrder cX3_readsOrder 1 (some .boolean), Cond.fieldLink RX3 53 "LocoFrames$Pad" "kind" "I", Cond.fieldLink RX3 56 "LocoFrames$Pad" "numbersRead" "I", Cond.methodLink RX3 49 yX3_here]
def wsL_law_r25 : List Cond := [Cond.instanceMethod yX3_here, Cond.selects RX3 yX3_here yX3_here, Cond.code yX3_here cX3_here 1 (some .int), Cond.methodLink RX3 59 yX3_readsNumber, Cond.instanceMethod yX3_readsNumber, Cond.selects RX3 yX3_readsNumber yX3_readsNumber, Cond.code yX3_readsNumber cX3_readsNumber 3 (some .boolean), Cond.methodLink RX3 65 yX3_hold, Cond.instanceMethod yX3_hold, Cond.selects RX3 yX3_hold yX3_hold, Cond.code yX3_hold cX3_hold 2 none, Cond.methodLink RX3 45 yX3_reads, Cond.instanceMethod yX3_reads, Cond.selects RX3 yX3_reads yX3_reads, Cond.code yX3_reads cX3_reads 2 (some .boolean), Cond.methodLink RX3 62 yX3_readsDigit, Cond.instanceMethod yX3_readsDigit, Cond.selects RX3 yX3_readsDigit yX3_readsDigit, Cond.code yX3_readsDigit cX3_readsDigit 2 (some .boolean), Cond.methodLink RL 96 yX6_fault, Cond.instanceMethod yX6_fault, Cond.selects RX6 yX6_fault yX6_fault, Cond.code yX6_fault cX6_fault 1 (some .int), Cond.methodLink RX6 157 yX6_reads]
def wsL_law_r26 : List Cond := [Cond.instanceMethod yX6_reads, Cond.selects RX6 yX6_reads yX6_reads, Cond.code yX6_reads cX6_reads 1 (some .int), Cond.fieldLink RX6 132 "LocoFramesModel" "at" "I", Cond.fieldLink RX6 135 "LocoFramesModel" "isWell" "Z", Cond.fieldLink RX6 145 "LocoFramesModel" "toldMany" "I", Cond.methodLink RX6 154 yX6_readsOrder, Cond.instanceMethod yX6_readsOrder, Cond.selects RX6 yX6_readsOrder yX6_readsOrder, Cond.code yX6_readsOrder cX6_readsOrder 3 none, Cond.methodLink RX6 139 yX6_sign, Cond.instanceMethod yX6_sign, Cond.selects RX6 yX6_sign yX6_sign, Cond.code yX6_sign cX6_sign 1 (some .int), Cond.methodLink RX6 142 yX6_digit, Cond.instanceMethod yX6_digit, Cond.selects RX6 yX6_digit yX6_digit, Cond.code yX6_digit cX6_digit 3 (some .int), Cond.methodLink RX6 148 yX6_number, Cond.instanceMethod yX6_number, Cond.selects RX6 yX6_number yX6_number, Cond.code yX6_number cX6_number 3 (some .int), Cond.methodLink RX6 151 yX6_wants, Cond.instanceMethod yX6_wants]
def wsL_law_r27 : List Cond := [Cond.selects RX6 yX6_wants yX6_wants, Cond.code yX6_wants cX6_wants 2 none, Cond.methodLink RL 97 yX5_carryOut, Cond.instanceMethod yX5_carryOut, Cond.selects RX5 yX5_carryOut yX5_carryOut, Cond.code yX5_carryOut cX5_carryOut 3 (some .int), Cond.methodLink RX5 175 yX3_rewind, Cond.methodLink RX5 178 yX3_readsOrder, Cond.methodLink RX5 182 yX5_carriesOne, Cond.instanceMethod yX5_carriesOne, Cond.selects RX5 yX5_carriesOne yX5_carriesOne, Cond.code yX5_carriesOne cX5_carriesOne 2 (some .boolean), Cond.fieldLink RX5 192 "LocoFrames$Pad" "kind" "I", Cond.fieldLink RX5 195 "LocoFrames$Pad" "numbers" "[I", Cond.methodLink RX5 185 yX3_reads, Cond.methodLink RL 100 yX6_carryOut, Cond.instanceMethod yX6_carryOut, Cond.selects RX6 yX6_carryOut yX6_carryOut, Cond.code yX6_carryOut cX6_carryOut 2 (some .int), Cond.methodLink RX6 160 yX6_refuses, Cond.instanceMethod yX6_refuses, Cond.selects RX6 yX6_refuses yX6_refuses, Cond.code yX6_refuses cX6_refuses 2 (some .int), Cond.methodLink RX6 163 yX6_does]
def wsL_law_r28 : List Cond := [Cond.instanceMethod yX6_does, Cond.selects RX6 yX6_does yX6_does, Cond.code yX6_does cX6_does 2 none, Cond.methodLink RL 101 yX5_undo, Cond.instanceMethod yX5_undo, Cond.selects RX5 yX5_undo yX5_undo, Cond.code yX5_undo cX5_undo 1 (some .int), Cond.methodLink RX5 188 yX0_takeBack, Cond.instanceMethod yX0_takeBack, Cond.selects RX0 yX0_takeBack yX0_takeBack, Cond.code yX0_takeBack cX0_takeBack 2 (some .int), Cond.methodLink RL 104 yX6_undo, Cond.instanceMethod yX6_undo, Cond.selects RX6 yX6_undo yX6_undo, Cond.code yX6_undo cX6_undo 2 (some .int), Cond.methodLink RL 105 yX5_save, Cond.instanceMethod yX5_save, Cond.selects RX5 yX5_save yX5_save, Cond.code yX5_save cX5_save 2 (some .int), Cond.methodLink RL 108 yX6_save, Cond.instanceMethod yX6_save, Cond.selects RX6 yX6_save yX6_save, Cond.code yX6_save cX6_save 3 (some .int), Cond.methodLink RL 109 yX5_restore]
def wsL_law_r29 : List Cond := [Cond.instanceMethod yX5_restore, Cond.selects RX5 yX5_restore yX5_restore, Cond.code yX5_restore cX5_restore 2 (some .int), Cond.methodLink RL 112 yX6_restore, Cond.instanceMethod yX6_restore, Cond.selects RX6 yX6_restore yX6_restore, Cond.code yX6_restore cX6_restore 3 (some .int)]
def wsL_law : List Cond := (wsL_law_r1 ++ (wsL_law_r2 ++ (wsL_law_r3 ++ (wsL_law_r4 ++ (wsL_law_r5 ++ (wsL_law_r6 ++ (wsL_law_r7 ++ (wsL_law_r8 ++ (wsL_law_r9 ++ (wsL_law_r10 ++ (wsL_law_r11 ++ (wsL_law_r12 ++ (wsL_law_r13 ++ (wsL_law_r14 ++ (wsL_law_r15 ++ (wsL_law_r16 ++ (wsL_law_r17 ++ (wsL_law_r18 ++ (wsL_law_r19 ++ (wsL_law_r20 ++ (wsL_law_r21 ++ (wsL_law_r22 ++ (wsL_law_r23 ++ (wsL_law_r24 ++ (wsL_law_r25 ++ (wsL_law_r26 ++ (wsL_law_r27 ++ (wsL_law_r28 ++ wsL_law_r29)))))))))))))))))))))))))))) ++ wsX50 ++ wsX60 ++ wsX10 ++ wsX00 ++ wsX30 ++ wsX40 ++ wsX20 ++ ([] : List Cond)
theorem inlX0 : ∀ w ∈ wsX00, w ∈ wsL_law := fun _ h => List.mem_append_left _ (List.mem_append_left _ (List.mem_append_left _ (List.mem_append_left _ (List.mem_append_right _ h))))
theorem inlX1 : ∀ w ∈ wsX10, w ∈ wsL_law := fun _ h => List.mem_append_left _ (List.mem_append_left _ (List.mem_append_left _ (List.mem_append_left _ (List.mem_append_left _ (List.mem_append_right _ h)))))
theorem inlX2 : ∀ w ∈ wsX20, w ∈ wsL_law := fun _ h => List.mem_append_left _ (List.mem_append_right _ h)
theorem inlX3 : ∀ w ∈ wsX30, w ∈ wsL_law := fun _ h => List.mem_append_left _ (List.mem_append_left _ (List.mem_append_left _ (List.mem_append_right _ h)))
theorem inlX4 : ∀ w ∈ wsX40, w ∈ wsL_law := fun _ h => List.mem_append_left _ (List.mem_append_left _ (List.mem_append_right _ h))
theorem inlX5 : ∀ w ∈ wsX50, w ∈ wsL_law := fun _ h => List.mem_append_left _ (List.mem_append_left _ (List.mem_append_left _ (List.mem_append_left _ (List.mem_append_left _ (List.mem_append_left _ (List.mem_append_left _ (List.mem_append_right _ h)))))))
theorem inlX6 : ∀ w ∈ wsX60, w ∈ wsL_law := fun _ h => List.mem_append_left _ (List.mem_append_left _ (List.mem_append_left _ (List.mem_append_left _ (List.mem_append_left _ (List.mem_append_left _ (List.mem_append_right _ h))))))
abbrev vwCl : List vw_C := [(RX0, TX0, 3), (RX1, TX1, 10), (RX2, TX2, 11), (RX3, TX3, 6), (RX4, TX4, 4), (RX5, TX5, 6), (RX6, TX6, 13)]

