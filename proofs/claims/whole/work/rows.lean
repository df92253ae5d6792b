section
-- ===== PART A: goes FIRST, ahead of the names: the tables' words, and 'selects' of the private methods out of them =====
/-- a private method of a class that the tables say can be made, by its rows of tables_1 -/
def lw_okq (q : MethodName × Nat) : Prop := (q.1.cls ≠ "java/lang/invoke/MethodHandle" ∧ q.1.cls ≠ "java/lang/invoke/VarHandle") ∧ Cond.instantiable q.1.cls q.2 ∈ tables_1 ∧ Cond.privateMethod q.1 ∈ tables_1 ∧ Cond.instanceMethod q.1 ∈ tables_1
theorem lw_p0 : lw_okq (⟨"LocoFrames$Layout", "rankOf", "(I)I"⟩, 10) := ⟨⟨by decide +kernel, by decide +kernel⟩, List.mem_of_getElem? (i := 19) (by decide +kernel), List.mem_of_getElem? (i := 233) (by decide +kernel), List.mem_of_getElem? (i := 234) (by decide +kernel)⟩
theorem lw_p1 : lw_okq (⟨"LocoFrames$Station", "setRow", "(IIII)V"⟩, 4) := ⟨⟨by decide +kernel, by decide +kernel⟩, List.mem_of_getElem? (i := 27) (by decide +kernel), List.mem_of_getElem? (i := 270) (by decide +kernel), List.mem_of_getElem? (i := 271) (by decide +kernel)⟩
theorem lw_p2 : lw_okq (⟨"LocoFrames$Layout", "isShorted", "(I)Z"⟩, 10) := ⟨⟨by decide +kernel, by decide +kernel⟩, List.mem_of_getElem? (i := 19) (by decide +kernel), List.mem_of_getElem? (i := 286) (by decide +kernel), List.mem_of_getElem? (i := 287) (by decide +kernel)⟩
theorem lw_p3 : lw_okq (⟨"LocoFrames$Layout", "sendFirst", "()I"⟩, 10) := ⟨⟨by decide +kernel, by decide +kernel⟩, List.mem_of_getElem? (i := 19) (by decide +kernel), List.mem_of_getElem? (i := 319) (by decide +kernel), List.mem_of_getElem? (i := 320) (by decide +kernel)⟩
theorem lw_p4 : lw_okq (⟨"LocoFrames$Pad", "here", "()I"⟩, 6) := ⟨⟨by decide +kernel, by decide +kernel⟩, List.mem_of_getElem? (i := 153) (by decide +kernel), List.mem_of_getElem? (i := 483) (by decide +kernel), List.mem_of_getElem? (i := 484) (by decide +kernel)⟩
theorem lw_p5 : lw_okq (⟨"LocoFrames$Pad", "readsNumber", "()Z"⟩, 6) := ⟨⟨by decide +kernel, by decide +kernel⟩, List.mem_of_getElem? (i := 153) (by decide +kernel), List.mem_of_getElem? (i := 487) (by decide +kernel), List.mem_of_getElem? (i := 488) (by decide +kernel)⟩
theorem lw_p6 : lw_okq (⟨"LocoFrames$Pad", "hold", "(I)V"⟩, 6) := ⟨⟨by decide +kernel, by decide +kernel⟩, List.mem_of_getElem? (i := 153) (by decide +kernel), List.mem_of_getElem? (i := 491) (by decide +kernel), List.mem_of_getElem? (i := 492) (by decide +kernel)⟩
theorem lw_p7 : lw_okq (⟨"LocoFrames$Pad", "readsDigit", "(I)Z"⟩, 6) := ⟨⟨by decide +kernel, by decide +kernel⟩, List.mem_of_getElem? (i := 153) (by decide +kernel), List.mem_of_getElem? (i := 499) (by decide +kernel), List.mem_of_getElem? (i := 500) (by decide +kernel)⟩
theorem lw_p8 : lw_okq (⟨"LocoFrames", "carriesOne", "()Z"⟩, 6) := ⟨⟨by decide +kernel, by decide +kernel⟩, List.mem_of_getElem? (i := 11) (by decide +kernel), List.mem_of_getElem? (i := 509) (by decide +kernel), List.mem_of_getElem? (i := 510) (by decide +kernel)⟩
theorem lw_p9 : lw_okq (⟨"LocoFramesModel", "locoOf", "(I)I"⟩, 13) := ⟨⟨by decide +kernel, by decide +kernel⟩, List.mem_of_getElem? (i := 530) (by decide +kernel), List.mem_of_getElem? (i := 583) (by decide +kernel), List.mem_of_getElem? (i := 584) (by decide +kernel)⟩
theorem lw_p10 : lw_okq (⟨"LocoFramesModel", "get", "(II)I"⟩, 13) := ⟨⟨by decide +kernel, by decide +kernel⟩, List.mem_of_getElem? (i := 530) (by decide +kernel), List.mem_of_getElem? (i := 587) (by decide +kernel), List.mem_of_getElem? (i := 588) (by decide +kernel)⟩
theorem lw_p11 : lw_okq (⟨"LocoFramesModel", "records", "()V"⟩, 13) := ⟨⟨by decide +kernel, by decide +kernel⟩, List.mem_of_getElem? (i := 530) (by decide +kernel), List.mem_of_getElem? (i := 591) (by decide +kernel), List.mem_of_getElem? (i := 592) (by decide +kernel)⟩
theorem lw_p12 : lw_okq (⟨"LocoFramesModel", "lay", "(III)V"⟩, 13) := ⟨⟨by decide +kernel, by decide +kernel⟩, List.mem_of_getElem? (i := 530) (by decide +kernel), List.mem_of_getElem? (i := 595) (by decide +kernel), List.mem_of_getElem? (i := 596) (by decide +kernel)⟩
theorem lw_p13 : lw_okq (⟨"LocoFramesModel", "refusesOrder", "(III)I"⟩, 13) := ⟨⟨by decide +kernel, by decide +kernel⟩, List.mem_of_getElem? (i := 530) (by decide +kernel), List.mem_of_getElem? (i := 611) (by decide +kernel), List.mem_of_getElem? (i := 612) (by decide +kernel)⟩
theorem lw_p14 : lw_okq (⟨"LocoFramesModel", "laysOrder", "(III)I"⟩, 13) := ⟨⟨by decide +kernel, by decide +kernel⟩, List.mem_of_getElem? (i := 530) (by decide +kernel), List.mem_of_getElem? (i := 615) (by decide +kernel), List.mem_of_getElem? (i := 616) (by decide +kernel)⟩
theorem lw_p15 : lw_okq (⟨"LocoFramesModel", "comes", "(III)I"⟩, 13) := ⟨⟨by decide +kernel, by decide +kernel⟩, List.mem_of_getElem? (i := 530) (by decide +kernel), List.mem_of_getElem? (i := 626) (by decide +kernel), List.mem_of_getElem? (i := 627) (by decide +kernel)⟩
def lw_privs_1 : List (MethodName × Nat) := [(⟨"LocoFrames$Layout", "rankOf", "(I)I"⟩, 10), (⟨"LocoFrames$Station", "setRow", "(IIII)V"⟩, 4), (⟨"LocoFrames$Layout", "isShorted", "(I)Z"⟩, 10), (⟨"LocoFrames$Layout", "sendFirst", "()I"⟩, 10), (⟨"LocoFrames$Pad", "here", "()I"⟩, 6), (⟨"LocoFrames$Pad", "readsNumber", "()Z"⟩, 6), (⟨"LocoFrames$Pad", "hold", "(I)V"⟩, 6), (⟨"LocoFrames$Pad", "readsDigit", "(I)Z"⟩, 6), (⟨"LocoFrames", "carriesOne", "()Z"⟩, 6), (⟨"LocoFramesModel", "locoOf", "(I)I"⟩, 13), (⟨"LocoFramesModel", "get", "(II)I"⟩, 13), (⟨"LocoFramesModel", "records", "()V"⟩, 13), (⟨"LocoFramesModel", "lay", "(III)V"⟩, 13), (⟨"LocoFramesModel", "refusesOrder", "(III)I"⟩, 13), (⟨"LocoFramesModel", "laysOrder", "(III)I"⟩, 13), (⟨"LocoFramesModel", "comes", "(III)I"⟩, 13)]
theorem lw_r1 : ∀ q ∈ lw_privs_1, lw_okq q := List.forall_mem_cons.mpr ⟨lw_p0, List.forall_mem_cons.mpr ⟨lw_p1, List.forall_mem_cons.mpr ⟨lw_p2, List.forall_mem_cons.mpr ⟨lw_p3, List.forall_mem_cons.mpr ⟨lw_p4, List.forall_mem_cons.mpr ⟨lw_p5, List.forall_mem_cons.mpr ⟨lw_p6, List.forall_mem_cons.mpr ⟨lw_p7, List.forall_mem_cons.mpr ⟨lw_p8, List.forall_mem_cons.mpr ⟨lw_p9, List.forall_mem_cons.mpr ⟨lw_p10, List.forall_mem_cons.mpr ⟨lw_p11, List.forall_mem_cons.mpr ⟨lw_p12, List.forall_mem_cons.mpr ⟨lw_p13, List.forall_mem_cons.mpr ⟨lw_p14, List.forall_mem_cons.mpr ⟨lw_p15, fun _ h => absurd h List.not_mem_nil⟩⟩⟩⟩⟩⟩⟩⟩⟩⟩⟩⟩⟩⟩⟩⟩
theorem lw_p16 : lw_okq (⟨"LocoFramesModel", "isShort", "(I)Z"⟩, 13) := ⟨⟨by decide +kernel, by decide +kernel⟩, List.mem_of_getElem? (i := 530) (by decide +kernel), List.mem_of_getElem? (i := 630) (by decide +kernel), List.mem_of_getElem? (i := 631) (by decide +kernel)⟩
theorem lw_p17 : lw_okq (⟨"LocoFramesModel", "blockOf", "(I)I"⟩, 13) := ⟨⟨by decide +kernel, by decide +kernel⟩, List.mem_of_getElem? (i := 530) (by decide +kernel), List.mem_of_getElem? (i := 634) (by decide +kernel), List.mem_of_getElem? (i := 635) (by decide +kernel)⟩
theorem lw_p18 : lw_okq (⟨"LocoFramesModel", "hears", "(II)V"⟩, 13) := ⟨⟨by decide +kernel, by decide +kernel⟩, List.mem_of_getElem? (i := 530) (by decide +kernel), List.mem_of_getElem? (i := 638) (by decide +kernel), List.mem_of_getElem? (i := 639) (by decide +kernel)⟩
theorem lw_p19 : lw_okq (⟨"LocoFramesModel", "refusesPass", "(I)I"⟩, 13) := ⟨⟨by decide +kernel, by decide +kernel⟩, List.mem_of_getElem? (i := 530) (by decide +kernel), List.mem_of_getElem? (i := 653) (by decide +kernel), List.mem_of_getElem? (i := 654) (by decide +kernel)⟩
theorem lw_p20 : lw_okq (⟨"LocoFramesModel", "ticks", "(I)I"⟩, 13) := ⟨⟨by decide +kernel, by decide +kernel⟩, List.mem_of_getElem? (i := 530) (by decide +kernel), List.mem_of_getElem? (i := 658) (by decide +kernel), List.mem_of_getElem? (i := 659) (by decide +kernel)⟩
theorem lw_p21 : lw_okq (⟨"LocoFramesModel", "tick", "()I"⟩, 13) := ⟨⟨by decide +kernel, by decide +kernel⟩, List.mem_of_getElem? (i := 530) (by decide +kernel), List.mem_of_getElem? (i := 662) (by decide +kernel), List.mem_of_getElem? (i := 663) (by decide +kernel)⟩
theorem lw_p22 : lw_okq (⟨"LocoFramesModel", "sends", "()I"⟩, 13) := ⟨⟨by decide +kernel, by decide +kernel⟩, List.mem_of_getElem? (i := 530) (by decide +kernel), List.mem_of_getElem? (i := 666) (by decide +kernel), List.mem_of_getElem? (i := 667) (by decide +kernel)⟩
theorem lw_p23 : lw_okq (⟨"LocoFramesModel", "speeds", "(I)V"⟩, 13) := ⟨⟨by decide +kernel, by decide +kernel⟩, List.mem_of_getElem? (i := 530) (by decide +kernel), List.mem_of_getElem? (i := 670) (by decide +kernel), List.mem_of_getElem? (i := 671) (by decide +kernel)⟩
theorem lw_p24 : lw_okq (⟨"LocoFramesModel", "due", "(I)I"⟩, 13) := ⟨⟨by decide +kernel, by decide +kernel⟩, List.mem_of_getElem? (i := 530) (by decide +kernel), List.mem_of_getElem? (i := 674) (by decide +kernel), List.mem_of_getElem? (i := 675) (by decide +kernel)⟩
theorem lw_p25 : lw_okq (⟨"LocoFramesModel", "goes", "(I)V"⟩, 13) := ⟨⟨by decide +kernel, by decide +kernel⟩, List.mem_of_getElem? (i := 530) (by decide +kernel), List.mem_of_getElem? (i := 681) (by decide +kernel), List.mem_of_getElem? (i := 682) (by decide +kernel)⟩
theorem lw_p26 : lw_okq (⟨"LocoFramesModel", "locosIn", "(I)I"⟩, 13) := ⟨⟨by decide +kernel, by decide +kernel⟩, List.mem_of_getElem? (i := 530) (by decide +kernel), List.mem_of_getElem? (i := 701) (by decide +kernel), List.mem_of_getElem? (i := 702) (by decide +kernel)⟩
theorem lw_p27 : lw_okq (⟨"LocoFramesModel", "overBlocks", "(I)I"⟩, 13) := ⟨⟨by decide +kernel, by decide +kernel⟩, List.mem_of_getElem? (i := 530) (by decide +kernel), List.mem_of_getElem? (i := 709) (by decide +kernel), List.mem_of_getElem? (i := 710) (by decide +kernel)⟩
theorem lw_p28 : lw_okq (⟨"LocoFramesModel", "allSpeeds", "()I"⟩, 13) := ⟨⟨by decide +kernel, by decide +kernel⟩, List.mem_of_getElem? (i := 530) (by decide +kernel), List.mem_of_getElem? (i := 713) (by decide +kernel), List.mem_of_getElem? (i := 714) (by decide +kernel)⟩
theorem lw_p29 : lw_okq (⟨"LocoFramesModel", "putAside", "()V"⟩, 13) := ⟨⟨by decide +kernel, by decide +kernel⟩, List.mem_of_getElem? (i := 530) (by decide +kernel), List.mem_of_getElem? (i := 721) (by decide +kernel), List.mem_of_getElem? (i := 722) (by decide +kernel)⟩
theorem lw_p30 : lw_okq (⟨"LocoFramesModel", "takeBack", "()V"⟩, 13) := ⟨⟨by decide +kernel, by decide +kernel⟩, List.mem_of_getElem? (i := 530) (by decide +kernel), List.mem_of_getElem? (i := 725) (by decide +kernel), List.mem_of_getElem? (i := 726) (by decide +kernel)⟩
theorem lw_p31 : lw_okq (⟨"LocoFramesModel", "reads", "()I"⟩, 13) := ⟨⟨by decide +kernel, by decide +kernel⟩, List.mem_of_getElem? (i := 530) (by decide +kernel), List.mem_of_getElem? (i := 754) (by decide +kernel), List.mem_of_getElem? (i := 755) (by decide +kernel)⟩
def lw_privs_2 : List (MethodName × Nat) := [(⟨"LocoFramesModel", "isShort", "(I)Z"⟩, 13), (⟨"LocoFramesModel", "blockOf", "(I)I"⟩, 13), (⟨"LocoFramesModel", "hears", "(II)V"⟩, 13), (⟨"LocoFramesModel", "refusesPass", "(I)I"⟩, 13), (⟨"LocoFramesModel", "ticks", "(I)I"⟩, 13), (⟨"LocoFramesModel", "tick", "()I"⟩, 13), (⟨"LocoFramesModel", "sends", "()I"⟩, 13), (⟨"LocoFramesModel", "speeds", "(I)V"⟩, 13), (⟨"LocoFramesModel", "due", "(I)I"⟩, 13), (⟨"LocoFramesModel", "goes", "(I)V"⟩, 13), (⟨"LocoFramesModel", "locosIn", "(I)I"⟩, 13), (⟨"LocoFramesModel", "overBlocks", "(I)I"⟩, 13), (⟨"LocoFramesModel", "allSpeeds", "()I"⟩, 13), (⟨"LocoFramesModel", "putAside", "()V"⟩, 13), (⟨"LocoFramesModel", "takeBack", "()V"⟩, 13), (⟨"LocoFramesModel", "reads", "()I"⟩, 13)]
theorem lw_r2 : ∀ q ∈ lw_privs_2, lw_okq q := List.forall_mem_cons.mpr ⟨lw_p16, List.forall_mem_cons.mpr ⟨lw_p17, List.forall_mem_cons.mpr ⟨lw_p18, List.forall_mem_cons.mpr ⟨lw_p19, List.forall_mem_cons.mpr ⟨lw_p20, List.forall_mem_cons.mpr ⟨lw_p21, List.forall_mem_cons.mpr ⟨lw_p22, List.forall_mem_cons.mpr ⟨lw_p23, List.forall_mem_cons.mpr ⟨lw_p24, List.forall_mem_cons.mpr ⟨lw_p25, List.forall_mem_cons.mpr ⟨lw_p26, List.forall_mem_cons.mpr ⟨lw_p27, List.forall_mem_cons.mpr ⟨lw_p28, List.forall_mem_cons.mpr ⟨lw_p29, List.forall_mem_cons.mpr ⟨lw_p30, List.forall_mem_cons.mpr ⟨lw_p31, fun _ h => absurd h List.not_mem_nil⟩⟩⟩⟩⟩⟩⟩⟩⟩⟩⟩⟩⟩⟩⟩⟩
theorem lw_p32 : lw_okq (⟨"LocoFramesModel", "readsOrder", "()V"⟩, 13) := ⟨⟨by decide +kernel, by decide +kernel⟩, List.mem_of_getElem? (i := 530) (by decide +kernel), List.mem_of_getElem? (i := 758) (by decide +kernel), List.mem_of_getElem? (i := 759) (by decide +kernel)⟩
theorem lw_p33 : lw_okq (⟨"LocoFramesModel", "sign", "()I"⟩, 13) := ⟨⟨by decide +kernel, by decide +kernel⟩, List.mem_of_getElem? (i := 530) (by decide +kernel), List.mem_of_getElem? (i := 762) (by decide +kernel), List.mem_of_getElem? (i := 763) (by decide +kernel)⟩
theorem lw_p34 : lw_okq (⟨"LocoFramesModel", "digit", "(I)I"⟩, 13) := ⟨⟨by decide +kernel, by decide +kernel⟩, List.mem_of_getElem? (i := 530) (by decide +kernel), List.mem_of_getElem? (i := 766) (by decide +kernel), List.mem_of_getElem? (i := 767) (by decide +kernel)⟩
theorem lw_p35 : lw_okq (⟨"LocoFramesModel", "number", "()I"⟩, 13) := ⟨⟨by decide +kernel, by decide +kernel⟩, List.mem_of_getElem? (i := 530) (by decide +kernel), List.mem_of_getElem? (i := 770) (by decide +kernel), List.mem_of_getElem? (i := 771) (by decide +kernel)⟩
theorem lw_p36 : lw_okq (⟨"LocoFramesModel", "wants", "(I)V"⟩, 13) := ⟨⟨by decide +kernel, by decide +kernel⟩, List.mem_of_getElem? (i := 530) (by decide +kernel), List.mem_of_getElem? (i := 774) (by decide +kernel), List.mem_of_getElem? (i := 775) (by decide +kernel)⟩
theorem lw_p37 : lw_okq (⟨"LocoFramesModel", "refuses", "(I)I"⟩, 13) := ⟨⟨by decide +kernel, by decide +kernel⟩, List.mem_of_getElem? (i := 530) (by decide +kernel), List.mem_of_getElem? (i := 782) (by decide +kernel), List.mem_of_getElem? (i := 783) (by decide +kernel)⟩
theorem lw_p38 : lw_okq (⟨"LocoFramesModel", "does", "(I)V"⟩, 13) := ⟨⟨by decide +kernel, by decide +kernel⟩, List.mem_of_getElem? (i := 530) (by decide +kernel), List.mem_of_getElem? (i := 786) (by decide +kernel), List.mem_of_getElem? (i := 787) (by decide +kernel)⟩
def lw_privs_3 : List (MethodName × Nat) := [(⟨"LocoFramesModel", "readsOrder", "()V"⟩, 13), (⟨"LocoFramesModel", "sign", "()I"⟩, 13), (⟨"LocoFramesModel", "digit", "(I)I"⟩, 13), (⟨"LocoFramesModel", "number", "()I"⟩, 13), (⟨"LocoFramesModel", "wants", "(I)V"⟩, 13), (⟨"LocoFramesModel", "refuses", "(I)I"⟩, 13), (⟨"LocoFramesModel", "does", "(I)V"⟩, 13)]
theorem lw_r3 : ∀ q ∈ lw_privs_3, lw_okq q := List.forall_mem_cons.mpr ⟨lw_p32, List.forall_mem_cons.mpr ⟨lw_p33, List.forall_mem_cons.mpr ⟨lw_p34, List.forall_mem_cons.mpr ⟨lw_p35, List.forall_mem_cons.mpr ⟨lw_p36, List.forall_mem_cons.mpr ⟨lw_p37, List.forall_mem_cons.mpr ⟨lw_p38, fun _ h => absurd h List.not_mem_nil⟩⟩⟩⟩⟩⟩⟩
def lw_privs : List (MethodName × Nat) := lw_privs_1 ++ (lw_privs_2 ++ (lw_privs_3))
def lw_tbl : List Cond := k2_sels lw_privs ++ tables_1
theorem lw_privs_ok : ∀ q ∈ lw_privs, lw_okq q := by
  show ∀ q ∈ lw_privs_1 ++ (lw_privs_2 ++ (lw_privs_3)), lw_okq q
  exact List.forall_mem_append.mpr ⟨lw_r1, List.forall_mem_append.mpr ⟨lw_r2, lw_r3⟩⟩
/-! ===== BEGIN words of one list among another's, by their places ===== -/
theorem goodIn_r {big : List Cond} (ws : List Cond) (ps : List Nat) (hp : ws = ps.filterMap (fun i => big[i]?)) (h : ws.all goodWord = true) : GoodIn big ws := by
  intro w hw
  have h1 := List.all_eq_true.mp h w hw
  rw [hp] at hw
  obtain ⟨i, -, hi⟩ := List.mem_filterMap.mp hw
  have hm : w ∈ big := by first | exact List.mem_of_getElem? hi | exact List.getElem?_mem hi
  exact ⟨hm, good_of_word h1⟩
theorem goodIn_app {big a b : List Cond} (ha : GoodIn big a) (hb : GoodIn big b) : GoodIn big (a ++ b) := fun w h => (List.mem_append.mp h).elim (ha w) (hb w)
theorem goodIn_ca {big a b : List Cond} {c : Cond} (ha : GoodIn big (c :: a)) (hb : GoodIn big b) : GoodIn big (c :: (a ++ b)) := fun w h => (List.mem_cons.mp h).elim (fun e => ha w (List.mem_cons.mpr (Or.inl e))) (fun h => (List.mem_append.mp h).elim (fun h => ha w (List.mem_cons.mpr (Or.inr h))) (hb w))
theorem goodIn_sub {big ws : List Cond} (hm : ∀ w ∈ ws, w ∈ big) (h : ws.all goodWord = true) : GoodIn big ws := fun w hw => ⟨hm w hw, good_of_word (List.all_eq_true.mp h w hw)⟩
/-! ===== END ===== -/

/-! ===== BEGIN printed: names, fields, word lists, decode rows ===== -/
def RX0 : String := "LocoFrames$History"
def TX0 : u_T := fun k => match k with
  | 0 => ("LocoFrames$History", "states", "[LLocoFrames$Layout;", true)
  | 1 => ("LocoFrames$History", "first", "I", false)
  | _ => ("LocoFrames$History", "held", "I", false)
def tyX0 : Nat → FieldType := fun k => match k with
  | 0 => .array (.object "LocoFrames$Layout")
  | 1 => .int
  | _ => .int
abbrev wsX00 : List Cond := u_ws RX0 TX0 3
theorem nmX0 : ∀ a, a < 3 → ∀ b, b < 3 → a ≠ b → (TX0 a).2.1 ≠ (TX0 b).2.1 := by decide +kernel
theorem tyX0_ok : ∀ k, k < 3 → parseFieldDescriptor (TX0 k).2.2.1 = some (tyX0 k) := by decide +kernel
abbrev cX0_init : ByteArray := prog_2_method_1_code
def yX0_init : MethodName := ⟨RX0, "<init>", "()V"⟩
abbrev cX0_draft : ByteArray := prog_2_method_2_code
def yX0_draft : MethodName := ⟨RX0, "draft", "(LLocoFrames$Layout;)V"⟩
abbrev cX0_kept : ByteArray := prog_2_method_3_code
def yX0_kept : MethodName := ⟨RX0, "kept", "(I)I"⟩
abbrev cX0_takeBack : ByteArray := prog_2_method_4_code
def yX0_takeBack : MethodName := ⟨RX0, "takeBack", "(LLocoFrames$Layout;)I"⟩
def RX1 : String := "LocoFrames$Layout"
def TX1 : u_T := fun k => match k with
  | 0 => ("LocoFrames$Layout", "locos", "[LLocoFrames$Loco;", true)
  | 1 => ("LocoFrames$Layout", "station", "LLocoFrames$Station;", true)
  | 2 => ("LocoFrames$Layout", "shortTicks", "[I", true)
  | 3 => ("LocoFrames$Layout", "locoCount", "I", false)
  | 4 => ("LocoFrames$Layout", "ticks", "I", false)
  | 5 => ("LocoFrames$Layout", "noiseTicks", "I", false)
  | 6 => ("LocoFrames$Layout", "spoiledAt", "I", false)
  | 7 => ("LocoFrames$Layout", "frames", "I", false)
  | 8 => ("LocoFrames$Layout", "broken", "I", false)
  | _ => ("LocoFrames$Layout", "spoiled", "I", false)
def tyX1 : Nat → FieldType := fun k => match k with
  | 0 => .array (.object "LocoFrames$Loco")
  | 1 => .object "LocoFrames$Station"
  | 2 => .array .int
  | 3 => .int
  | 4 => .int
  | 5 => .int
  | 6 => .int
  | 7 => .int
  | 8 => .int
  | _ => .int
abbrev wsX10 : List Cond := u_ws RX1 TX1 10
theorem nmX1 : ∀ a, a < 10 → ∀ b, b < 10 → a ≠ b → (TX1 a).2.1 ≠ (TX1 b).2.1 := by decide +kernel
theorem tyX1_ok : ∀ k, k < 10 → parseFieldDescriptor (TX1 k).2.2.1 = some (tyX1 k) := by decide +kernel
abbrev cX1_init : ByteArray := prog_3_method_1_code
def yX1_init : MethodName := ⟨RX1, "<init>", "()V"⟩
abbrev cX1_copyFrom : ByteArray := prog_3_method_2_code
def yX1_copyFrom : MethodName := ⟨RX1, "copyFrom", "(LLocoFrames$Layout;)V"⟩
abbrev cX1_locoAt : ByteArray := prog_3_method_3_code
def yX1_locoAt : MethodName := ⟨RX1, "locoAt", "(I)LLocoFrames$Loco;"⟩
abbrev cX1_locoWith : ByteArray := prog_3_method_4_code
def yX1_locoWith : MethodName := ⟨RX1, "locoWith", "(I)LLocoFrames$Loco;"⟩
abbrev cX1_rankOf : ByteArray := prog_3_method_5_code
def yX1_rankOf : MethodName := ⟨RX1, "rankOf", "(I)I"⟩
abbrev cX1_addLoco : ByteArray := prog_3_method_6_code
def yX1_addLoco : MethodName := ⟨RX1, "addLoco", "(IIII)I"⟩
abbrev cX1_removeLoco : ByteArray := prog_3_method_7_code
def yX1_removeLoco : MethodName := ⟨RX1, "removeLoco", "(I)I"⟩
abbrev cX1_changeNoise : ByteArray := prog_3_method_8_code
def yX1_changeNoise : MethodName := ⟨RX1, "changeNoise", "(I)I"⟩
abbrev cX1_changeShort : ByteArray := prog_3_method_9_code
def yX1_changeShort : MethodName := ⟨RX1, "changeShort", "(II)I"⟩
abbrev cX1_takeFrame : ByteArray := prog_3_method_10_code
def yX1_takeFrame : MethodName := ⟨RX1, "takeFrame", "(III)I"⟩
abbrev cX1_takeTicks : ByteArray := prog_3_method_11_code
def yX1_takeTicks : MethodName := ⟨RX1, "takeTicks", "(I)I"⟩
abbrev cX1_tick : ByteArray := prog_3_method_12_code
def yX1_tick : MethodName := ⟨RX1, "tick", "()I"⟩
abbrev cX1_sendFirst : ByteArray := prog_3_method_13_code
def yX1_sendFirst : MethodName := ⟨RX1, "sendFirst", "()I"⟩
abbrev cX1_isShorted : ByteArray := prog_3_method_14_code
def yX1_isShorted : MethodName := ⟨RX1, "isShorted", "(I)Z"⟩
abbrev cX1_locosIn : ByteArray := prog_3_method_15_code
def yX1_locosIn : MethodName := ⟨RX1, "locosIn", "(I)I"⟩
abbrev cX1_blocksWithShort : ByteArray := prog_3_method_16_code
def yX1_blocksWithShort : MethodName := ⟨RX1, "blocksWithShort", "()I"⟩
abbrev cX1_crowdedBlocks : ByteArray := prog_3_method_17_code
def yX1_crowdedBlocks : MethodName := ⟨RX1, "crowdedBlocks", "()I"⟩
abbrev cX1_speedSum : ByteArray := prog_3_method_18_code
def yX1_speedSum : MethodName := ⟨RX1, "speedSum", "()I"⟩
def RX2 : String := "LocoFrames$Loco"
def TX2 : u_T := fun k => match k with
  | 0 => ("LocoFrames$Loco", "address", "I", false)
  | 1 => ("LocoFrames$Loco", "mass", "I", false)
  | 2 => ("LocoFrames$Loco", "curve", "I", false)
  | 3 => ("LocoFrames$Loco", "place", "I", false)
  | 4 => ("LocoFrames$Loco", "tenths", "I", false)
  | 5 => ("LocoFrames$Loco", "speed", "I", false)
  | 6 => ("LocoFrames$Loco", "rounds", "I", false)
  | 7 => ("LocoFrames$Loco", "step", "I", false)
  | 8 => ("LocoFrames$Loco", "way", "I", false)
  | 9 => ("LocoFrames$Loco", "lights", "I", false)
  | _ => ("LocoFrames$Loco", "heard", "I", false)
def tyX2 : Nat → FieldType := fun k => match k with
  | 0 => .int
  | 1 => .int
  | 2 => .int
  | 3 => .int
  | 4 => .int
  | 5 => .int
  | 6 => .int
  | 7 => .int
  | 8 => .int
  | 9 => .int
  | _ => .int
abbrev wsX20 : List Cond := u_ws RX2 TX2 11
theorem nmX2 : ∀ a, a < 11 → ∀ b, b < 11 → a ≠ b → (TX2 a).2.1 ≠ (TX2 b).2.1 := by decide +kernel
theorem tyX2_ok : ∀ k, k < 11 → parseFieldDescriptor (TX2 k).2.2.1 = some (tyX2 k) := by decide +kernel
abbrev cX2_init : ByteArray := prog_4_method_1_code
def yX2_init : MethodName := ⟨RX2, "<init>", "()V"⟩
abbrev cX2_begin : ByteArray := prog_4_method_2_code
def yX2_begin : MethodName := ⟨RX2, "begin", "(IIII)V"⟩
abbrev cX2_copyFrom : ByteArray := prog_4_method_3_code
def yX2_copyFrom : MethodName := ⟨RX2, "copyFrom", "(LLocoFrames$Loco;)V"⟩
abbrev cX2_blockNumber : ByteArray := prog_4_method_4_code
def yX2_blockNumber : MethodName := ⟨RX2, "blockNumber", "()I"⟩
abbrev cX2_goal : ByteArray := prog_4_method_5_code
def yX2_goal : MethodName := ⟨RX2, "goal", "()I"⟩
abbrev cX2_mostGain : ByteArray := prog_4_method_6_code
def yX2_mostGain : MethodName := ⟨RX2, "mostGain", "()I"⟩
abbrev cX2_ticksToGoal : ByteArray := prog_4_method_7_code
def yX2_ticksToGoal : MethodName := ⟨RX2, "ticksToGoal", "()I"⟩
abbrev cX2_changeSpeed : ByteArray := prog_4_method_8_code
def yX2_changeSpeed : MethodName := ⟨RX2, "changeSpeed", "()V"⟩
abbrev cX2_roll : ByteArray := prog_4_method_9_code
def yX2_roll : MethodName := ⟨RX2, "roll", "()V"⟩
abbrev cX2_hear : ByteArray := prog_4_method_10_code
def yX2_hear : MethodName := ⟨RX2, "hear", "(I)V"⟩
abbrev cX2_told : ByteArray := prog_4_method_11_code
def yX2_told : MethodName := ⟨RX2, "told", "(I)I"⟩
def RX3 : String := "LocoFrames$Pad"
def TX3 : u_T := fun k => match k with
  | 0 => ("LocoFrames$Pad", "text", "[C", true)
  | 1 => ("LocoFrames$Pad", "length", "I", false)
  | 2 => ("LocoFrames$Pad", "at", "I", false)
  | 3 => ("LocoFrames$Pad", "kind", "I", false)
  | 4 => ("LocoFrames$Pad", "numbers", "[I", true)
  | _ => ("LocoFrames$Pad", "numbersRead", "I", false)
def tyX3 : Nat → FieldType := fun k => match k with
  | 0 => .array .char
  | 1 => .int
  | 2 => .int
  | 3 => .int
  | 4 => .array .int
  | _ => .int
abbrev wsX30 : List Cond := u_ws RX3 TX3 6
theorem nmX3 : ∀ a, a < 6 → ∀ b, b < 6 → a ≠ b → (TX3 a).2.1 ≠ (TX3 b).2.1 := by decide +kernel
theorem tyX3_ok : ∀ k, k < 6 → parseFieldDescriptor (TX3 k).2.2.1 = some (tyX3 k) := by decide +kernel
abbrev cX3_init : ByteArray := prog_5_method_1_code
def yX3_init : MethodName := ⟨RX3, "<init>", "()V"⟩
abbrev cX3_append : ByteArray := prog_5_method_2_code
def yX3_append : MethodName := ⟨RX3, "append", "(J)I"⟩
abbrev cX3_countOf : ByteArray := prog_5_method_3_code
def yX3_countOf : MethodName := ⟨RX3, "countOf", "(J)I"⟩
abbrev cX3_codeAt : ByteArray := prog_5_method_4_code
def yX3_codeAt : MethodName := ⟨RX3, "codeAt", "(JI)I"⟩
abbrev cX3_clear : ByteArray := prog_5_method_5_code
def yX3_clear : MethodName := ⟨RX3, "clear", "()I"⟩
abbrev cX3_rewind : ByteArray := prog_5_method_6_code
def yX3_rewind : MethodName := ⟨RX3, "rewind", "()V"⟩
abbrev cX3_firstFault : ByteArray := prog_5_method_7_code
def yX3_firstFault : MethodName := ⟨RX3, "firstFault", "()I"⟩
abbrev cX3_readsOrder : ByteArray := prog_5_method_8_code
def yX3_readsOrder : MethodName := ⟨RX3, "readsOrder", "()Z"⟩
abbrev cX3_here : ByteArray := prog_5_method_9_code
def yX3_here : MethodName := ⟨RX3, "here", "()I"⟩
abbrev cX3_reads : ByteArray := prog_5_method_10_code
def yX3_reads : MethodName := ⟨RX3, "reads", "(I)Z"⟩
abbrev cX3_readsDigit : ByteArray := prog_5_method_11_code
def yX3_readsDigit : MethodName := ⟨RX3, "readsDigit", "(I)Z"⟩
abbrev cX3_readsNumber : ByteArray := prog_5_method_12_code
def yX3_readsNumber : MethodName := ⟨RX3, "readsNumber", "()Z"⟩
abbrev cX3_hold : ByteArray := prog_5_method_13_code
def yX3_hold : MethodName := ⟨RX3, "hold", "(I)V"⟩
def RX4 : String := "LocoFrames$Station"
def TX4 : u_T := fun k => match k with
  | 0 => ("LocoFrames$Station", "addresses", "[I", true)
  | 1 => ("LocoFrames$Station", "data", "[I", true)
  | 2 => ("LocoFrames$Station", "urgencies", "[I", true)
  | _ => ("LocoFrames$Station", "held", "I", false)
def tyX4 : Nat → FieldType := fun k => match k with
  | 0 => .array .int
  | 1 => .array .int
  | 2 => .array .int
  | _ => .int
abbrev wsX40 : List Cond := u_ws RX4 TX4 4
theorem nmX4 : ∀ a, a < 4 → ∀ b, b < 4 → a ≠ b → (TX4 a).2.1 ≠ (TX4 b).2.1 := by decide +kernel
theorem tyX4_ok : ∀ k, k < 4 → parseFieldDescriptor (TX4 k).2.2.1 = some (tyX4 k) := by decide +kernel
abbrev cX4_init : ByteArray := prog_6_method_1_code
def yX4_init : MethodName := ⟨RX4, "<init>", "()V"⟩
abbrev cX4_copyFrom : ByteArray := prog_6_method_2_code
def yX4_copyFrom : MethodName := ⟨RX4, "copyFrom", "(LLocoFrames$Station;)V"⟩
abbrev cX4_take : ByteArray := prog_6_method_3_code
def yX4_take : MethodName := ⟨RX4, "take", "(III)I"⟩
abbrev cX4_setRow : ByteArray := prog_6_method_4_code
def yX4_setRow : MethodName := ⟨RX4, "setRow", "(IIII)V"⟩
abbrev cX4_dropFirst : ByteArray := prog_6_method_5_code
def yX4_dropFirst : MethodName := ⟨RX4, "dropFirst", "()V"⟩
abbrev cX4_told : ByteArray := prog_6_method_6_code
def yX4_told : MethodName := ⟨RX4, "told", "(II)I"⟩
def RX5 : String := "LocoFrames"
def TX5 : u_T := fun k => match k with
  | 0 => ("LocoFrames", "now", "LLocoFrames$Layout;", true)
  | 1 => ("LocoFrames", "foreseen", "LLocoFrames$Layout;", true)
  | 2 => ("LocoFrames", "history", "LLocoFrames$History;", true)
  | 3 => ("LocoFrames", "slots", "[LLocoFrames$Layout;", true)
  | 4 => ("LocoFrames", "saved", "[Z", true)
  | _ => ("LocoFrames", "pad", "LLocoFrames$Pad;", true)
def tyX5 : Nat → FieldType := fun k => match k with
  | 0 => .object "LocoFrames$Layout"
  | 1 => .object "LocoFrames$Layout"
  | 2 => .object "LocoFrames$History"
  | 3 => .array (.object "LocoFrames$Layout")
  | 4 => .array .boolean
  | _ => .object "LocoFrames$Pad"
abbrev wsX50 : List Cond := u_ws RX5 TX5 6
theorem nmX5 : ∀ a, a < 6 → ∀ b, b < 6 → a ≠ b → (TX5 a).2.1 ≠ (TX5 b).2.1 := by decide +kernel
theorem tyX5_ok : ∀ k, k < 6 → parseFieldDescriptor (TX5 k).2.2.1 = some (tyX5 k) := by decide +kernel
abbrev cX5_init : ByteArray := prog_1_method_1_code
def yX5_init : MethodName := ⟨RX5, "<init>", "()V"⟩
abbrev cX5_loco : ByteArray := prog_1_method_2_code
def yX5_loco : MethodName := ⟨RX5, "loco", "(IIII)I"⟩
abbrev cX5_lift : ByteArray := prog_1_method_3_code
def yX5_lift : MethodName := ⟨RX5, "lift", "(I)I"⟩
abbrev cX5_noise : ByteArray := prog_1_method_4_code
def yX5_noise : MethodName := ⟨RX5, "noise", "(I)I"⟩
abbrev cX5_order : ByteArray := prog_1_method_5_code
def yX5_order : MethodName := ⟨RX5, "order", "(III)I"⟩
abbrev cX5_frame : ByteArray := prog_1_method_6_code
def yX5_frame : MethodName := ⟨RX5, "frame", "(III)I"⟩
abbrev cX5_shorts : ByteArray := prog_1_method_7_code
def yX5_shorts : MethodName := ⟨RX5, "shorts", "(II)I"⟩
abbrev cX5_pass : ByteArray := prog_1_method_8_code
def yX5_pass : MethodName := ⟨RX5, "pass", "(I)I"⟩
abbrev cX5_of : ByteArray := prog_1_method_9_code
def yX5_of : MethodName := ⟨RX5, "of", "(II)I"⟩
abbrev cX5_address : ByteArray := prog_1_method_10_code
def yX5_address : MethodName := ⟨RX5, "address", "(I)I"⟩
abbrev cX5_waiting : ByteArray := prog_1_method_11_code
def yX5_waiting : MethodName := ⟨RX5, "waiting", "(II)I"⟩
abbrev cX5_block : ByteArray := prog_1_method_12_code
def yX5_block : MethodName := ⟨RX5, "block", "(II)I"⟩
abbrev cX5_count : ByteArray := prog_1_method_13_code
def yX5_count : MethodName := ⟨RX5, "count", "(I)I"⟩
abbrev cX5_reaches : ByteArray := prog_1_method_14_code
def yX5_reaches : MethodName := ⟨RX5, "reaches", "(II)I"⟩
abbrev cX5_settles : ByteArray := prog_1_method_15_code
def yX5_settles : MethodName := ⟨RX5, "settles", "(I)I"⟩
abbrev cX5_meets : ByteArray := prog_1_method_16_code
def yX5_meets : MethodName := ⟨RX5, "meets", "(II)I"⟩
abbrev cX5_stepFor : ByteArray := prog_1_method_17_code
def yX5_stepFor : MethodName := ⟨RX5, "stepFor", "(II)I"⟩
abbrev cX5_put : ByteArray := prog_1_method_18_code
def yX5_put : MethodName := ⟨RX5, "put", "(J)I"⟩
abbrev cX5_wipe : ByteArray := prog_1_method_19_code
def yX5_wipe : MethodName := ⟨RX5, "wipe", "()I"⟩
abbrev cX5_fault : ByteArray := prog_1_method_20_code
def yX5_fault : MethodName := ⟨RX5, "fault", "()I"⟩
abbrev cX5_carryOut : ByteArray := prog_1_method_21_code
def yX5_carryOut : MethodName := ⟨RX5, "carryOut", "()I"⟩
abbrev cX5_undo : ByteArray := prog_1_method_22_code
def yX5_undo : MethodName := ⟨RX5, "undo", "()I"⟩
abbrev cX5_save : ByteArray := prog_1_method_23_code
def yX5_save : MethodName := ⟨RX5, "save", "(I)I"⟩
abbrev cX5_restore : ByteArray := prog_1_method_24_code
def yX5_restore : MethodName := ⟨RX5, "restore", "(I)I"⟩
abbrev cX5_carriesOne : ByteArray := prog_1_method_25_code
def yX5_carriesOne : MethodName := ⟨RX5, "carriesOne", "()Z"⟩
abbrev cX5_within : ByteArray := prog_1_method_26_code
def yX5_within : MethodName := ⟨RX5, "within", "(III)Z"⟩
abbrev cX5_isBlock : ByteArray := prog_1_method_27_code
def yX5_isBlock : MethodName := ⟨RX5, "isBlock", "(I)Z"⟩
abbrev cX5_curveSpeed : ByteArray := prog_1_method_28_code
def yX5_curveSpeed : MethodName := ⟨RX5, "curveSpeed", "(II)I"⟩
def RX6 : String := "LocoFramesModel"
def TX6 : u_T := fun k => match k with
  | 0 => ("LocoFramesModel", "thrown", "I", false)
  | 1 => ("LocoFramesModel", "s", "[I", true)
  | 2 => ("LocoFramesModel", "aside", "[I", true)
  | 3 => ("LocoFramesModel", "undos", "[I", true)
  | 4 => ("LocoFramesModel", "undoMany", "I", false)
  | 5 => ("LocoFramesModel", "slots", "[I", true)
  | 6 => ("LocoFramesModel", "hasSlot", "[Z", true)
  | 7 => ("LocoFramesModel", "pad", "[I", true)
  | 8 => ("LocoFramesModel", "length", "I", false)
  | 9 => ("LocoFramesModel", "at", "I", false)
  | 10 => ("LocoFramesModel", "isWell", "Z", false)
  | 11 => ("LocoFramesModel", "told", "[I", true)
  | _ => ("LocoFramesModel", "toldMany", "I", false)
def tyX6 : Nat → FieldType := fun k => match k with
  | 0 => .int
  | 1 => .array .int
  | 2 => .array .int
  | 3 => .array .int
  | 4 => .int
  | 5 => .array .int
  | 6 => .array .boolean
  | 7 => .array .int
  | 8 => .int
  | 9 => .int
  | 10 => .boolean
  | 11 => .array .int
  | _ => .int
abbrev wsX60 : List Cond := u_ws RX6 TX6 13
theorem nmX6 : ∀ a, a < 13 → ∀ b, b < 13 → a ≠ b → (TX6 a).2.1 ≠ (TX6 b).2.1 := by decide +kernel
theorem tyX6_ok : ∀ k, k < 13 → parseFieldDescriptor (TX6 k).2.2.1 = some (tyX6 k) := by decide +kernel
abbrev cX6_init : ByteArray := prog_8_method_1_code
def yX6_init : MethodName := ⟨RX6, "<init>", "()V"⟩
abbrev cX6_in : ByteArray := prog_8_method_3_code
def yX6_in : MethodName := ⟨RX6, "in", "(III)Z"⟩
abbrev cX6_get : ByteArray := prog_8_method_4_code
def yX6_get : MethodName := ⟨RX6, "get", "(II)I"⟩
abbrev cX6_lay : ByteArray := prog_8_method_5_code
def yX6_lay : MethodName := ⟨RX6, "lay", "(III)V"⟩
abbrev cX6_locoOf : ByteArray := prog_8_method_6_code
def yX6_locoOf : MethodName := ⟨RX6, "locoOf", "(I)I"⟩
abbrev cX6_records : ByteArray := prog_8_method_7_code
def yX6_records : MethodName := ⟨RX6, "records", "()V"⟩
abbrev cX6_putAside : ByteArray := prog_8_method_8_code
def yX6_putAside : MethodName := ⟨RX6, "putAside", "()V"⟩
abbrev cX6_takeBack : ByteArray := prog_8_method_9_code
def yX6_takeBack : MethodName := ⟨RX6, "takeBack", "()V"⟩
abbrev cX6_blockOf : ByteArray := prog_8_method_10_code
def yX6_blockOf : MethodName := ⟨RX6, "blockOf", "(I)I"⟩
abbrev cX6_isShort : ByteArray := prog_8_method_11_code
def yX6_isShort : MethodName := ⟨RX6, "isShort", "(I)Z"⟩
abbrev cX6_byCurve : ByteArray := prog_8_method_12_code
def yX6_byCurve : MethodName := ⟨RX6, "byCurve", "(II)I"⟩
abbrev cX6_due : ByteArray := prog_8_method_13_code
def yX6_due : MethodName := ⟨RX6, "due", "(I)I"⟩
abbrev cX6_hears : ByteArray := prog_8_method_14_code
def yX6_hears : MethodName := ⟨RX6, "hears", "(II)V"⟩
abbrev cX6_comes : ByteArray := prog_8_method_15_code
def yX6_comes : MethodName := ⟨RX6, "comes", "(III)I"⟩
abbrev cX6_sends : ByteArray := prog_8_method_16_code
def yX6_sends : MethodName := ⟨RX6, "sends", "()I"⟩
abbrev cX6_speeds : ByteArray := prog_8_method_17_code
def yX6_speeds : MethodName := ⟨RX6, "speeds", "(I)V"⟩
abbrev cX6_goes : ByteArray := prog_8_method_18_code
def yX6_goes : MethodName := ⟨RX6, "goes", "(I)V"⟩
abbrev cX6_tick : ByteArray := prog_8_method_19_code
def yX6_tick : MethodName := ⟨RX6, "tick", "()I"⟩
abbrev cX6_ticks : ByteArray := prog_8_method_20_code
def yX6_ticks : MethodName := ⟨RX6, "ticks", "(I)I"⟩
abbrev cX6_loco : ByteArray := prog_8_method_21_code
def yX6_loco : MethodName := ⟨RX6, "loco", "(IIII)I"⟩
abbrev cX6_lift : ByteArray := prog_8_method_22_code
def yX6_lift : MethodName := ⟨RX6, "lift", "(I)I"⟩
abbrev cX6_noise : ByteArray := prog_8_method_23_code
def yX6_noise : MethodName := ⟨RX6, "noise", "(I)I"⟩
abbrev cX6_refusesOrder : ByteArray := prog_8_method_24_code
def yX6_refusesOrder : MethodName := ⟨RX6, "refusesOrder", "(III)I"⟩
abbrev cX6_laysOrder : ByteArray := prog_8_method_25_code
def yX6_laysOrder : MethodName := ⟨RX6, "laysOrder", "(III)I"⟩
abbrev cX6_order : ByteArray := prog_8_method_26_code
def yX6_order : MethodName := ⟨RX6, "order", "(III)I"⟩
abbrev cX6_refusesFrame : ByteArray := prog_8_method_27_code
def yX6_refusesFrame : MethodName := ⟨RX6, "refusesFrame", "(III)I"⟩
abbrev cX6_frame : ByteArray := prog_8_method_28_code
def yX6_frame : MethodName := ⟨RX6, "frame", "(III)I"⟩
abbrev cX6_refusesShorts : ByteArray := prog_8_method_29_code
def yX6_refusesShorts : MethodName := ⟨RX6, "refusesShorts", "(II)I"⟩
abbrev cX6_shorts : ByteArray := prog_8_method_30_code
def yX6_shorts : MethodName := ⟨RX6, "shorts", "(II)I"⟩
abbrev cX6_refusesPass : ByteArray := prog_8_method_31_code
def yX6_refusesPass : MethodName := ⟨RX6, "refusesPass", "(I)I"⟩
abbrev cX6_pass : ByteArray := prog_8_method_32_code
def yX6_pass : MethodName := ⟨RX6, "pass", "(I)I"⟩
abbrev cX6_of : ByteArray := prog_8_method_33_code
def yX6_of : MethodName := ⟨RX6, "of", "(II)I"⟩
abbrev cX6_address : ByteArray := prog_8_method_34_code
def yX6_address : MethodName := ⟨RX6, "address", "(I)I"⟩
abbrev cX6_waiting : ByteArray := prog_8_method_35_code
def yX6_waiting : MethodName := ⟨RX6, "waiting", "(II)I"⟩
abbrev cX6_locosIn : ByteArray := prog_8_method_36_code
def yX6_locosIn : MethodName := ⟨RX6, "locosIn", "(I)I"⟩
abbrev cX6_block : ByteArray := prog_8_method_37_code
def yX6_block : MethodName := ⟨RX6, "block", "(II)I"⟩
abbrev cX6_overBlocks : ByteArray := prog_8_method_38_code
def yX6_overBlocks : MethodName := ⟨RX6, "overBlocks", "(I)I"⟩
abbrev cX6_allSpeeds : ByteArray := prog_8_method_39_code
def yX6_allSpeeds : MethodName := ⟨RX6, "allSpeeds", "()I"⟩
abbrev cX6_count : ByteArray := prog_8_method_40_code
def yX6_count : MethodName := ⟨RX6, "count", "(I)I"⟩
abbrev cX6_reaches : ByteArray := prog_8_method_41_code
def yX6_reaches : MethodName := ⟨RX6, "reaches", "(II)I"⟩
abbrev cX6_settles : ByteArray := prog_8_method_42_code
def yX6_settles : MethodName := ⟨RX6, "settles", "(I)I"⟩
abbrev cX6_meets : ByteArray := prog_8_method_43_code
def yX6_meets : MethodName := ⟨RX6, "meets", "(II)I"⟩
abbrev cX6_stepFor : ByteArray := prog_8_method_44_code
def yX6_stepFor : MethodName := ⟨RX6, "stepFor", "(II)I"⟩
abbrev cX6_put : ByteArray := prog_8_method_45_code
def yX6_put : MethodName := ⟨RX6, "put", "(J)I"⟩
abbrev cX6_wipe : ByteArray := prog_8_method_46_code
def yX6_wipe : MethodName := ⟨RX6, "wipe", "()I"⟩
abbrev cX6_sign : ByteArray := prog_8_method_47_code
def yX6_sign : MethodName := ⟨RX6, "sign", "()I"⟩
abbrev cX6_wants : ByteArray := prog_8_method_48_code
def yX6_wants : MethodName := ⟨RX6, "wants", "(I)V"⟩
abbrev cX6_digit : ByteArray := prog_8_method_49_code
def yX6_digit : MethodName := ⟨RX6, "digit", "(I)I"⟩
abbrev cX6_number : ByteArray := prog_8_method_50_code
def yX6_number : MethodName := ⟨RX6, "number", "()I"⟩
abbrev cX6_readsOrder : ByteArray := prog_8_method_51_code
def yX6_readsOrder : MethodName := ⟨RX6, "readsOrder", "()V"⟩
abbrev cX6_reads : ByteArray := prog_8_method_52_code
def yX6_reads : MethodName := ⟨RX6, "reads", "()I"⟩
abbrev cX6_fault : ByteArray := prog_8_method_53_code
def yX6_fault : MethodName := ⟨RX6, "fault", "()I"⟩
abbrev cX6_refuses : ByteArray := prog_8_method_54_code
def yX6_refuses : MethodName := ⟨RX6, "refuses", "(I)I"⟩
abbrev cX6_does : ByteArray := prog_8_method_55_code
def yX6_does : MethodName := ⟨RX6, "does", "(I)V"⟩
abbrev cX6_carryOut : ByteArray := prog_8_method_56_code
def yX6_carryOut : MethodName := ⟨RX6, "carryOut", "()I"⟩
abbrev cX6_undo : ByteArray := prog_8_method_57_code
def yX6_undo : MethodName := ⟨RX6, "undo", "()I"⟩
abbrev cX6_save : ByteArray := prog_8_method_58_code
def yX6_save : MethodName := ⟨RX6, "save", "(I)I"⟩
abbrev cX6_restore : ByteArray := prog_8_method_59_code
def yX6_restore : MethodName := ⟨RX6, "restore", "(I)I"⟩
def RJ9 : String := "java/lang/Math"
def TJ9 : u_T := fun k => match k with
  | _ => ("", "", "", false)
def tyJ9 : Nat → FieldType := fun k => match k with
  | _ => .int
abbrev wsJ90 : List Cond := u_ws RJ9 TJ9 0
theorem nmJ9 : ∀ a, a < 0 → ∀ b, b < 0 → a ≠ b → (TJ9 a).2.1 ≠ (TJ9 b).2.1 := by decide +kernel
theorem tyJ9_ok : ∀ k, k < 0 → parseFieldDescriptor (TJ9 k).2.2.1 = some (tyJ9 k) := by decide +kernel
abbrev cJ9_floorDiv_7cf53 : ByteArray := prog_9_method_47_code
def yJ9_floorDiv_7cf53 : MethodName := ⟨RJ9, "floorDiv", "(II)I"⟩
abbrev cJ9_floorMod_7cf53 : ByteArray := prog_9_method_50_code
def yJ9_floorMod_7cf53 : MethodName := ⟨RJ9, "floorMod", "(II)I"⟩
abbrev cJ9_abs_0f7a4 : ByteArray := prog_9_method_59_code
def yJ9_abs_0f7a4 : MethodName := ⟨RJ9, "abs", "(I)I"⟩
abbrev cJ9_max_7cf53 : ByteArray := prog_9_method_65_code
def yJ9_max_7cf53 : MethodName := ⟨RJ9, "max", "(II)I"⟩
abbrev cJ9_min_7cf53 : ByteArray := prog_9_method_69_code
def yJ9_min_7cf53 : MethodName := ⟨RJ9, "min", "(II)I"⟩
def RJ10 : String := "java/lang/System"
def TJ10 : u_T := fun k => match k with
  | _ => ("", "", "", false)
def tyJ10 : Nat → FieldType := fun k => match k with
  | _ => .int
abbrev wsJ100 : List Cond := u_ws RJ10 TJ10 0
theorem nmJ10 : ∀ a, a < 0 → ∀ b, b < 0 → a ≠ b → (TJ10 a).2.1 ≠ (TJ10 b).2.1 := by decide +kernel
theorem tyJ10_ok : ∀ k, k < 0 → parseFieldDescriptor (TJ10 k).2.2.1 = some (tyJ10 k) := by decide +kernel
def RL : String := "LocoFramesLaw"
abbrev cL_law : ByteArray := code
def yL_law : MethodName := ⟨RL, "law", "([I)Z"⟩
def wsL_law_r1 : List Cond := [Cond.classLink RL 7 RX5, Cond.instantiable RX5 6, Cond.initialized RX5, Cond.classLink RL 10 RX6, Cond.instantiable RX6 13, Cond.initialized RX6, Cond.constantLong RL 81 (4294967295), Cond.methodLink RL 9 yX5_init, Cond.instanceMethod yX5_init, Cond.code yX5_init cX5_init 2 none, Cond.methodLink RX5 3 objectInit, Cond.instanceMethod objectInit, Cond.code objectInit ⟨#[0xb1]⟩ 1 none, Cond.classLink RX5 9 RX1, Cond.instantiable RX1 10, Cond.initialized RX1, Cond.fieldLink RX5 12 "LocoFrames" "now" "LLocoFrames$Layout;", Cond.fieldLink RX5 16 "LocoFrames" "foreseen" "LLocoFrames$Layout;", Cond.classLink RX5 19 RX0, Cond.instantiable RX0 3, Cond.initialized RX0, Cond.fieldLink RX5 22 "LocoFrames" "history" "LLocoFrames$History;", Cond.fieldLink RX5 26 "LocoFrames" "slots" "[LLocoFrames$Layout;", Cond.arrayClass .boolean]
def wsL_law_r2 : List Cond := [Cond.fieldLink RX5 30 "LocoFrames" "saved" "[Z", Cond.classLink RX5 34 RX3, Cond.instantiable RX3 6, Cond.initialized RX3, Cond.fieldLink RX5 37 "LocoFrames" "pad" "LLocoFrames$Pad;", Cond.methodLink RX5 11 yX1_init, Cond.instanceMethod yX1_init, Cond.code yX1_init cX1_init 2 none, Cond.methodLink RX1 3 objectInit, Cond.classLink RX1 9 RX2, Cond.fieldLink RX1 11 "LocoFrames$Layout" "locos" "[LLocoFrames$Loco;", Cond.classLink RX1 17 RX4, Cond.instantiable RX4 4, Cond.initialized RX4, Cond.fieldLink RX1 20 "LocoFrames$Layout" "station" "LLocoFrames$Station;", Cond.arrayClass .int, Cond.fieldLink RX1 24 "LocoFrames$Layout" "shortTicks" "[I", Cond.instantiable RX2 11, Cond.initialized RX2, Cond.instanceMethod yX4_init, Cond.code yX4_init cX4_init 1 none, Cond.methodLink RX4 3 objectInit, Cond.fieldLink RX4 9 "LocoFrames$Station" "addresses" "[I", Cond.fieldLink RX4 15 "LocoFrames$Station" "data" "[I"]
def wsL_law_r3 : List Cond := [Cond.fieldLink RX4 18 "LocoFrames$Station" "urgencies" "[I", Cond.instanceMethod yX2_init, Cond.code yX2_init cX2_init 1 none, Cond.methodLink RX2 3 objectInit, Cond.methodLink RX5 21 yX0_init, Cond.instanceMethod yX0_init, Cond.code yX0_init cX0_init 2 none, Cond.methodLink RX0 3 objectInit, Cond.classLink RX0 9 RX1, Cond.fieldLink RX0 11 "LocoFrames$History" "states" "[LLocoFrames$Layout;", Cond.methodLink RX0 17 yX1_init, Cond.instanceMethod yX3_init, Cond.code yX3_init cX3_init 1 none, Cond.methodLink RX3 3 objectInit, Cond.arrayClass .char, Cond.fieldLink RX3 9 "LocoFrames$Pad" "text" "[C", Cond.fieldLink RX3 15 "LocoFrames$Pad" "numbers" "[I", Cond.methodLink RL 12 yX6_init, Cond.instanceMethod yX6_init, Cond.code yX6_init cX6_init 1 none, Cond.methodLink RX6 1 objectInit, Cond.fieldLink RX6 7 "LocoFramesModel" "s" "[I", Cond.fieldLink RX6 13 "LocoFramesModel" "aside" "[I", Cond.fieldLink RX6 16 "LocoFramesModel" "undos" "[I"]
def wsL_law_r4 : List Cond := [Cond.fieldLink RX6 19 "LocoFramesModel" "slots" "[I", Cond.fieldLink RX6 22 "LocoFramesModel" "hasSlot" "[Z", Cond.fieldLink RX6 26 "LocoFramesModel" "pad" "[I", Cond.fieldLink RX6 29 "LocoFramesModel" "told" "[I", Cond.fieldLink RX6 32 "LocoFramesModel" "thrown" "I", Cond.methodLink RL 13 yX5_loco, Cond.instanceMethod yX5_loco, Cond.selects RX5 yX5_loco yX5_loco, Cond.code yX5_loco cX5_loco 5 (some .int), Cond.methodLink RX5 41 yX0_draft, Cond.instanceMethod yX0_draft, Cond.selects RX0 yX0_draft yX0_draft, Cond.code yX0_draft cX0_draft 2 none, Cond.fieldLink RX0 18 "LocoFrames$History" "first" "I", Cond.fieldLink RX0 22 "LocoFrames$History" "held" "I", Cond.methodLink RX0 25 yX1_copyFrom, Cond.instanceMethod yX1_copyFrom, Cond.selects RX1 yX1_copyFrom yX1_copyFrom, Cond.code yX1_copyFrom cX1_copyFrom 3 none, Cond.fieldLink RX1 29 "LocoFrames$Layout" "locoCount" "I", Cond.methodLink RX1 40 arraycopyName, Cond.native arraycopyName, Cond.static arraycopyName, Cond.initialized "java/lang/System"]
def wsL_law_r5 : List Cond := [Cond.fieldLink RX1 46 "LocoFrames$Layout" "ticks" "I", Cond.fieldLink RX1 49 "LocoFrames$Layout" "noiseTicks" "I", Cond.fieldLink RX1 52 "LocoFrames$Layout" "spoiledAt" "I", Cond.fieldLink RX1 55 "LocoFrames$Layout" "frames" "I", Cond.fieldLink RX1 58 "LocoFrames$Layout" "broken" "I", Cond.fieldLink RX1 61 "LocoFrames$Layout" "spoiled" "I", Cond.methodLink RX1 33 yX2_copyFrom, Cond.instanceMethod yX2_copyFrom, Cond.selects RX2 yX2_copyFrom yX2_copyFrom, Cond.code yX2_copyFrom cX2_copyFrom 2 none, Cond.fieldLink RX2 9 "LocoFrames$Loco" "address" "I", Cond.fieldLink RX2 15 "LocoFrames$Loco" "mass" "I", Cond.fieldLink RX2 18 "LocoFrames$Loco" "curve" "I", Cond.fieldLink RX2 21 "LocoFrames$Loco" "place" "I", Cond.fieldLink RX2 24 "LocoFrames$Loco" "tenths" "I", Cond.fieldLink RX2 27 "LocoFrames$Loco" "speed" "I", Cond.fieldLink RX2 30 "LocoFrames$Loco" "rounds" "I", Cond.fieldLink RX2 33 "LocoFrames$Loco" "step" "I", Cond.fieldLink RX2 36 "LocoFrames$Loco" "way" "I", Cond.fieldLink RX2 39 "LocoFrames$Loco" "lights" "I", Cond.fieldLink RX2 42 "LocoFrames$Loco" "heard" "I", Cond.methodLink RX1 37 yX4_copyFrom, Cond.instanceMethod yX4_copyFrom, Cond.selects RX4 yX4_copyFrom yX4_copyFrom]
def wsL_law_r6 : List Cond := [Cond.code yX4_copyFrom cX4_copyFrom 2 none, Cond.methodLink RX4 21 arraycopyName, Cond.fieldLink RX4 27 "LocoFrames$Station" "held" "I", Cond.methodLink RX5 45 yX1_addLoco, Cond.instanceMethod yX1_addLoco, Cond.selects RX1 yX1_addLoco yX1_addLoco, Cond.code yX1_addLoco cX1_addLoco 7 (some .int), Cond.fieldLink RX1 76 "LocoFrames$Loco" "address" "I", Cond.static yX5_within, Cond.code yX5_within cX5_within 3 (some .boolean), Cond.methodLink RX1 68 yX1_rankOf, Cond.instanceMethod yX1_rankOf, Cond.selects RX1 yX1_rankOf yX1_rankOf, Cond.code yX1_rankOf cX1_rankOf 3 (some .int), Cond.methodLink RX1 79 yX2_begin, Cond.instanceMethod yX2_begin, Cond.selects RX2 yX2_begin yX2_begin, Cond.code yX2_begin cX2_begin 5 none, Cond.methodLink RX5 49 yX0_kept, Cond.instanceMethod yX0_kept, Cond.selects RX0 yX0_kept yX0_kept, Cond.code yX0_kept cX0_kept 2 (some .int), Cond.methodLink RL 17 yX6_loco, Cond.instanceMethod yX6_loco]
def wsL_law_r7 : List Cond := [Cond.selects RX6 yX6_loco yX6_loco, Cond.code yX6_loco cX6_loco 7 (some .int), Cond.methodLink RX6 54 yX6_in, Cond.static yX6_in, Cond.code yX6_in cX6_in 3 (some .boolean), Cond.methodLink RX6 87 yX6_locoOf, Cond.instanceMethod yX6_locoOf, Cond.selects RX6 yX6_locoOf yX6_locoOf, Cond.code yX6_locoOf cX6_locoOf 3 (some .int), Cond.methodLink RX6 36 yX6_get, Cond.instanceMethod yX6_get, Cond.selects RX6 yX6_get yX6_get, Cond.code yX6_get cX6_get 3 (some .int), Cond.methodLink RX6 90 yX6_records, Cond.instanceMethod yX6_records, Cond.selects RX6 yX6_records yX6_records, Cond.code yX6_records cX6_records 2 none, Cond.fieldLink RX6 40 "LocoFramesModel" "undoMany" "I", Cond.methodLink RX6 50 yX6_lay, Cond.instanceMethod yX6_lay, Cond.selects RX6 yX6_lay yX6_lay, Cond.code yX6_lay cX6_lay 4 none, Cond.methodLink RL 18 yX5_lift, Cond.instanceMethod yX5_lift]
def wsL_law_r8 : List Cond := [Cond.selects RX5 yX5_lift yX5_lift, Cond.code yX5_lift cX5_lift 2 (some .int), Cond.methodLink RX5 53 yX1_removeLoco, Cond.instanceMethod yX1_removeLoco, Cond.selects RX1 yX1_removeLoco yX1_removeLoco, Cond.code yX1_removeLoco cX1_removeLoco 5 (some .int), Cond.methodLink RL 22 yX6_lift, Cond.instanceMethod yX6_lift, Cond.selects RX6 yX6_lift yX6_lift, Cond.code yX6_lift cX6_lift 4 (some .int), Cond.methodLink RL 23 yX5_noise, Cond.instanceMethod yX5_noise, Cond.selects RX5 yX5_noise yX5_noise, Cond.code yX5_noise cX5_noise 2 (some .int), Cond.methodLink RX5 56 yX1_changeNoise, Cond.instanceMethod yX1_changeNoise, Cond.selects RX1 yX1_changeNoise yX1_changeNoise, Cond.code yX1_changeNoise cX1_changeNoise 3 (some .int), Cond.methodLink RL 26 yX6_noise, Cond.instanceMethod yX6_noise, Cond.selects RX6 yX6_noise yX6_noise, Cond.code yX6_noise cX6_noise 3 (some .int), Cond.methodLink RL 27 yX5_order, Cond.instanceMethod yX5_order]
def wsL_law_r9 : List Cond := [Cond.selects RX5 yX5_order yX5_order, Cond.code yX5_order cX5_order 4 (some .int), Cond.fieldLink RX5 59 "LocoFrames$Layout" "station" "LLocoFrames$Station;", Cond.methodLink RX5 63 yX4_take, Cond.instanceMethod yX4_take, Cond.selects RX4 yX4_take yX4_take, Cond.code yX4_take cX4_take 5 (some .int), Cond.methodLink RX4 35 yX4_setRow, Cond.instanceMethod yX4_setRow, Cond.selects RX4 yX4_setRow yX4_setRow, Cond.code yX4_setRow cX4_setRow 5 none, Cond.methodLink RL 31 yX6_order, Cond.instanceMethod yX6_order, Cond.selects RX6 yX6_order yX6_order, Cond.code yX6_order cX6_order 5 (some .int), Cond.methodLink RX6 93 yX6_refusesOrder, Cond.instanceMethod yX6_refusesOrder, Cond.selects RX6 yX6_refusesOrder yX6_refusesOrder, Cond.code yX6_refusesOrder cX6_refusesOrder 4 (some .int), Cond.methodLink RX6 96 yX6_laysOrder, Cond.instanceMethod yX6_laysOrder, Cond.selects RX6 yX6_laysOrder yX6_laysOrder, Cond.code yX6_laysOrder cX6_laysOrder 6 (some .int), Cond.methodLink RL 32 yX5_frame]
def wsL_law_r10 : List Cond := [Cond.instanceMethod yX5_frame, Cond.selects RX5 yX5_frame yX5_frame, Cond.code yX5_frame cX5_frame 4 (some .int), Cond.methodLink RX5 69 yX1_takeFrame, Cond.instanceMethod yX1_takeFrame, Cond.selects RX1 yX1_takeFrame yX1_takeFrame, Cond.code yX1_takeFrame cX1_takeFrame 7 (some .int), Cond.methodLink RX1 87 yX2_blockNumber, Cond.instanceMethod yX2_blockNumber, Cond.selects RX2 yX2_blockNumber yX2_blockNumber, Cond.code yX2_blockNumber cX2_blockNumber 1 (some .int), Cond.methodLink RX1 91 yX1_isShorted, Cond.instanceMethod yX1_isShorted, Cond.selects RX1 yX1_isShorted yX1_isShorted, Cond.code yX1_isShorted cX1_isShorted 2 (some .boolean), Cond.methodLink RX1 94 yX2_hear, Cond.instanceMethod yX2_hear, Cond.selects RX2 yX2_hear yX2_hear, Cond.code yX2_hear cX2_hear 3 none, Cond.methodLink RL 35 yX6_frame, Cond.instanceMethod yX6_frame, Cond.selects RX6 yX6_frame yX6_frame, Cond.code yX6_frame cX6_frame 5 (some .int), Cond.methodLink RX6 99 yX6_refusesFrame]
def wsL_law_r11 : List Cond := [Cond.static yX6_refusesFrame, Cond.code yX6_refusesFrame cX6_refusesFrame 3 (some .int), Cond.methodLink RX6 66 yX6_comes, Cond.instanceMethod yX6_comes, Cond.selects RX6 yX6_comes yX6_comes, Cond.code yX6_comes cX6_comes 6 (some .int), Cond.methodLink RX6 58 yX6_isShort, Cond.instanceMethod yX6_isShort, Cond.selects RX6 yX6_isShort yX6_isShort, Cond.code yX6_isShort cX6_isShort 2 (some .boolean), Cond.methodLink RX6 43 yX6_blockOf, Cond.instanceMethod yX6_blockOf, Cond.selects RX6 yX6_blockOf yX6_blockOf, Cond.code yX6_blockOf cX6_blockOf 2 (some .int), Cond.methodLink RX6 62 yX6_hears, Cond.instanceMethod yX6_hears, Cond.selects RX6 yX6_hears yX6_hears, Cond.code yX6_hears cX6_hears 3 none, Cond.methodLink RL 36 yX5_shorts, Cond.instanceMethod yX5_shorts, Cond.selects RX5 yX5_shorts yX5_shorts, Cond.code yX5_shorts cX5_shorts 3 (some .int), Cond.methodLink RX5 72 yX1_changeShort, Cond.instanceMethod yX1_changeShort]
def wsL_law_r12 : List Cond := [Cond.selects RX1 yX1_changeShort yX1_changeShort, Cond.code yX1_changeShort cX1_changeShort 4 (some .int), Cond.static yX5_isBlock, Cond.code yX5_isBlock cX5_isBlock 1 (some .boolean), Cond.methodLink RX5 155 yX5_within, Cond.methodLink RL 40 yX6_shorts, Cond.instanceMethod yX6_shorts, Cond.selects RX6 yX6_shorts yX6_shorts, Cond.code yX6_shorts cX6_shorts 5 (some .int), Cond.methodLink RX6 102 yX6_refusesShorts, Cond.static yX6_refusesShorts, Cond.code yX6_refusesShorts cX6_refusesShorts 2 (some .int), Cond.methodLink RL 41 yX5_pass, Cond.instanceMethod yX5_pass, Cond.selects RX5 yX5_pass yX5_pass, Cond.code yX5_pass cX5_pass 2 (some .int), Cond.methodLink RX5 76 yX1_takeTicks, Cond.instanceMethod yX1_takeTicks, Cond.selects RX1 yX1_takeTicks yX1_takeTicks, Cond.code yX1_takeTicks cX1_takeTicks 4 (some .int), Cond.constant RX1 98 (99999), Cond.methodLink RX1 99 yX1_tick, Cond.instanceMethod yX1_tick, Cond.selects RX1 yX1_tick yX1_tick]
def wsL_law_r13 : List Cond := [Cond.code yX1_tick cX1_tick 4 (some .int), Cond.fieldLink RX1 105 "LocoFrames$Loco" "speed" "I", Cond.methodLink RX1 114 Lib.Math.max.name, Cond.static Lib.Math.max.name, Cond.initialized "java/lang/Math", Cond.code Lib.Math.max.name Lib.Math.max.code 2 (some .int), Cond.methodLink RX1 102 yX1_sendFirst, Cond.instanceMethod yX1_sendFirst, Cond.selects RX1 yX1_sendFirst yX1_sendFirst, Cond.code yX1_sendFirst cX1_sendFirst 4 (some .int), Cond.fieldLink RX1 120 "LocoFrames$Station" "held" "I", Cond.fieldLink RX1 123 "LocoFrames$Station" "addresses" "[I", Cond.fieldLink RX1 126 "LocoFrames$Station" "data" "[I", Cond.methodLink RX1 129 yX4_dropFirst, Cond.instanceMethod yX4_dropFirst, Cond.selects RX4 yX4_dropFirst yX4_dropFirst, Cond.code yX4_dropFirst cX4_dropFirst 2 none, Cond.methodLink RX4 39 Lib.Math.max.name, Cond.methodLink RX1 132 yX1_takeFrame, Cond.methodLink RX1 108 yX2_changeSpeed, Cond.instanceMethod yX2_changeSpeed, Cond.selects RX2 yX2_changeSpeed yX2_changeSpeed, Cond.code yX2_changeSpeed cX2_changeSpeed 2 none, Cond.methodLink RX2 62 Lib.Math.min.name]
def wsL_law_r14 : List Cond := [Cond.static Lib.Math.min.name, Cond.code Lib.Math.min.name Lib.Math.min.code 2 (some .int), Cond.methodLink RX2 65 Lib.Math.max.name, Cond.methodLink RX2 49 yX2_mostGain, Cond.instanceMethod yX2_mostGain, Cond.selects RX2 yX2_mostGain yX2_mostGain, Cond.code yX2_mostGain cX2_mostGain 1 (some .int), Cond.methodLink RX2 53 yX2_goal, Cond.instanceMethod yX2_goal, Cond.selects RX2 yX2_goal yX2_goal, Cond.code yX2_goal cX2_goal 2 (some .int), Cond.static yX5_curveSpeed, Cond.code yX5_curveSpeed cX5_curveSpeed 3 (some .int), Cond.methodLink RX1 111 yX2_roll, Cond.instanceMethod yX2_roll, Cond.selects RX2 yX2_roll yX2_roll, Cond.code yX2_roll cX2_roll 3 none, Cond.methodLink RX2 68 yJ9_floorDiv_7cf53, Cond.static yJ9_floorDiv_7cf53, Cond.initialized RJ9, Cond.code yJ9_floorDiv_7cf53 cJ9_floorDiv_7cf53 3 (some .int), Cond.methodLink RX2 71 yJ9_floorMod_7cf53, Cond.static yJ9_floorMod_7cf53, Cond.code yJ9_floorMod_7cf53 cJ9_floorMod_7cf53 3 (some .int)]
def wsL_law_r15 : List Cond := [Cond.methodLink RL 44 yX6_pass, Cond.instanceMethod yX6_pass, Cond.selects RX6 yX6_pass yX6_pass, Cond.code yX6_pass cX6_pass 3 (some .int), Cond.methodLink RX6 106 yX6_refusesPass, Cond.instanceMethod yX6_refusesPass, Cond.selects RX6 yX6_refusesPass yX6_refusesPass, Cond.code yX6_refusesPass cX6_refusesPass 2 (some .int), Cond.constant RX6 105 (99999), Cond.methodLink RX6 109 yX6_ticks, Cond.instanceMethod yX6_ticks, Cond.selects RX6 yX6_ticks yX6_ticks, Cond.code yX6_ticks cX6_ticks 4 (some .int), Cond.methodLink RX6 84 yX6_tick, Cond.instanceMethod yX6_tick, Cond.selects RX6 yX6_tick yX6_tick, Cond.code yX6_tick cX6_tick 3 (some .int), Cond.methodLink RX6 73 yX6_sends, Cond.instanceMethod yX6_sends, Cond.selects RX6 yX6_sends yX6_sends, Cond.code yX6_sends cX6_sends 5 (some .int), Cond.methodLink RX6 77 yX6_speeds, Cond.instanceMethod yX6_speeds, Cond.selects RX6 yX6_speeds yX6_speeds]
def wsL_law_r16 : List Cond := [Cond.code yX6_speeds cX6_speeds 6 none, Cond.methodLink RX6 70 yX6_due, Cond.instanceMethod yX6_due, Cond.selects RX6 yX6_due yX6_due, Cond.code yX6_due cX6_due 3 (some .int), Cond.methodLink RX6 47 yX6_byCurve, Cond.static yX6_byCurve, Cond.code yX6_byCurve cX6_byCurve 3 (some .int), Cond.methodLink RX6 81 yX6_goes, Cond.instanceMethod yX6_goes, Cond.selects RX6 yX6_goes yX6_goes, Cond.code yX6_goes cX6_goes 4 none, Cond.methodLink RL 45 yX5_of, Cond.instanceMethod yX5_of, Cond.selects RX5 yX5_of yX5_of, Cond.code yX5_of cX5_of 4 (some .int), Cond.methodLink RX5 79 yX1_locoWith, Cond.instanceMethod yX1_locoWith, Cond.selects RX1 yX1_locoWith yX1_locoWith, Cond.code yX1_locoWith cX1_locoWith 2 (some (.object "LocoFrames$Loco")), Cond.methodLink RX1 72 yX1_locoAt, Cond.instanceMethod yX1_locoAt, Cond.selects RX1 yX1_locoAt yX1_locoAt, Cond.code yX1_locoAt cX1_locoAt 2 (some (.object "LocoFrames$Loco"))]
def wsL_law_r17 : List Cond := [Cond.methodLink RX5 83 yX2_told, Cond.instanceMethod yX2_told, Cond.selects RX2 yX2_told yX2_told, Cond.code yX2_told cX2_told 2 (some .int), Cond.methodLink RX2 74 yX2_blockNumber, Cond.methodLink RL 48 yX6_of, Cond.instanceMethod yX6_of, Cond.selects RX6 yX6_of yX6_of, Cond.code yX6_of cX6_of 4 (some .int), Cond.methodLink RL 49 yX5_address, Cond.instanceMethod yX5_address, Cond.selects RX5 yX5_address yX5_address, Cond.code yX5_address cX5_address 3 (some .int), Cond.fieldLink RX5 91 "LocoFrames$Loco" "address" "I", Cond.methodLink RX5 88 yX1_locoAt, Cond.methodLink RL 52 yX6_address, Cond.instanceMethod yX6_address, Cond.selects RX6 yX6_address yX6_address, Cond.code yX6_address cX6_address 2 (some .int), Cond.methodLink RL 53 yX5_waiting, Cond.instanceMethod yX5_waiting, Cond.selects RX5 yX5_waiting yX5_waiting, Cond.code yX5_waiting cX5_waiting 3 (some .int), Cond.methodLink RX5 95 yX4_told]
def wsL_law_r18 : List Cond := [Cond.instanceMethod yX4_told, Cond.selects RX4 yX4_told yX4_told, Cond.code yX4_told cX4_told 3 (some .int), Cond.methodLink RL 56 yX6_waiting, Cond.instanceMethod yX6_waiting, Cond.selects RX6 yX6_waiting yX6_waiting, Cond.code yX6_waiting cX6_waiting 3 (some .int), Cond.methodLink RL 57 yX5_block, Cond.instanceMethod yX5_block, Cond.selects RX5 yX5_block yX5_block, Cond.code yX5_block cX5_block 3 (some .int), Cond.fieldLink RX5 101 "LocoFrames$Layout" "shortTicks" "[I", Cond.methodLink RX5 97 yX5_isBlock, Cond.methodLink RX5 105 yX1_locosIn, Cond.instanceMethod yX1_locosIn, Cond.selects RX1 yX1_locosIn yX1_locosIn, Cond.code yX1_locosIn cX1_locosIn 4 (some .int), Cond.methodLink RL 60 yX6_block, Cond.instanceMethod yX6_block, Cond.selects RX6 yX6_block yX6_block, Cond.code yX6_block cX6_block 3 (some .int), Cond.methodLink RX6 112 yX6_locosIn, Cond.instanceMethod yX6_locosIn, Cond.selects RX6 yX6_locosIn yX6_locosIn]
def wsL_law_r19 : List Cond := [Cond.code yX6_locosIn cX6_locosIn 4 (some .int), Cond.methodLink RL 61 yX5_count, Cond.instanceMethod yX5_count, Cond.selects RX5 yX5_count yX5_count, Cond.code yX5_count cX5_count 2 (some .int), Cond.fieldLink RX5 108 "LocoFrames$Layout" "ticks" "I", Cond.fieldLink RX5 111 "LocoFrames$Layout" "locoCount" "I", Cond.fieldLink RX5 114 "LocoFrames$Station" "held" "I", Cond.fieldLink RX5 117 "LocoFrames$Layout" "noiseTicks" "I", Cond.fieldLink RX5 120 "LocoFrames$Layout" "frames" "I", Cond.fieldLink RX5 123 "LocoFrames$Layout" "broken" "I", Cond.fieldLink RX5 126 "LocoFrames$Layout" "spoiled" "I", Cond.fieldLink RX5 139 "LocoFrames$Pad" "length" "I", Cond.fieldLink RX5 142 "LocoFrames$History" "held" "I", Cond.methodLink RX5 129 yX1_blocksWithShort, Cond.instanceMethod yX1_blocksWithShort, Cond.selects RX1 yX1_blocksWithShort yX1_blocksWithShort, Cond.code yX1_blocksWithShort cX1_blocksWithShort 3 (some .int), Cond.methodLink RX5 133 yX1_crowdedBlocks, Cond.instanceMethod yX1_crowdedBlocks, Cond.selects RX1 yX1_crowdedBlocks yX1_crowdedBlocks, Cond.code yX1_crowdedBlocks cX1_crowdedBlocks 3 (some .int), Cond.methodLink RX1 136 yX1_locosIn, Cond.methodLink RX5 136 yX1_speedSum]
def wsL_law_r20 : List Cond := [Cond.instanceMethod yX1_speedSum, Cond.selects RX1 yX1_speedSum yX1_speedSum, Cond.code yX1_speedSum cX1_speedSum 3 (some .int), Cond.methodLink RL 64 yX6_count, Cond.instanceMethod yX6_count, Cond.selects RX6 yX6_count yX6_count, Cond.code yX6_count cX6_count 2 (some .int), Cond.fieldLink RX6 121 "LocoFramesModel" "length" "I", Cond.methodLink RX6 115 yX6_overBlocks, Cond.instanceMethod yX6_overBlocks, Cond.selects RX6 yX6_overBlocks yX6_overBlocks, Cond.code yX6_overBlocks cX6_overBlocks 4 (some .int), Cond.methodLink RX6 118 yX6_allSpeeds, Cond.instanceMethod yX6_allSpeeds, Cond.selects RX6 yX6_allSpeeds yX6_allSpeeds, Cond.code yX6_allSpeeds cX6_allSpeeds 3 (some .int), Cond.methodLink RL 65 yX5_reaches, Cond.instanceMethod yX5_reaches, Cond.selects RX5 yX5_reaches yX5_reaches, Cond.code yX5_reaches cX5_reaches 5 (some .int), Cond.methodLink RX5 143 yX1_copyFrom, Cond.methodLink RX5 146 yX2_blockNumber, Cond.methodLink RX5 149 yX1_tick, Cond.methodLink RL 68 yX6_reaches]
def wsL_law_r21 : List Cond := [Cond.instanceMethod yX6_reaches, Cond.selects RX6 yX6_reaches yX6_reaches, Cond.code yX6_reaches cX6_reaches 5 (some .int), Cond.methodLink RX6 124 yX6_putAside, Cond.instanceMethod yX6_putAside, Cond.selects RX6 yX6_putAside yX6_putAside, Cond.code yX6_putAside cX6_putAside 2 none, Cond.methodLink RX6 127 yX6_takeBack, Cond.instanceMethod yX6_takeBack, Cond.selects RX6 yX6_takeBack yX6_takeBack, Cond.code yX6_takeBack cX6_takeBack 2 none, Cond.methodLink RL 69 yX5_settles, Cond.instanceMethod yX5_settles, Cond.selects RX5 yX5_settles yX5_settles, Cond.code yX5_settles cX5_settles 3 (some .int), Cond.methodLink RX5 152 yX2_ticksToGoal, Cond.instanceMethod yX2_ticksToGoal, Cond.selects RX2 yX2_ticksToGoal yX2_ticksToGoal, Cond.code yX2_ticksToGoal cX2_ticksToGoal 3 (some .int), Cond.methodLink RX2 56 Lib.Math.abs.name, Cond.static Lib.Math.abs.name, Cond.code Lib.Math.abs.name Lib.Math.abs.code 1 (some .int), Cond.methodLink RL 72 yX6_settles, Cond.instanceMethod yX6_settles]
def wsL_law_r22 : List Cond := [Cond.selects RX6 yX6_settles yX6_settles, Cond.code yX6_settles cX6_settles 5 (some .int), Cond.methodLink RL 73 yX5_meets, Cond.instanceMethod yX5_meets, Cond.selects RX5 yX5_meets yX5_meets, Cond.code yX5_meets cX5_meets 6 (some .int), Cond.methodLink RL 76 yX6_meets, Cond.instanceMethod yX6_meets, Cond.selects RX6 yX6_meets yX6_meets, Cond.code yX6_meets cX6_meets 6 (some .int), Cond.methodLink RL 77 yX5_stepFor, Cond.instanceMethod yX5_stepFor, Cond.selects RX5 yX5_stepFor yX5_stepFor, Cond.code yX5_stepFor cX5_stepFor 5 (some .int), Cond.fieldLink RX5 159 "LocoFrames$Loco" "curve" "I", Cond.methodLink RX5 162 yX5_curveSpeed, Cond.methodLink RL 80 yX6_stepFor, Cond.instanceMethod yX6_stepFor, Cond.selects RX6 yX6_stepFor yX6_stepFor, Cond.code yX6_stepFor cX6_stepFor 5 (some .int), Cond.methodLink RL 83 yX5_put, Cond.instanceMethod yX5_put, Cond.selects RX5 yX5_put yX5_put, Cond.code yX5_put cX5_put 3 (some .int)]
def wsL_law_r23 : List Cond := [Cond.methodLink RX5 165 yX3_append, Cond.instanceMethod yX3_append, Cond.selects RX3 yX3_append yX3_append, Cond.code yX3_append cX3_append 5 (some .int), Cond.fieldLink RX3 23 "LocoFrames$Pad" "length" "I", Cond.methodLink RX3 19 yX3_countOf, Cond.static yX3_countOf, Cond.code yX3_countOf cX3_countOf 4 (some .int), Cond.methodLink RX3 27 yX3_codeAt, Cond.static yX3_codeAt, Cond.code yX3_codeAt cX3_codeAt 3 (some .int), Cond.methodLink RL 87 yX6_put, Cond.instanceMethod yX6_put, Cond.selects RX6 yX6_put yX6_put, Cond.code yX6_put cX6_put 8 (some .int), Cond.constantLong RX6 130 (255), Cond.methodLink RL 88 yX5_wipe, Cond.instanceMethod yX5_wipe, Cond.selects RX5 yX5_wipe yX5_wipe, Cond.code yX5_wipe cX5_wipe 1 (some .int), Cond.methodLink RX5 169 yX3_clear, Cond.instanceMethod yX3_clear, Cond.selects RX3 yX3_clear yX3_clear, Cond.code yX3_clear cX3_clear 2 (some .int)]
def wsL_law_r24 : List Cond := [Cond.methodLink RL 92 yX6_wipe, Cond.instanceMethod yX6_wipe, Cond.selects RX6 yX6_wipe yX6_wipe, Cond.code yX6_wipe cX6_wipe 2 (some .int), Cond.methodLink RL 93 yX5_fault, Cond.instanceMethod yX5_fault, Cond.selects RX5 yX5_fault yX5_fault, Cond.code yX5_fault cX5_fault 1 (some .int), Cond.methodLink RX5 172 yX3_firstFault, Cond.instanceMethod yX3_firstFault, Cond.selects RX3 yX3_firstFault yX3_firstFault, Cond.code yX3_firstFault cX3_firstFault 2 (some .int), Cond.fieldLink RX3 35 "LocoFrames$Pad" "at" "I", Cond.methodLink RX3 38 yX3_rewind, Cond.instanceMethod yX3_rewind, Cond.selects RX3 yX3_rewind yX3_rewind, Cond.code yX3_rewind cX3_rewind 1 none, Cond.methodLink RX3 41 yX3_readsOrder, Cond.instanceMethod yX3_readsOrder, Cond.selects RX3 yX3_readsOrder yX3_readsOrder, Cond.code yX3_readsOrder cX3_readsOrder 1 (some .boolean), Cond.fieldLink RX3 53 "LocoFrames$Pad" "kind" "I", Cond.fieldLink RX3 56 "LocoFrames$Pad" "numbersRead" "I", Cond.methodLink RX3 49 yX3_here]
def wsL_law_r25 : List Cond := [Cond.instanceMethod yX3_here, Cond.selects RX3 yX3_here yX3_here, Cond.code yX3_here cX3_here 1 (some .int), Cond.methodLink RX3 59 yX3_readsNumber, Cond.instanceMethod yX3_readsNumber, Cond.selects RX3 yX3_readsNumber yX3_readsNumber, Cond.code yX3_readsNumber cX3_readsNumber 3 (some .boolean), Cond.methodLink RX3 65 yX3_hold, Cond.instanceMethod yX3_hold, Cond.selects RX3 yX3_hold yX3_hold, Cond.code yX3_hold cX3_hold 2 none, Cond.methodLink RX3 45 yX3_reads, Cond.instanceMethod yX3_reads, Cond.selects RX3 yX3_reads yX3_reads, Cond.code yX3_reads cX3_reads 2 (some .boolean), Cond.methodLink RX3 62 yX3_readsDigit, Cond.instanceMethod yX3_readsDigit, Cond.selects RX3 yX3_readsDigit yX3_readsDigit, Cond.code yX3_readsDigit cX3_readsDigit 2 (some .boolean), Cond.methodLink RL 96 yX6_fault, Cond.instanceMethod yX6_fault, Cond.selects RX6 yX6_fault yX6_fault, Cond.code yX6_fault cX6_fault 1 (some .int), Cond.methodLink RX6 157 yX6_reads]
def wsL_law_r26 : List Cond := [Cond.instanceMethod yX6_reads, Cond.selects RX6 yX6_reads yX6_reads, Cond.code yX6_reads cX6_reads 1 (some .int), Cond.fieldLink RX6 132 "LocoFramesModel" "at" "I", Cond.fieldLink RX6 135 "LocoFramesModel" "isWell" "Z", Cond.fieldLink RX6 145 "LocoFramesModel" "toldMany" "I", Cond.methodLink RX6 154 yX6_readsOrder, Cond.instanceMethod yX6_readsOrder, Cond.selects RX6 yX6_readsOrder yX6_readsOrder, Cond.code yX6_readsOrder cX6_readsOrder 3 none, Cond.methodLink RX6 139 yX6_sign, Cond.instanceMethod yX6_sign, Cond.selects RX6 yX6_sign yX6_sign, Cond.code yX6_sign cX6_sign 1 (some .int), Cond.methodLink RX6 142 yX6_digit, Cond.instanceMethod yX6_digit, Cond.selects RX6 yX6_digit yX6_digit, Cond.code yX6_digit cX6_digit 3 (some .int), Cond.methodLink RX6 148 yX6_number, Cond.instanceMethod yX6_number, Cond.selects RX6 yX6_number yX6_number, Cond.code yX6_number cX6_number 3 (some .int), Cond.methodLink RX6 151 yX6_wants, Cond.instanceMethod yX6_wants]
def wsL_law_r27 : List Cond := [Cond.selects RX6 yX6_wants yX6_wants, Cond.code yX6_wants cX6_wants 2 none, Cond.methodLink RL 97 yX5_carryOut, Cond.instanceMethod yX5_carryOut, Cond.selects RX5 yX5_carryOut yX5_carryOut, Cond.code yX5_carryOut cX5_carryOut 3 (some .int), Cond.methodLink RX5 175 yX3_rewind, Cond.methodLink RX5 178 yX3_readsOrder, Cond.methodLink RX5 182 yX5_carriesOne, Cond.instanceMethod yX5_carriesOne, Cond.selects RX5 yX5_carriesOne yX5_carriesOne, Cond.code yX5_carriesOne cX5_carriesOne 2 (some .boolean), Cond.fieldLink RX5 192 "LocoFrames$Pad" "kind" "I", Cond.fieldLink RX5 195 "LocoFrames$Pad" "numbers" "[I", Cond.methodLink RX5 185 yX3_reads, Cond.methodLink RL 100 yX6_carryOut, Cond.instanceMethod yX6_carryOut, Cond.selects RX6 yX6_carryOut yX6_carryOut, Cond.code yX6_carryOut cX6_carryOut 2 (some .int), Cond.methodLink RX6 160 yX6_refuses, Cond.instanceMethod yX6_refuses, Cond.selects RX6 yX6_refuses yX6_refuses, Cond.code yX6_refuses cX6_refuses 2 (some .int), Cond.methodLink RX6 163 yX6_does]
def wsL_law_r28 : List Cond := [Cond.instanceMethod yX6_does, Cond.selects RX6 yX6_does yX6_does, Cond.code yX6_does cX6_does 2 none, Cond.methodLink RL 101 yX5_undo, Cond.instanceMethod yX5_undo, Cond.selects RX5 yX5_undo yX5_undo, Cond.code yX5_undo cX5_undo 1 (some .int), Cond.methodLink RX5 188 yX0_takeBack, Cond.instanceMethod yX0_takeBack, Cond.selects RX0 yX0_takeBack yX0_takeBack, Cond.code yX0_takeBack cX0_takeBack 2 (some .int), Cond.methodLink RL 104 yX6_undo, Cond.instanceMethod yX6_undo, Cond.selects RX6 yX6_undo yX6_undo, Cond.code yX6_undo cX6_undo 2 (some .int), Cond.methodLink RL 105 yX5_save, Cond.instanceMethod yX5_save, Cond.selects RX5 yX5_save yX5_save, Cond.code yX5_save cX5_save 2 (some .int), Cond.methodLink RL 108 yX6_save, Cond.instanceMethod yX6_save, Cond.selects RX6 yX6_save yX6_save, Cond.code yX6_save cX6_save 3 (some .int), Cond.methodLink RL 109 yX5_restore]
def wsL_law_r29 : List Cond := [Cond.instanceMethod yX5_restore, Cond.selects RX5 yX5_restore yX5_restore, Cond.code yX5_restore cX5_restore 2 (some .int), Cond.methodLink RL 112 yX6_restore, Cond.instanceMethod yX6_restore, Cond.selects RX6 yX6_restore yX6_restore, Cond.code yX6_restore cX6_restore 3 (some .int)]
def wsL_law : List Cond := (wsL_law_r1 ++ (wsL_law_r2 ++ (wsL_law_r3 ++ (wsL_law_r4 ++ (wsL_law_r5 ++ (wsL_law_r6 ++ (wsL_law_r7 ++ (wsL_law_r8 ++ (wsL_law_r9 ++ (wsL_law_r10 ++ (wsL_law_r11 ++ (wsL_law_r12 ++ (wsL_law_r13 ++ (wsL_law_r14 ++ (wsL_law_r15 ++ (wsL_law_r16 ++ (wsL_law_r17 ++ (wsL_law_r18 ++ (wsL_law_r19 ++ (wsL_law_r20 ++ (wsL_law_r21 ++ (wsL_law_r22 ++ (wsL_law_r23 ++ (wsL_law_r24 ++ (wsL_law_r25 ++ (wsL_law_r26 ++ (wsL_law_r27 ++ (wsL_law_r28 ++ wsL_law_r29)))))))))))))))))))))))))))) ++ wsX50 ++ wsX60 ++ wsX10 ++ wsX00 ++ wsX30 ++ wsX40 ++ wsX20 ++ ([] : List Cond)
theorem inlX0 : ∀ w ∈ wsX00, w ∈ wsL_law := fun _ h => List.mem_append_left _ (List.mem_append_left _ (List.mem_append_left _ (List.mem_append_left _ (List.mem_append_right _ h))))
theorem inlX1 : ∀ w ∈ wsX10, w ∈ wsL_law := fun _ h => List.mem_append_left _ (List.mem_append_left _ (List.mem_append_left _ (List.mem_append_left _ (List.mem_append_left _ (List.mem_append_right _ h)))))
theorem inlX2 : ∀ w ∈ wsX20, w ∈ wsL_law := fun _ h => List.mem_append_left _ (List.mem_append_right _ h)
theorem inlX3 : ∀ w ∈ wsX30, w ∈ wsL_law := fun _ h => List.mem_append_left _ (List.mem_append_left _ (List.mem_append_left _ (List.mem_append_right _ h)))
theorem inlX4 : ∀ w ∈ wsX40, w ∈ wsL_law := fun _ h => List.mem_append_left _ (List.mem_append_left _ (List.mem_append_right _ h))
theorem inlX5 : ∀ w ∈ wsX50, w ∈ wsL_law := fun _ h => List.mem_append_left _ (List.mem_append_left _ (List.mem_append_left _ (List.mem_append_left _ (List.mem_append_left _ (List.mem_append_left _ (List.mem_append_left _ (List.mem_append_right _ h)))))))
theorem inlX6 : ∀ w ∈ wsX60, w ∈ wsL_law := fun _ h => List.mem_append_left _ (List.mem_append_left _ (List.mem_append_left _ (List.mem_append_left _ (List.mem_append_left _ (List.mem_append_left _ (List.mem_append_right _ h))))))
abbrev vwCl : List vw_C := [(RX0, TX0, 3), (RX1, TX1, 10), (RX2, TX2, 11), (RX3, TX3, 6), (RX4, TX4, 4), (RX5, TX5, 6), (RX6, TX6, 13)]
end
section
/-! THE WORLD of this claim: every cell has a name (kind, number); ad gives its address. Kinds: 0 Layout, 1 its row of locos, 2 Station, 3..5 its rows, 6 shortTicks, 7 Loco (8 * layout + number), 8 the class, 9 History, 10 its row, 11 slots, 12 saved, 13 Pad, 14 text, 15 numbers, 16 the reference, 17 s, 18 aside, 19 undos, 20 slots, 21 hasSlot, 22 pad, 23 told -/
abbrev Ii : Type := Nat → Nat → Nat → Int32
abbrev Pm : Type := Nat → Nat → Nat
abbrev Gm : Type := va_G × (Nat → ClassId) × (Nat → Nat → Nat)
def cbK : Nat → Nat
  | 0 => 11
  | 1 => 11
  | 2 => 11
  | 3 => 11
  | 4 => 11
  | 5 => 11
  | 6 => 11
  | 7 => 88
  | 8 => 1
  | 9 => 1
  | 10 => 1
  | 11 => 1
  | 12 => 1
  | 13 => 1
  | 14 => 1
  | 15 => 1
  | 16 => 1
  | 17 => 1
  | 18 => 1
  | 19 => 1
  | 20 => 1
  | 21 => 1
  | 22 => 1
  | 23 => 1
  | _ => 0
def cvv (cy : Nat → ClassId) (ad : Nat → Nat → Nat) (I : Ii) (pm : Pm) (K i : Nat) : va_E := match K with
  | 0 => .inr (1, [.ref (ad 1 i), .ref (ad 2 i), .ref (ad 6 i), .int (I 0 i 3), .int (I 0 i 4), .int (I 0 i 5), .int (I 0 i 6), .int (I 0 i 7), .int (I 0 i 8), .int (I 0 i 9)])
  | 1 => .inl (cy 4, 8, .inr (.inr (.inr (.inr (fun r => some (ad 7 (8 * i + pm i r)))))))
  | 2 => .inr (4, [.ref (ad 3 i), .ref (ad 4 i), .ref (ad 5 i), .int (I 2 i 3)])
  | 3 => .inl (cy 1, 20, .inl (I 3 i))
  | 4 => .inl (cy 1, 20, .inl (I 4 i))
  | 5 => .inl (cy 1, 20, .inl (I 5 i))
  | 6 => .inl (cy 1, 8, .inl (I 6 i))
  | 7 => .inr (2, [.int (I 7 i 0), .int (I 7 i 1), .int (I 7 i 2), .int (I 7 i 3), .int (I 7 i 4), .int (I 7 i 5), .int (I 7 i 6), .int (I 7 i 7), .int (I 7 i 8), .int (I 7 i 9), .int (I 7 i 10)])
  | 8 => .inr (5, [.ref (ad 0 0), .ref (ad 0 1), .ref (ad 9 0), .ref (ad 11 0), .ref (ad 12 0), .ref (ad 13 0)])
  | 9 => .inr (0, [.ref (ad 10 0), .int (I 9 i 1), .int (I 9 i 2)])
  | 10 => .inl (cy 3, 7, .inr (.inr (.inr (.inr (fun r => some (ad 0 (4 + r)))))))
  | 11 => .inl (cy 3, 2, .inr (.inr (.inr (.inr (fun r => some (ad 0 (2 + r)))))))
  | 12 => .inl (cy 2, 2, .inl (I 12 i))
  | 13 => .inr (3, [.ref (ad 14 0), .int (I 13 i 1), .int (I 13 i 2), .int (I 13 i 3), .ref (ad 15 0), .int (I 13 i 5)])
  | 14 => .inl (cy 0, 80, .inl (I 14 i))
  | 15 => .inl (cy 1, 3, .inl (I 15 i))
  | 16 => .inr (6, [.int (I 16 i 0), .ref (ad 17 0), .ref (ad 18 0), .ref (ad 19 0), .int (I 16 i 4), .ref (ad 20 0), .ref (ad 21 0), .ref (ad 22 0), .int (I 16 i 8), .int (I 16 i 9), .int (I 16 i 10), .ref (ad 23 0), .int (I 16 i 12)])
  | 17 => .inl (cy 1, 164, .inl (I 17 i))
  | 18 => .inl (cy 1, 164, .inl (I 18 i))
  | 19 => .inl (cy 1, 984, .inl (I 19 i))
  | 20 => .inl (cy 1, 328, .inl (I 20 i))
  | 21 => .inl (cy 2, 2, .inl (I 21 i))
  | 22 => .inl (cy 1, 80, .inl (I 22 i))
  | 23 => .inl (cy 1, 240, .inl (I 23 i))
  | _ => .inl (cy 1, 0, .inl (fun _ => 0))
def Wd (G : Gm) (I : Ii) (pm : Pm) (H : Heap) : Prop := ∀ K i, i < cbK K → va_at G.1 vwCl (G.2.2 K i, cvv G.2.1 G.2.2 I pm K i) H
def AA (G : Gm) : Nat → Prop := fun q => ∃ K i, i < cbK K ∧ q = G.2.2 K i
def Aj (G : Gm) : Prop := ∀ K i K' i', i < cbK K → i' < cbK K' → G.2.2 K i = G.2.2 K' i' → K = K' ∧ i = i'
def tyz (G : Gm) : List (ClassId × FieldType) := [(G.2.1 0, .char), (G.2.1 1, .int), (G.2.1 2, .boolean), (G.2.1 3, .object "LocoFrames$Layout"), (G.2.1 4, .object "LocoFrames$Loco")]
/-- the links of nest mates: they are no good words, so they are carried beside the tables -/
def NN (U : State) : Prop := va_Nw (.methodLinkNest RX1 64 yX5_within RX5) U ∧ va_Nw (.methodLinkNest RX4 31 yX5_within RX5) U ∧ va_Nw (.methodLinkNest RX1 83 yX5_isBlock RX5) U ∧ va_Nw (.methodLinkNest RX2 45 yX5_curveSpeed RX5) U ∧ va_Nw (.methodLinkNest RX3 31 yX5_within RX5) U
theorem NN.warm {s U : State} (hW : s.WarmedH U.vm) (h : NN s) : NN U := ⟨h.1.warmM hW, h.2.1.warmM hW, h.2.2.1.warmM hW, h.2.2.2.1.warmM hW, h.2.2.2.2.warmM hW⟩
theorem NN.same {s U : State} (hW : s.vm = U.vm) (h : NN s) : NN U := ⟨h.1.same rfl hW, h.2.1.same rfl hW, h.2.2.1.same rfl hW, h.2.2.2.1.same rfl hW, h.2.2.2.2.same rfl hW⟩
def PP (G : Gm) (I : Ii) (pm : Pm) : State → Prop := fun U => Wd G I pm U.heap ∧ va_K G.1 vwCl (tyz G) U ∧ NN U
def up3 (I : Ii) (K i j : Nat) (v : Int32) : Ii := fun a b c => if a = K ∧ b = i ∧ c = j then v else I a b c
def upR (I : Ii) (K i : Nat) (f : Nat → Int32) : Ii := fun a b c => if a = K ∧ b = i then f c else I a b c
def upP (pm : Pm) (k r v : Nat) : Pm := fun a b => if a = k ∧ b = r then v else pm a b
theorem up3_s {I : Ii} {K i j : Nat} {v : Int32} : up3 I K i j v K i j = v := by simp [up3]
theorem up3_n {I : Ii} {K i j a b c : Nat} {v : Int32} (h : ¬ (a = K ∧ b = i ∧ c = j)) : up3 I K i j v a b c = I a b c := by simp [up3, h]
theorem up3_k {I : Ii} {K i j a b c : Nat} {v : Int32} (h : a ≠ K) : up3 I K i j v a b c = I a b c := by simp [up3, h]
theorem upR_s {I : Ii} {K i : Nat} {f : Nat → Int32} : upR I K i f K i = f := by funext c; simp [upR]
theorem upR_n {I : Ii} {K i a b c : Nat} {f : Nat → Int32} (h : ¬ (a = K ∧ b = i)) : upR I K i f a b c = I a b c := by simp [upR, h]
theorem up3_R {I : Ii} {K i j : Nat} {v : Int32} : up3 I K i j v = upR I K i (upd (I K i) j v) := by
  funext a b c
  by_cases h : a = K ∧ b = i
  · obtain ⟨rfl, rfl⟩ := h
    simp [up3, upR, upd]
  · simp only [upR, up3, h, if_false]
    rw [if_neg (fun q => h ⟨q.1, q.2.1⟩)]
theorem cvv_cong {cy : Nat → ClassId} {ad : Nat → Nat → Nat} {I I' : Ii} {pm pm' : Pm} {K i : Nat} (h : ∀ c, I' K i c = I K i c) (hp : K = 1 → ∀ r, pm' i r = pm i r) : cvv cy ad I' pm' K i = cvv cy ad I pm K i := by
  have hf : I' K i = I K i := funext h
  unfold cvv
  split <;> first | (simp only [h]; done) | (simp only [hf]; done) | (simp only [hp rfl]; done) | rfl
theorem Wd.put {G : Gm} {I I' : Ii} {pm pm' : Pm} {H H1 : Heap} {K i : Nat} (h : Wd G I pm H) (hj : Aj G) (hi : i < cbK K) (he : va_at G.1 vwCl (G.2.2 K i, cvv G.2.1 G.2.2 I' pm' K i) H1) (oq : ∀ q : Nat, q ≠ G.2.2 K i → H1[q]? = H[q]?)
    (hc : ∀ a b, ¬ (a = K ∧ b = i) → cvv G.2.1 G.2.2 I' pm' a b = cvv G.2.1 G.2.2 I pm a b) : Wd G I' pm' H1 := by
  intro a b hb
  by_cases hab : a = K ∧ b = i
  · obtain ⟨rfl, rfl⟩ := hab
    exact he
  · rw [hc a b hab]
    exact (h a b hb).kept (oq _ fun q => hab (hj a b K i hb hi q))
theorem Wd.one {G : Gm} {I : Ii} {pm : Pm} {H : Heap} (h : Wd G I pm H) {K i : Nat} (hi : i < cbK K) : va_P G.1 vwCl [(G.2.2 K i, cvv G.2.1 G.2.2 I pm K i)] H := by
  intro k q hk
  cases k with
  | zero => cases hk; exact h K i hi
  | succ k => simp at hk
/-- what a walk of a method holds on to -/
def FX (p : Program) (s : State) (m : MethodId) (args : Array Value) (c : Code) (cc : ByteArray) (nL : Nat) (own : String) (G : Gm) (A : Nat → Prop) : Prop :=
  CallFix p m c cc nL s args wsL_law own ∧ va_K G.1 vwCl (tyz G) s ∧ NN s ∧ Aj G ∧ ∀ K i, i < cbK K → A (G.2.2 K i)
def GG (p : Program) (l : Launch) (e : Env) (R : Room) (s : State) (m : MethodId) (args : Array Value) (below : List Frame) (meth : Method) (c : Code) (G : Gm) (A : Nat → Prop) (nL ce sl : Nat) (Q : State → Prop) (I : Ii) (pm : Pm) (L : List (Nat × Value)) (pc : Nat) (st : List Value) : Prop :=
  ∀ (H : Heap) (locs : List Loc) (ls : Array Slot), Wd G I pm H → va_S A s.heap H locs → lv_has ls nL L → W p l e R s m args below meth c H locs ce sl Q (F0 m pc ls st)
def bz (c : Prop) [Decidable c] : Int32 := if c then 1 else 0
theorem bz_0 {c : Prop} [Decidable c] : bz c = 0 ↔ ¬ c := by unfold bz; split <;> simp_all
theorem bz_1 {c : Prop} [Decidable c] : bz c = 1 ↔ c := by unfold bz; split <;> simp_all
theorem bz_n {c : Prop} [Decidable c] : ¬ bz c = 0 ↔ c := by unfold bz; split <;> simp_all
def wz (y : MethodName) (b : ByteArray) (n : Nat) (r : Option FieldType) : List Cond := Cond.code y b n r :: wsL_law
def rmL (d : Nat) : Room := { frames := d, cells := 0, slots := 0, locals := 27 * d }
/-- contracts: an int, nothing, a loco or null -/
def CI (l : Launch) (G : Gm) (y : MethodName) (ws : List Cond) (rm : Room) (av : List Value) (I : Ii) (pm : Pm) (post : Int32 → Ii × Pm → Prop) : Prop := Met l y ws rm (va_Pc av (PP G I pm)) (va_Qi post (fun u t => Wd G u.1 u.2 t.heap) (AA G)) 0 0 (AA G)
def CV (l : Launch) (G : Gm) (y : MethodName) (ws : List Cond) (rm : Room) (av : List Value) (I : Ii) (pm : Pm) (post : Ii × Pm → Prop) : Prop := Met l y ws rm (va_Pc av (PP G I pm)) (va_Qv post (fun u t => Wd G u.1 u.2 t.heap) (AA G)) 0 0 (AA G)
def CQ (l : Launch) (G : Gm) (y : MethodName) (ws : List Cond) (rm : Room) (av : List Value) (I : Ii) (pm : Pm) (post : Option Nat → Ii × Pm → Prop) : Prop := Met l y ws rm (va_Pc av (PP G I pm)) (va_Qq post (fun u t => Wd G u.1 u.2 t.heap) (AA G)) 0 0 (AA G)
theorem PP.blind {G : Gm} {I : Ii} {pm : Pm} {av : List Value} : FrameBlind (va_Pc av (PP G I pm)) := fun a U g mk q => ⟨q.1, q.2.1, va_K.moved (u := U) (U := U.calling g mk a) (Vm.Alike.refl U.vm) q.2.2.1, NN.same rfl q.2.2.2⟩
section BASE
variable {p : Program} {l : Launch} {e : Env} {R : Room} {s : State} {m : MethodId} {args : Array Value} {below : List Frame} {meth : Method} {c : Code} {G : Gm} {A : Nat → Prop} {nL ce sl : Nat} {Q : State → Prop} {I : Ii} {pm : Pm} {L : List (Nat × Value)} {pc : Nat} {st rest : List Value} {cc : ByteArray} {own : String}
theorem FX.w (F : FX p s m args c cc nL own G A) {w : Cond} (h : w ∈ wsL_law) : w.before args s = true := F.1.2.2.2.2 w h
theorem g_iconst (F : FX p s m args c cc nL own G A) {n : Int} {v : Int32} (hd : decode cc pc = .ok (.iconst n, 1)) (hv : Int32.ofInt n = v) (k : GG p l e R s m args below meth c G A nL ce sl Q I pm L (pc + 1) (.int v :: st)) : GG p l e R s m args below meth c G A nL ce sl Q I pm L pc st := fun H locs ls h1 h2 h3 => lv_iconst F.1.1 F.1.2.1 hd hv (k H locs ls h1 h2 h3)
theorem g_bipush (F : FX p s m args c cc nL own G A) {n : Int} {v : Int32} (hd : decode cc pc = .ok (.bipush n, 2)) (hv : (Int8.ofInt n).toInt32 = v) (k : GG p l e R s m args below meth c G A nL ce sl Q I pm L (pc + 2) (.int v :: st)) : GG p l e R s m args below meth c G A nL ce sl Q I pm L pc st := fun H locs ls h1 h2 h3 => lv_bipush F.1.1 F.1.2.1 hd hv (k H locs ls h1 h2 h3)
theorem g_sipush (F : FX p s m args c cc nL own G A) {n : Int} {v : Int32} (hd : decode cc pc = .ok (.sipush n, 3)) (hv : (Int16.ofInt n).toInt32 = v) (k : GG p l e R s m args below meth c G A nL ce sl Q I pm L (pc + 3) (.int v :: st)) : GG p l e R s m args below meth c G A nL ce sl Q I pm L pc st := fun H locs ls h1 h2 h3 => lv_sipush F.1.1 F.1.2.1 hd hv (k H locs ls h1 h2 h3)
theorem g_lconst (F : FX p s m args c cc nL own G A) {n : Fin 2} {v : Int64} (hd : decode cc pc = .ok (.lconst n, 1)) (hv : Int64.ofNat (n : Nat) = v) (k : GG p l e R s m args below meth c G A nL ce sl Q I pm L (pc + 1) (.long v :: st)) : GG p l e R s m args below meth c G A nL ce sl Q I pm L pc st := fun H locs ls h1 h2 h3 => lv_lconst F.1.1 F.1.2.1 hd hv (k H locs ls h1 h2 h3)
theorem g_ldc (F : FX p s m args c cc nL own G A) {index : Nat} {v : Int32} (hw : Jvm.Cond.constant own index v ∈ wsL_law) (hd : decode cc pc = .ok (.ldc index, 2)) (k : GG p l e R s m args below meth c G A nL ce sl Q I pm L (pc + 2) (.int v :: st)) : GG p l e R s m args below meth c G A nL ce sl Q I pm L pc st := fun H locs ls h1 h2 h3 => lv_ldc F.1.1 F.1.2.1 F.1.2.2.2.1 (F.w hw) hd (k H locs ls h1 h2 h3)
theorem g_ldc2 (F : FX p s m args c cc nL own G A) {index : Nat} {v : Int64} (hw : Jvm.Cond.constantLong own index v ∈ wsL_law) (hd : decode cc pc = .ok (.ldc2_w index, 3)) (k : GG p l e R s m args below meth c G A nL ce sl Q I pm L (pc + 3) (.long v :: st)) : GG p l e R s m args below meth c G A nL ce sl Q I pm L pc st := fun H locs ls h1 h2 h3 => lv_ldc2 F.1.1 F.1.2.1 F.1.2.2.2.1 (F.w hw) hd (k H locs ls h1 h2 h3)
theorem g_iload_n (F : FX p s m args c cc nL own G A) {k : Fin 4} {i : Nat} {x : Int32} (j : Nat) (hd : decode cc pc = .ok (.iload_n k, 1)) (hi : (k : Nat) = i) (hl : L[j]? = some (i, .int x)) (kk : GG p l e R s m args below meth c G A nL ce sl Q I pm L (pc + 1) (.int x :: st)) : GG p l e R s m args below meth c G A nL ce sl Q I pm L pc st := fun H locs ls h1 h2 h3 => lv_iload_n F.1.1 F.1.2.1 hd hi (lv_at h3 j hl) (kk H locs ls h1 h2 h3)
theorem g_iload (F : FX p s m args c cc nL own G A) {i : Nat} {x : Int32} (j : Nat) (hd : decode cc pc = .ok (.iload i, 2)) (hl : L[j]? = some (i, .int x)) (kk : GG p l e R s m args below meth c G A nL ce sl Q I pm L (pc + 2) (.int x :: st)) : GG p l e R s m args below meth c G A nL ce sl Q I pm L pc st := fun H locs ls h1 h2 h3 => lv_iload F.1.1 F.1.2.1 hd (lv_at h3 j hl) (kk H locs ls h1 h2 h3)
theorem g_lload_n (F : FX p s m args c cc nL own G A) {k : Fin 4} {i : Nat} {x : Int64} (j : Nat) (hd : decode cc pc = .ok (.lload_n k, 1)) (hi : (k : Nat) = i) (hl : L[j]? = some (i, .long x)) (kk : GG p l e R s m args below meth c G A nL ce sl Q I pm L (pc + 1) (.long x :: st)) : GG p l e R s m args below meth c G A nL ce sl Q I pm L pc st := fun H locs ls h1 h2 h3 => lv_lload_n F.1.1 F.1.2.1 hd hi (lv_at h3 j hl) (kk H locs ls h1 h2 h3)
theorem g_lload (F : FX p s m args c cc nL own G A) {i : Nat} {x : Int64} (j : Nat) (hd : decode cc pc = .ok (.lload i, 2)) (hl : L[j]? = some (i, .long x)) (kk : GG p l e R s m args below meth c G A nL ce sl Q I pm L (pc + 2) (.long x :: st)) : GG p l e R s m args below meth c G A nL ce sl Q I pm L pc st := fun H locs ls h1 h2 h3 => lv_lload F.1.1 F.1.2.1 hd (lv_at h3 j hl) (kk H locs ls h1 h2 h3)
theorem g_aload_n (F : FX p s m args c cc nL own G A) {k : Fin 4} {i x : Nat} (j : Nat) (hd : decode cc pc = .ok (.aload_n k, 1)) (hi : (k : Nat) = i) (hl : L[j]? = some (i, .ref x)) (kk : GG p l e R s m args below meth c G A nL ce sl Q I pm L (pc + 1) (.ref x :: st)) : GG p l e R s m args below meth c G A nL ce sl Q I pm L pc st := fun H locs ls h1 h2 h3 => lv_aload_n F.1.1 F.1.2.1 hd hi (lv_at h3 j hl) (kk H locs ls h1 h2 h3)
theorem g_aload (F : FX p s m args c cc nL own G A) {i x : Nat} (j : Nat) (hd : decode cc pc = .ok (.aload i, 2)) (hl : L[j]? = some (i, .ref x)) (kk : GG p l e R s m args below meth c G A nL ce sl Q I pm L (pc + 2) (.ref x :: st)) : GG p l e R s m args below meth c G A nL ce sl Q I pm L pc st := fun H locs ls h1 h2 h3 => lv_aload F.1.1 F.1.2.1 hd (lv_at h3 j hl) (kk H locs ls h1 h2 h3)
theorem g_istore_n (F : FX p s m args c cc nL own G A) {k : Fin 4} {i : Nat} {x : Int32} {L' : List (Nat × Value)} (hd : decode cc pc = .ok (.istore_n k, 1)) (hi : (k : Nat) = i) (hn : i < nL) (hl : (i, Value.int x) :: L.filter (fun q => !(q.1 == i) && !(q.1 + 1 == i && q.2.category == 2)) = L') (kk : GG p l e R s m args below meth c G A nL ce sl Q I pm L' (pc + 1) rest) : GG p l e R s m args below meth c G A nL ce sl Q I pm L pc (.int x :: rest) := fun H locs ls h1 h2 h3 => lv_istore_n F.1.1 F.1.2.1 hd hi h3 hn hl (fun ls' h' => kk H locs ls' h1 h2 h')
theorem g_istore (F : FX p s m args c cc nL own G A) {i : Nat} {x : Int32} {L' : List (Nat × Value)} (hd : decode cc pc = .ok (.istore i, 2)) (hn : i < nL) (hl : (i, Value.int x) :: L.filter (fun q => !(q.1 == i) && !(q.1 + 1 == i && q.2.category == 2)) = L') (kk : GG p l e R s m args below meth c G A nL ce sl Q I pm L' (pc + 2) rest) : GG p l e R s m args below meth c G A nL ce sl Q I pm L pc (.int x :: rest) := fun H locs ls h1 h2 h3 => lv_istore F.1.1 F.1.2.1 hd h3 hn hl (fun ls' h' => kk H locs ls' h1 h2 h')
theorem g_astore_n (F : FX p s m args c cc nL own G A) {k : Fin 4} {i : Nat} {x : Nat} {L' : List (Nat × Value)} (hd : decode cc pc = .ok (.astore_n k, 1)) (hi : (k : Nat) = i) (hn : i < nL) (hl : (i, Value.ref x) :: L.filter (fun q => !(q.1 == i) && !(q.1 + 1 == i && q.2.category == 2)) = L') (kk : GG p l e R s m args below meth c G A nL ce sl Q I pm L' (pc + 1) rest) : GG p l e R s m args below meth c G A nL ce sl Q I pm L pc (.ref x :: rest) := fun H locs ls h1 h2 h3 => lv_astore_n F.1.1 F.1.2.1 hd hi h3 hn hl (fun ls' h' => kk H locs ls' h1 h2 h')
theorem g_astore (F : FX p s m args c cc nL own G A) {i : Nat} {x : Nat} {L' : List (Nat × Value)} (hd : decode cc pc = .ok (.astore i, 2)) (hn : i < nL) (hl : (i, Value.ref x) :: L.filter (fun q => !(q.1 == i) && !(q.1 + 1 == i && q.2.category == 2)) = L') (kk : GG p l e R s m args below meth c G A nL ce sl Q I pm L' (pc + 2) rest) : GG p l e R s m args below meth c G A nL ce sl Q I pm L pc (.ref x :: rest) := fun H locs ls h1 h2 h3 => lv_astore F.1.1 F.1.2.1 hd h3 hn hl (fun ls' h' => kk H locs ls' h1 h2 h')
theorem g_astore_nN (F : FX p s m args c cc nL own G A) {k : Fin 4} {i : Nat} {L' : List (Nat × Value)} (hd : decode cc pc = .ok (.astore_n k, 1)) (hi : (k : Nat) = i) (hn : i < nL) (hl : (i, Value.null) :: L.filter (fun q => !(q.1 == i) && !(q.1 + 1 == i && q.2.category == 2)) = L') (kk : GG p l e R s m args below meth c G A nL ce sl Q I pm L' (pc + 1) rest) : GG p l e R s m args below meth c G A nL ce sl Q I pm L pc (.null :: rest) := fun H locs ls h1 h2 h3 => lv_astore_nN F.1.1 F.1.2.1 hd hi h3 hn hl (fun ls' h' => kk H locs ls' h1 h2 h')
theorem g_astoreN (F : FX p s m args c cc nL own G A) {i : Nat} {L' : List (Nat × Value)} (hd : decode cc pc = .ok (.astore i, 2)) (hn : i < nL) (hl : (i, Value.null) :: L.filter (fun q => !(q.1 == i) && !(q.1 + 1 == i && q.2.category == 2)) = L') (kk : GG p l e R s m args below meth c G A nL ce sl Q I pm L' (pc + 2) rest) : GG p l e R s m args below meth c G A nL ce sl Q I pm L pc (.null :: rest) := fun H locs ls h1 h2 h3 => lv_astoreN F.1.1 F.1.2.1 hd h3 hn hl (fun ls' h' => kk H locs ls' h1 h2 h')
theorem g_aload_nN (F : FX p s m args c cc nL own G A) {k : Fin 4} {i : Nat} (j : Nat) (hd : decode cc pc = .ok (.aload_n k, 1)) (hi : (k : Nat) = i) (hl : L[j]? = some (i, .null)) (kk : GG p l e R s m args below meth c G A nL ce sl Q I pm L (pc + 1) (.null :: st)) : GG p l e R s m args below meth c G A nL ce sl Q I pm L pc st := fun H locs ls h1 h2 h3 => lv_aload_nN F.1.1 F.1.2.1 hd hi (lv_at h3 j hl) (kk H locs ls h1 h2 h3)
theorem g_aloadN (F : FX p s m args c cc nL own G A) {i : Nat} (j : Nat) (hd : decode cc pc = .ok (.aload i, 2)) (hl : L[j]? = some (i, .null)) (kk : GG p l e R s m args below meth c G A nL ce sl Q I pm L (pc + 2) (.null :: st)) : GG p l e R s m args below meth c G A nL ce sl Q I pm L pc st := fun H locs ls h1 h2 h3 => lv_aloadN F.1.1 F.1.2.1 hd (lv_at h3 j hl) (kk H locs ls h1 h2 h3)
theorem g_lstore (F : FX p s m args c cc nL own G A) {i : Nat} {x : Int64} {L' : List (Nat × Value)} (hd : decode cc pc = .ok (.lstore i, 2)) (hn : i + 1 < nL) (hl : (i, Value.long x) :: L.filter (fun q => !(q.1 == i) && (!(q.1 == i + 1) && !(q.1 + 1 == i && q.2.category == 2))) = L') (kk : GG p l e R s m args below meth c G A nL ce sl Q I pm L' (pc + 2) rest) : GG p l e R s m args below meth c G A nL ce sl Q I pm L pc (.long x :: rest) := fun H locs ls h1 h2 h3 => lv_lstore F.1.1 F.1.2.1 hd h3 hn hl (fun ls' h' => kk H locs ls' h1 h2 h')
theorem g_iinc (F : FX p s m args c cc nL own G A) {i : Nat} {n : Int} {x v : Int32} {L' : List (Nat × Value)} (j : Nat) (hd : decode cc pc = .ok (.iinc i n, 3)) (hk : L[j]? = some (i, .int x)) (hv : x + Int32.ofInt n = v) (hn : i < nL) (hl : (i, Value.int v) :: L.filter (fun q => !(q.1 == i) && !(q.1 + 1 == i && q.2.category == 2)) = L') (kk : GG p l e R s m args below meth c G A nL ce sl Q I pm L' (pc + 3) st) : GG p l e R s m args below meth c G A nL ce sl Q I pm L pc st := fun H locs ls h1 h2 h3 => lv_iinc F.1.1 F.1.2.1 hd h3 hk hv hn hl (fun ls' h' => kk H locs ls' h1 h2 h')
theorem g_topi {x : Int32} (k : ∀ y : Int32, y = x → GG p l e R s m args below meth c G A nL ce sl Q I pm L pc (.int y :: rest)) : GG p l e R s m args below meth c G A nL ce sl Q I pm L pc (.int x :: rest) := k x rfl
theorem g_eqi {x y : Int32} (h : x = y) (k : GG p l e R s m args below meth c G A nL ce sl Q I pm L pc (.int y :: rest)) : GG p l e R s m args below meth c G A nL ce sl Q I pm L pc (.int x :: rest) := h ▸ k
theorem g_sub {L' : List (Nat × Value)} (ks : List Nat) (hl : lv_pick L ks = L') (k : GG p l e R s m args below meth c G A nL ce sl Q I pm L' pc st) : GG p l e R s m args below meth c G A nL ce sl Q I pm L pc st := fun H locs ls h1 h2 h3 => k H locs ls h1 h2 (lv_sub h3 ks hl)
theorem g_I {I' : Ii} (h : I = I') (k : GG p l e R s m args below meth c G A nL ce sl Q I' pm L pc st) : GG p l e R s m args below meth c G A nL ce sl Q I pm L pc st := h ▸ k
theorem g_tern1 {x : Int32} (q : Prop) [Decidable q] (a b : Int32) (pcJ : Nat) (hbr : (q → GG p l e R s m args below meth c G A nL ce sl Q I pm L pcJ (.int a :: rest)) → (¬ q → GG p l e R s m args below meth c G A nL ce sl Q I pm L pcJ (.int b :: rest)) → GG p l e R s m args below meth c G A nL ce sl Q I pm L pc (.int x :: rest)) (kk : GG p l e R s m args below meth c G A nL ce sl Q I pm L pcJ (.int (if q then a else b) :: rest)) : GG p l e R s m args below meth c G A nL ce sl Q I pm L pc (.int x :: rest) :=
  hbr (fun h => by rw [if_pos h] at kk; exact kk) (fun h => by rw [if_neg h] at kk; exact kk)
theorem g_tern2 {x y : Int32} (q : Prop) [Decidable q] (a b : Int32) (pcJ : Nat) (hbr : (q → GG p l e R s m args below meth c G A nL ce sl Q I pm L pcJ (.int a :: rest)) → (¬ q → GG p l e R s m args below meth c G A nL ce sl Q I pm L pcJ (.int b :: rest)) → GG p l e R s m args below meth c G A nL ce sl Q I pm L pc (.int y :: .int x :: rest)) (kk : GG p l e R s m args below meth c G A nL ce sl Q I pm L pcJ (.int (if q then a else b) :: rest)) : GG p l e R s m args below meth c G A nL ce sl Q I pm L pc (.int y :: .int x :: rest) :=
  hbr (fun h => by rw [if_pos h] at kk; exact kk) (fun h => by rw [if_neg h] at kk; exact kk)
theorem g_goto (F : FX p s m args c cc nL own G A) {off : Int} (tgt : Nat) (hd : decode cc pc = .ok (.goto off, 3)) (ht : (pc : Int) + off = (tgt : Int)) (k : GG p l e R s m args below meth c G A nL ce sl Q I pm L tgt st) : GG p l e R s m args below meth c G A nL ce sl Q I pm L pc st := fun H locs ls h1 h2 h3 => lv_goto F.1.1 F.1.2.1 hd ht (k H locs ls h1 h2 h3)
theorem g_dup (F : FX p s m args c cc nL own G A) {v : Value} (hd : decode cc pc = .ok (.dup, 1)) (hv : v.category = 1) (k : GG p l e R s m args below meth c G A nL ce sl Q I pm L (pc + 1) (v :: v :: rest)) : GG p l e R s m args below meth c G A nL ce sl Q I pm L pc (v :: rest) := fun H locs ls h1 h2 h3 => lv_dup F.1.1 F.1.2.1 hd hv (k H locs ls h1 h2 h3)
theorem g_dup2 (F : FX p s m args c cc nL own G A) {v w : Value} (hd : decode cc pc = .ok (.dup2, 1)) (hv : v.category = 1) (hw : w.category = 1) (k : GG p l e R s m args below meth c G A nL ce sl Q I pm L (pc + 1) (v :: w :: v :: w :: rest)) : GG p l e R s m args below meth c G A nL ce sl Q I pm L pc (v :: w :: rest) := fun H locs ls h1 h2 h3 => lv_dup2_11 F.1.1 F.1.2.1 hd hv hw (k H locs ls h1 h2 h3)
theorem g_pop (F : FX p s m args c cc nL own G A) {v : Value} (hd : decode cc pc = .ok (.pop, 1)) (hv : v.category = 1) (k : GG p l e R s m args below meth c G A nL ce sl Q I pm L (pc + 1) rest) : GG p l e R s m args below meth c G A nL ce sl Q I pm L pc (v :: rest) := fun H locs ls h1 h2 h3 => lv_pop F.1.1 F.1.2.1 hd hv (k H locs ls h1 h2 h3)
theorem g_null (F : FX p s m args c cc nL own G A) (hd : decode cc pc = .ok (.aconst_null, 1)) (k : GG p l e R s m args below meth c G A nL ce sl Q I pm L (pc + 1) (.null :: st)) : GG p l e R s m args below meth c G A nL ce sl Q I pm L pc st := fun H locs ls h1 h2 h3 => lv_null F.1.1 F.1.2.1 hd (k H locs ls h1 h2 h3)
theorem g_ifnull (F : FX p s m args c cc nL own G A) {x : Nat} {off : Int} (hd : decode cc pc = .ok (.ifnull off, 3)) (k : GG p l e R s m args below meth c G A nL ce sl Q I pm L (pc + 3) rest) : GG p l e R s m args below meth c G A nL ce sl Q I pm L pc (.ref x :: rest) := fun H locs ls h1 h2 h3 => lv_ifnull F.1.1 F.1.2.1 hd (k H locs ls h1 h2 h3)
theorem g_ifnullN (F : FX p s m args c cc nL own G A) {off : Int} (tgt : Nat) (hd : decode cc pc = .ok (.ifnull off, 3)) (ht : (pc : Int) + off = (tgt : Int)) (k : GG p l e R s m args below meth c G A nL ce sl Q I pm L tgt rest) : GG p l e R s m args below meth c G A nL ce sl Q I pm L pc (.null :: rest) := fun H locs ls h1 h2 h3 => lv_ifnullN F.1.1 F.1.2.1 hd ht (k H locs ls h1 h2 h3)
theorem g_ifnonnull (F : FX p s m args c cc nL own G A) {x : Nat} {off : Int} (tgt : Nat) (hd : decode cc pc = .ok (.ifnonnull off, 3)) (ht : (pc : Int) + off = (tgt : Int)) (k : GG p l e R s m args below meth c G A nL ce sl Q I pm L tgt rest) : GG p l e R s m args below meth c G A nL ce sl Q I pm L pc (.ref x :: rest) := fun H locs ls h1 h2 h3 => lv_ifnonnull F.1.1 F.1.2.1 hd ht (k H locs ls h1 h2 h3)
theorem g_ifnonnullN (F : FX p s m args c cc nL own G A) {off : Int} (hd : decode cc pc = .ok (.ifnonnull off, 3)) (k : GG p l e R s m args below meth c G A nL ce sl Q I pm L (pc + 3) rest) : GG p l e R s m args below meth c G A nL ce sl Q I pm L pc (.null :: rest) := fun H locs ls h1 h2 h3 => lv_ifnonnullN F.1.1 F.1.2.1 hd (k H locs ls h1 h2 h3)
theorem g_iadd (F : FX p s m args c cc nL own G A) {x y : Int32} (hd : decode cc pc = .ok (.iadd, 1)) (k : GG p l e R s m args below meth c G A nL ce sl Q I pm L (pc + 1) (.int (x + y) :: rest)) : GG p l e R s m args below meth c G A nL ce sl Q I pm L pc (.int y :: .int x :: rest) := fun H locs ls h1 h2 h3 => lv_iadd F.1.1 F.1.2.1 hd (k H locs ls h1 h2 h3)
theorem g_isub (F : FX p s m args c cc nL own G A) {x y : Int32} (hd : decode cc pc = .ok (.isub, 1)) (k : GG p l e R s m args below meth c G A nL ce sl Q I pm L (pc + 1) (.int (x - y) :: rest)) : GG p l e R s m args below meth c G A nL ce sl Q I pm L pc (.int y :: .int x :: rest) := fun H locs ls h1 h2 h3 => lv_isub F.1.1 F.1.2.1 hd (k H locs ls h1 h2 h3)
theorem g_imul (F : FX p s m args c cc nL own G A) {x y : Int32} (hd : decode cc pc = .ok (.imul, 1)) (k : GG p l e R s m args below meth c G A nL ce sl Q I pm L (pc + 1) (.int (x * y) :: rest)) : GG p l e R s m args below meth c G A nL ce sl Q I pm L pc (.int y :: .int x :: rest) := fun H locs ls h1 h2 h3 => lv_imul F.1.1 F.1.2.1 hd (k H locs ls h1 h2 h3)
theorem g_iand (F : FX p s m args c cc nL own G A) {x y : Int32} (hd : decode cc pc = .ok (.iand, 1)) (k : GG p l e R s m args below meth c G A nL ce sl Q I pm L (pc + 1) (.int (x &&& y) :: rest)) : GG p l e R s m args below meth c G A nL ce sl Q I pm L pc (.int y :: .int x :: rest) := fun H locs ls h1 h2 h3 => lv_iand F.1.1 F.1.2.1 hd (k H locs ls h1 h2 h3)
theorem g_ior (F : FX p s m args c cc nL own G A) {x y : Int32} (hd : decode cc pc = .ok (.ior, 1)) (k : GG p l e R s m args below meth c G A nL ce sl Q I pm L (pc + 1) (.int (x ||| y) :: rest)) : GG p l e R s m args below meth c G A nL ce sl Q I pm L pc (.int y :: .int x :: rest) := fun H locs ls h1 h2 h3 => lv_ior F.1.1 F.1.2.1 hd (k H locs ls h1 h2 h3)
theorem g_ixor (F : FX p s m args c cc nL own G A) {x y : Int32} (hd : decode cc pc = .ok (.ixor, 1)) (k : GG p l e R s m args below meth c G A nL ce sl Q I pm L (pc + 1) (.int (x ^^^ y) :: rest)) : GG p l e R s m args below meth c G A nL ce sl Q I pm L pc (.int y :: .int x :: rest) := fun H locs ls h1 h2 h3 => lv_ixor F.1.1 F.1.2.1 hd (k H locs ls h1 h2 h3)
theorem g_idiv (F : FX p s m args c cc nL own G A) {x y : Int32} (hd : decode cc pc = .ok (.idiv, 1)) (hne : ¬ y = 0) (k : GG p l e R s m args below meth c G A nL ce sl Q I pm L (pc + 1) (.int (x / y) :: rest)) : GG p l e R s m args below meth c G A nL ce sl Q I pm L pc (.int y :: .int x :: rest) := fun H locs ls h1 h2 h3 => lv_idiv F.1.1 F.1.2.1 hd hne (k H locs ls h1 h2 h3)
theorem irem_eq (x y : Int32) : x - x / y * y = x % y := by
  apply Int32.toInt_inj.mp
  have h := Int32.toInt_bmod_size (x % y)
  rw [← h, Int32.toInt_sub, Int32.toInt_mul, Int32.toInt_div, Int32.toInt_mod, Int.bmod_mul_bmod, Int.sub_bmod_bmod, Int.tmod_def, Int.mul_comm]
theorem g_irem (F : FX p s m args c cc nL own G A) {x y : Int32} (hd : decode cc pc = .ok (.irem, 1)) (hne : ¬ y = 0) (k : GG p l e R s m args below meth c G A nL ce sl Q I pm L (pc + 1) (.int (x % y) :: rest)) : GG p l e R s m args below meth c G A nL ce sl Q I pm L pc (.int y :: .int x :: rest) := fun H locs ls h1 h2 h3 => lv_irem F.1.1 F.1.2.1 hd hne (by rw [irem_eq]; exact k H locs ls h1 h2 h3)
theorem g_ineg (F : FX p s m args c cc nL own G A) {x : Int32} (hd : decode cc pc = .ok (.ineg, 1)) (k : GG p l e R s m args below meth c G A nL ce sl Q I pm L (pc + 1) (.int (-x) :: rest)) : GG p l e R s m args below meth c G A nL ce sl Q I pm L pc (.int x :: rest) := fun H locs ls h1 h2 h3 => lv_ineg F.1.1 F.1.2.1 hd (k H locs ls h1 h2 h3)
theorem g_i2l (F : FX p s m args c cc nL own G A) {x : Int32} (hd : decode cc pc = .ok (.i2l, 1)) (k : GG p l e R s m args below meth c G A nL ce sl Q I pm L (pc + 1) (.long x.toInt64 :: rest)) : GG p l e R s m args below meth c G A nL ce sl Q I pm L pc (.int x :: rest) := fun H locs ls h1 h2 h3 => lv_i2l F.1.1 F.1.2.1 hd rfl (k H locs ls h1 h2 h3)
theorem g_l2i (F : FX p s m args c cc nL own G A) {x : Int64} (hd : decode cc pc = .ok (.l2i, 1)) (k : GG p l e R s m args below meth c G A nL ce sl Q I pm L (pc + 1) (.int x.toInt32 :: rest)) : GG p l e R s m args below meth c G A nL ce sl Q I pm L pc (.long x :: rest) := fun H locs ls h1 h2 h3 => lv_l2i F.1.1 F.1.2.1 hd rfl (k H locs ls h1 h2 h3)
theorem g_i2c (F : FX p s m args c cc nL own G A) {x : Int32} (hd : decode cc pc = .ok (.i2c, 1)) (k : GG p l e R s m args below meth c G A nL ce sl Q I pm L (pc + 1) (.int (x.toUInt32 % 65536).toInt32 :: rest)) : GG p l e R s m args below meth c G A nL ce sl Q I pm L pc (.int x :: rest) := fun H locs ls h1 h2 h3 => lv_i2c F.1.1 F.1.2.1 hd rfl (k H locs ls h1 h2 h3)
theorem g_lushr (F : FX p s m args c cc nL own G A) {x : Int64} {y : Int32} (hd : decode cc pc = .ok (.lushr, 1)) (k : GG p l e R s m args below meth c G A nL ce sl Q I pm L (pc + 1) (.long (x.toUInt64 >>> (y.toInt64.toUInt64 &&& Int64.toUInt64 63)).toInt64 :: rest)) : GG p l e R s m args below meth c G A nL ce sl Q I pm L pc (.int y :: .long x :: rest) := fun H locs ls h1 h2 h3 => lv_lushr F.1.1 F.1.2.1 hd rfl (k H locs ls h1 h2 h3)
theorem g_lshl (F : FX p s m args c cc nL own G A) {x : Int64} {y : Int32} (hd : decode cc pc = .ok (.lshl, 1)) (k : GG p l e R s m args below meth c G A nL ce sl Q I pm L (pc + 1) (.long (x <<< (y.toInt64 &&& 63)) :: rest)) : GG p l e R s m args below meth c G A nL ce sl Q I pm L pc (.int y :: .long x :: rest) := fun H locs ls h1 h2 h3 => lv_lshl F.1.1 F.1.2.1 hd rfl (k H locs ls h1 h2 h3)
theorem g_land (F : FX p s m args c cc nL own G A) {x y : Int64} (hd : decode cc pc = .ok (.land, 1)) (k : GG p l e R s m args below meth c G A nL ce sl Q I pm L (pc + 1) (.long (x &&& y) :: rest)) : GG p l e R s m args below meth c G A nL ce sl Q I pm L pc (.long y :: .long x :: rest) := fun H locs ls h1 h2 h3 => lv_land F.1.1 F.1.2.1 hd (k H locs ls h1 h2 h3)
theorem g_lor (F : FX p s m args c cc nL own G A) {x y : Int64} (hd : decode cc pc = .ok (.lor, 1)) (k : GG p l e R s m args below meth c G A nL ce sl Q I pm L (pc + 1) (.long (x ||| y) :: rest)) : GG p l e R s m args below meth c G A nL ce sl Q I pm L pc (.long y :: .long x :: rest) := fun H locs ls h1 h2 h3 => lv_lor F.1.1 F.1.2.1 hd (k H locs ls h1 h2 h3)
theorem g_lcmp (F : FX p s m args c cc nL own G A) {x y : Int64} (hd : decode cc pc = .ok (.lcmp, 1)) (k : GG p l e R s m args below meth c G A nL ce sl Q I pm L (pc + 1) (.int (lg_cmp x y) :: rest)) : GG p l e R s m args below meth c G A nL ce sl Q I pm L pc (.long y :: .long x :: rest) := fun H locs ls h1 h2 h3 => W.lcmp F.1.1 F.1.2.1 hd (k H locs ls h1 h2 h3)
theorem g_if_eq (F : FX p s m args c cc nL own G A) {x : Int32} {off : Int} (tgt : Nat) (hd : decode cc pc = .ok (.ifCond .eq off, 3)) (ht : (pc : Int) + off = (tgt : Int)) (kt : x = 0 → GG p l e R s m args below meth c G A nL ce sl Q I pm L tgt rest) (kf : ¬ x = 0 → GG p l e R s m args below meth c G A nL ce sl Q I pm L (pc + 3) rest) : GG p l e R s m args below meth c G A nL ce sl Q I pm L pc (.int x :: rest) := fun H locs ls h1 h2 h3 => lv_if_eq F.1.1 F.1.2.1 hd ht (fun q => kt q H locs ls h1 h2 h3) (fun q => kf q H locs ls h1 h2 h3)
theorem g_icmp_eq (F : FX p s m args c cc nL own G A) {x y : Int32} {off : Int} (tgt : Nat) (hd : decode cc pc = .ok (.if_icmp .eq off, 3)) (ht : (pc : Int) + off = (tgt : Int)) (kt : x = y → GG p l e R s m args below meth c G A nL ce sl Q I pm L tgt rest) (kf : ¬ x = y → GG p l e R s m args below meth c G A nL ce sl Q I pm L (pc + 3) rest) : GG p l e R s m args below meth c G A nL ce sl Q I pm L pc (.int y :: .int x :: rest) := fun H locs ls h1 h2 h3 => lv_icmp_eq F.1.1 F.1.2.1 hd ht (fun q => kt q H locs ls h1 h2 h3) (fun q => kf q H locs ls h1 h2 h3)
theorem g_if_ne (F : FX p s m args c cc nL own G A) {x : Int32} {off : Int} (tgt : Nat) (hd : decode cc pc = .ok (.ifCond .ne off, 3)) (ht : (pc : Int) + off = (tgt : Int)) (kt : ¬ x = 0 → GG p l e R s m args below meth c G A nL ce sl Q I pm L tgt rest) (kf : x = 0 → GG p l e R s m args below meth c G A nL ce sl Q I pm L (pc + 3) rest) : GG p l e R s m args below meth c G A nL ce sl Q I pm L pc (.int x :: rest) := fun H locs ls h1 h2 h3 => lv_if_ne F.1.1 F.1.2.1 hd ht (fun q => kt q H locs ls h1 h2 h3) (fun q => kf q H locs ls h1 h2 h3)
theorem g_icmp_ne (F : FX p s m args c cc nL own G A) {x y : Int32} {off : Int} (tgt : Nat) (hd : decode cc pc = .ok (.if_icmp .ne off, 3)) (ht : (pc : Int) + off = (tgt : Int)) (kt : ¬ x = y → GG p l e R s m args below meth c G A nL ce sl Q I pm L tgt rest) (kf : x = y → GG p l e R s m args below meth c G A nL ce sl Q I pm L (pc + 3) rest) : GG p l e R s m args below meth c G A nL ce sl Q I pm L pc (.int y :: .int x :: rest) := fun H locs ls h1 h2 h3 => lv_icmp_ne F.1.1 F.1.2.1 hd ht (fun q => kt q H locs ls h1 h2 h3) (fun q => kf q H locs ls h1 h2 h3)
theorem g_if_lt (F : FX p s m args c cc nL own G A) {x : Int32} {off : Int} (tgt : Nat) (hd : decode cc pc = .ok (.ifCond .lt off, 3)) (ht : (pc : Int) + off = (tgt : Int)) (kt : x < 0 → GG p l e R s m args below meth c G A nL ce sl Q I pm L tgt rest) (kf : ¬ x < 0 → GG p l e R s m args below meth c G A nL ce sl Q I pm L (pc + 3) rest) : GG p l e R s m args below meth c G A nL ce sl Q I pm L pc (.int x :: rest) := fun H locs ls h1 h2 h3 => lv_if_lt F.1.1 F.1.2.1 hd ht (fun q => kt q H locs ls h1 h2 h3) (fun q => kf q H locs ls h1 h2 h3)
theorem g_icmp_lt (F : FX p s m args c cc nL own G A) {x y : Int32} {off : Int} (tgt : Nat) (hd : decode cc pc = .ok (.if_icmp .lt off, 3)) (ht : (pc : Int) + off = (tgt : Int)) (kt : x < y → GG p l e R s m args below meth c G A nL ce sl Q I pm L tgt rest) (kf : ¬ x < y → GG p l e R s m args below meth c G A nL ce sl Q I pm L (pc + 3) rest) : GG p l e R s m args below meth c G A nL ce sl Q I pm L pc (.int y :: .int x :: rest) := fun H locs ls h1 h2 h3 => lv_icmp_lt F.1.1 F.1.2.1 hd ht (fun q => kt q H locs ls h1 h2 h3) (fun q => kf q H locs ls h1 h2 h3)
theorem g_if_ge (F : FX p s m args c cc nL own G A) {x : Int32} {off : Int} (tgt : Nat) (hd : decode cc pc = .ok (.ifCond .ge off, 3)) (ht : (pc : Int) + off = (tgt : Int)) (kt : 0 ≤ x → GG p l e R s m args below meth c G A nL ce sl Q I pm L tgt rest) (kf : ¬ 0 ≤ x → GG p l e R s m args below meth c G A nL ce sl Q I pm L (pc + 3) rest) : GG p l e R s m args below meth c G A nL ce sl Q I pm L pc (.int x :: rest) := fun H locs ls h1 h2 h3 => lv_if_ge F.1.1 F.1.2.1 hd ht (fun q => kt q H locs ls h1 h2 h3) (fun q => kf q H locs ls h1 h2 h3)
theorem g_icmp_ge (F : FX p s m args c cc nL own G A) {x y : Int32} {off : Int} (tgt : Nat) (hd : decode cc pc = .ok (.if_icmp .ge off, 3)) (ht : (pc : Int) + off = (tgt : Int)) (kt : y ≤ x → GG p l e R s m args below meth c G A nL ce sl Q I pm L tgt rest) (kf : ¬ y ≤ x → GG p l e R s m args below meth c G A nL ce sl Q I pm L (pc + 3) rest) : GG p l e R s m args below meth c G A nL ce sl Q I pm L pc (.int y :: .int x :: rest) := fun H locs ls h1 h2 h3 => lv_icmp_ge F.1.1 F.1.2.1 hd ht (fun q => kt q H locs ls h1 h2 h3) (fun q => kf q H locs ls h1 h2 h3)
theorem g_if_gt (F : FX p s m args c cc nL own G A) {x : Int32} {off : Int} (tgt : Nat) (hd : decode cc pc = .ok (.ifCond .gt off, 3)) (ht : (pc : Int) + off = (tgt : Int)) (kt : 0 < x → GG p l e R s m args below meth c G A nL ce sl Q I pm L tgt rest) (kf : ¬ 0 < x → GG p l e R s m args below meth c G A nL ce sl Q I pm L (pc + 3) rest) : GG p l e R s m args below meth c G A nL ce sl Q I pm L pc (.int x :: rest) := fun H locs ls h1 h2 h3 => lv_if_gt F.1.1 F.1.2.1 hd ht (fun q => kt q H locs ls h1 h2 h3) (fun q => kf q H locs ls h1 h2 h3)
theorem g_icmp_gt (F : FX p s m args c cc nL own G A) {x y : Int32} {off : Int} (tgt : Nat) (hd : decode cc pc = .ok (.if_icmp .gt off, 3)) (ht : (pc : Int) + off = (tgt : Int)) (kt : y < x → GG p l e R s m args below meth c G A nL ce sl Q I pm L tgt rest) (kf : ¬ y < x → GG p l e R s m args below meth c G A nL ce sl Q I pm L (pc + 3) rest) : GG p l e R s m args below meth c G A nL ce sl Q I pm L pc (.int y :: .int x :: rest) := fun H locs ls h1 h2 h3 => lv_icmp_gt F.1.1 F.1.2.1 hd ht (fun q => kt q H locs ls h1 h2 h3) (fun q => kf q H locs ls h1 h2 h3)
theorem g_if_le (F : FX p s m args c cc nL own G A) {x : Int32} {off : Int} (tgt : Nat) (hd : decode cc pc = .ok (.ifCond .le off, 3)) (ht : (pc : Int) + off = (tgt : Int)) (kt : x ≤ 0 → GG p l e R s m args below meth c G A nL ce sl Q I pm L tgt rest) (kf : ¬ x ≤ 0 → GG p l e R s m args below meth c G A nL ce sl Q I pm L (pc + 3) rest) : GG p l e R s m args below meth c G A nL ce sl Q I pm L pc (.int x :: rest) := fun H locs ls h1 h2 h3 => lv_if_le F.1.1 F.1.2.1 hd ht (fun q => kt q H locs ls h1 h2 h3) (fun q => kf q H locs ls h1 h2 h3)
theorem g_icmp_le (F : FX p s m args c cc nL own G A) {x y : Int32} {off : Int} (tgt : Nat) (hd : decode cc pc = .ok (.if_icmp .le off, 3)) (ht : (pc : Int) + off = (tgt : Int)) (kt : x ≤ y → GG p l e R s m args below meth c G A nL ce sl Q I pm L tgt rest) (kf : ¬ x ≤ y → GG p l e R s m args below meth c G A nL ce sl Q I pm L (pc + 3) rest) : GG p l e R s m args below meth c G A nL ce sl Q I pm L pc (.int y :: .int x :: rest) := fun H locs ls h1 h2 h3 => lv_icmp_le F.1.1 F.1.2.1 hd ht (fun q => kt q H locs ls h1 h2 h3) (fun q => kf q H locs ls h1 h2 h3)
theorem g_tableOut (F : FX p s m args c cc nL own G A) {dflt lo hi : Int} {offs : Array Int} {len : Nat} {x : Int32} (tgt : Nat) (hd : decode cc pc = .ok (.tableswitch dflt lo hi offs, len)) (h : x.toInt < lo ∨ hi < x.toInt) (ht : (pc : Int) + dflt = (tgt : Int)) (k : GG p l e R s m args below meth c G A nL ce sl Q I pm L tgt rest) : GG p l e R s m args below meth c G A nL ce sl Q I pm L pc (.int x :: rest) := fun H locs ls h1 h2 h3 => lv_tableOut F.1.1 F.1.2.1 hd h ht (k H locs ls h1 h2 h3)
theorem g_tableIn (F : FX p s m args c cc nL own G A) {dflt lo hi : Int} {offs : Array Int} {len : Nat} {x : Int32} {off : Int} (tgt : Nat) (hd : decode cc pc = .ok (.tableswitch dflt lo hi offs, len)) (h1' : ¬ x.toInt < lo) (h2' : ¬ hi < x.toInt) (ho : offs[(x.toInt - lo).toNat]? = some off) (ht : (pc : Int) + off = (tgt : Int)) (k : GG p l e R s m args below meth c G A nL ce sl Q I pm L tgt rest) : GG p l e R s m args below meth c G A nL ce sl Q I pm L pc (.int x :: rest) := fun H locs ls h1 h2 h3 => lv_tableIn F.1.1 F.1.2.1 hd h1' h2' ho ht (k H locs ls h1 h2 h3)
theorem g_lookup (F : FX p s m args c cc nL own G A) {dflt : Int} {ps : Array (Int × Int)} {len : Nat} {x : Int32} {off : Int} (tgt : Nat) (hd : decode cc pc = .ok (.lookupswitch dflt ps, len)) (hp : (ps.toList.zip (ps.toList.drop 1)).all (fun (a, next) => a.1 < next.1) = true) (ho : Op.lookupswitch.offset ps.toList dflt x.toInt = off) (ht : (pc : Int) + off = (tgt : Int)) (k : GG p l e R s m args below meth c G A nL ce sl Q I pm L tgt rest) : GG p l e R s m args below meth c G A nL ce sl Q I pm L pc (.int x :: rest) := fun H locs ls h1 h2 h3 => lv_lookup F.1.1 F.1.2.1 hd hp ho ht (k H locs ls h1 h2 h3)
/-- a field is read: what the world has there -/
theorem g_get (F : FX p s m args c cc nL own G A) {C : String} {T : u_T} {N ci index K i : Nat} {fs : List Value} {v : Value} (hin : ∀ w ∈ u_ws C T N, w ∈ wsL_law) (hc : vwCl[ci]? = some (C, T, N)) (hi : i < cbK K) (he : cvv G.2.1 G.2.2 I pm K i = .inr (ci, fs)) (k : Nat) (hk : k < N) (hw : Cond.fieldLink own index (T k).1 (T k).2.1 (T k).2.2.1 ∈ wsL_law) (hv : fs[k]? = some v) (hd : decode cc pc = .ok (.getfield index, 3)) (kk : GG p l e R s m args below meth c G A nL ce sl Q I pm L (pc + 3) (v :: rest)) : GG p l e R s m args below meth c G A nL ce sl Q I pm L pc (.ref (G.2.2 K i) :: rest) := fun H locs ls h1 h2 h3 =>
  va_get (D := G.1) (cl := vwCl) (tys := tyz G) (ws := [(G.2.2 K i, .inr (ci, fs))]) F.1.1 F.1.2.1 F.1.2.2.2.2 hin F.1.2.2.2.1 F.2.1 (he ▸ h1.one hi) 0 rfl hc k hk (F.w hw) (fun _ h => h) hv hd (kk H locs ls h1 h2 h3)
theorem g_put (F : FX p s m args c cc nL own G A) {C : String} {T : u_T} {N ci index K i : Nat} {fs : List Value} {x : Int32} {ty : FieldType} (hin : ∀ w ∈ u_ws C T N, w ∈ wsL_law) (ty0 : Nat → FieldType) (hty : ∀ k, k < N → parseFieldDescriptor (T k).2.2.1 = some (ty0 k)) (hnm : ∀ a, a < N → ∀ b, b < N → a ≠ b → (T a).2.1 ≠ (T b).2.1) (hc : vwCl[ci]? = some (C, T, N)) (hi : i < cbK K) (he : cvv G.2.1 G.2.2 I pm K i = .inr (ci, fs)) (k : Nat) (hk : k < N) (hw : Cond.fieldLink own index (T k).1 (T k).2.1 (T k).2.2.1 ∈ wsL_law) (hfin : (T k).2.2.2 = false) (hdt : parseFieldDescriptor (T k).2.2.1 = some ty) (hn : narrow ty (.int x) = .int x) (hfit : fits ty (.int x) = true) (hl : k < fs.length)
    (he' : cvv G.2.1 G.2.2 (up3 I K i k x) pm K i = .inr (ci, fs.set k (.int x))) (hd : decode cc pc = .ok (.putfield index, 3)) (kk : GG p l e R s m args below meth c G A nL ce sl Q (up3 I K i k x) pm L (pc + 3) rest) : GG p l e R s m args below meth c G A nL ce sl Q I pm L pc (.int x :: .ref (G.2.2 K i) :: rest) := by
  intro H locs ls h1 h2 h3
  have hap := va_apart (own := own) F.1.2.2.2.2 hin ty0 hty hnm F.2.1 hc
  have h10 := h1 K i hi
  rw [he] at h10
  obtain ⟨r, g1, cell, q1, q2, q3, q4⟩ := h10
  have hr : r = (C, T, N) := Option.some.inj (g1.symm.trans hc)
  subst hr
  obtain ⟨hS, hfc, kC, hkC, hkind⟩ := F.2.1.1 ci _ hc
  obtain ⟨cf, kf, fi, f, hi2, hsl⟩ := hS k hk
  have hlay := F.1.2.2.2.2 _ (hin _ (u_in_lay hk))
  unfold u_lay at hlay
  rw [if_neg (by rw [hfin]; decide)] at hlay
  have hst := (u_facts hfc hkC (u_lays F.1.2.2.2.2 hin hk) hi2).1
  have h6 := u_store hfc hkC hkind hlay hi2 hdt hn hfit
  refine W.putK F.1.1 F.1.2.1 (f := f) ⟨F.1.2.2.2.1, F.w hw, ⟨_, _, _, hi2⟩, hst⟩ (by rw [q2]; exact h6) q1 q3 (by rw [hsl]; exact k2_hasslot (q4 k hk)) rfl rfl hd fun H' e1 e2 e3 => ?_
  rw [hsl] at e1 ⊢
  refine kk H' _ ls (h1.put F.2.2.2.1 hi ?_ e3 (fun a b hab => cvv_cong (fun j => up3_n (fun q => hab ⟨q.1, q.2.1⟩)) (fun _ _ => rfl))) (h2.put e2 e3 (F.2.2.2.2 K i hi)) h3
  rw [he']
  exact ⟨_, hc, t_OB.to (V := updV (vp_V fs) k (.int x)) ⟨_, e1, q2, q3, t_set q4 hap hk (.int x)⟩ (fun j _ => vp_updV_set hl (.int x) j)⟩
theorem g_iald (F : FX p s m args c cc nL own G A) {K i n : Nat} {f : Nat → Int32} {x : Int32} (hi : i < cbK K) (he : cvv G.2.1 G.2.2 I pm K i = .inl (G.2.1 1, n, .inl f)) (hx : vp_in x n) (hd : decode cc pc = .ok (.iaload, 1)) (kk : GG p l e R s m args below meth c G A nL ce sl Q I pm L (pc + 1) (.int (f x.toNatClampNeg) :: rest)) : GG p l e R s m args below meth c G A nL ce sl Q I pm L pc (.int x :: .ref (G.2.2 K i) :: rest) := fun H locs ls h1 h2 h3 =>
  va_iald (D := G.1) (cl := vwCl) (tys := tyz G) (ws := [(G.2.2 K i, .inl (G.2.1 1, n, .inl f))]) F.1.1 F.1.2.1 F.2.1 (he ▸ h1.one hi) 0 1 rfl rfl hx hd (kk H locs ls h1 h2 h3)
theorem g_zald (F : FX p s m args c cc nL own G A) {K i n : Nat} {f : Nat → Int32} {x : Int32} (hi : i < cbK K) (he : cvv G.2.1 G.2.2 I pm K i = .inl (G.2.1 2, n, .inl f)) (hx : vp_in x n) (hd : decode cc pc = .ok (.baload, 1)) (kk : GG p l e R s m args below meth c G A nL ce sl Q I pm L (pc + 1) (.int (f x.toNatClampNeg) :: rest)) : GG p l e R s m args below meth c G A nL ce sl Q I pm L pc (.int x :: .ref (G.2.2 K i) :: rest) := fun H locs ls h1 h2 h3 =>
  va_zald (D := G.1) (cl := vwCl) (tys := tyz G) (ws := [(G.2.2 K i, .inl (G.2.1 2, n, .inl f))]) F.1.1 F.1.2.1 F.2.1 (he ▸ h1.one hi) 0 2 rfl rfl hx hd (kk H locs ls h1 h2 h3)
theorem g_cald (F : FX p s m args c cc nL own G A) {K i n : Nat} {f : Nat → Int32} {x : Int32} (hi : i < cbK K) (he : cvv G.2.1 G.2.2 I pm K i = .inl (G.2.1 0, n, .inl f)) (hx : vp_in x n) (hd : decode cc pc = .ok (.caload, 1)) (kk : GG p l e R s m args below meth c G A nL ce sl Q I pm L (pc + 1) (.int (f x.toNatClampNeg) :: rest)) : GG p l e R s m args below meth c G A nL ce sl Q I pm L pc (.int x :: .ref (G.2.2 K i) :: rest) := fun H locs ls h1 h2 h3 =>
  va_cald (D := G.1) (cl := vwCl) (tys := tyz G) (ws := [(G.2.2 K i, .inl (G.2.1 0, n, .inl f))]) F.1.1 F.1.2.1 F.2.1 (he ▸ h1.one hi) 0 0 rfl rfl hx hd (kk H locs ls h1 h2 h3)
theorem g_aald (F : FX p s m args c cc nL own G A) {K i n : Nat} {t0 : Nat} {cA : ClassId} {C : String} {f : Nat → Option Nat} {x : Int32} {a : Nat} (hi : i < cbK K) (he : cvv G.2.1 G.2.2 I pm K i = .inl (cA, n, .inr (.inr (.inr (.inr f))))) (ht : (tyz G)[t0]? = some (cA, .object C)) (hx : vp_in x n) (hf : f x.toNatClampNeg = some a) (hd : decode cc pc = .ok (.aaload, 1)) (kk : GG p l e R s m args below meth c G A nL ce sl Q I pm L (pc + 1) (.ref a :: rest)) : GG p l e R s m args below meth c G A nL ce sl Q I pm L pc (.int x :: .ref (G.2.2 K i) :: rest) := fun H locs ls h1 h2 h3 =>
  va_aldq (D := G.1) (cl := vwCl) (tys := tyz G) (ws := [(G.2.2 K i, .inl (cA, n, .inr (.inr (.inr (.inr f)))))]) F.1.1 F.1.2.1 F.2.1 (he ▸ h1.one hi) 0 t0 rfl ht hx hd (by rw [hf]; exact kk H locs ls h1 h2 h3)
theorem g_iast (F : FX p s m args c cc nL own G A) {K i n : Nat} {f : Nat → Int32} {j x : Int32} (hi : i < cbK K) (he : cvv G.2.1 G.2.2 I pm K i = .inl (G.2.1 1, n, .inl f)) (hx : vp_in j n) (he' : cvv G.2.1 G.2.2 (up3 I K i j.toNatClampNeg x) pm K i = .inl (G.2.1 1, n, .inl (upd f j.toNatClampNeg x))) (hd : decode cc pc = .ok (.iastore, 1)) (kk : GG p l e R s m args below meth c G A nL ce sl Q (up3 I K i j.toNatClampNeg x) pm L (pc + 1) rest) : GG p l e R s m args below meth c G A nL ce sl Q I pm L pc (.int x :: .int j :: .ref (G.2.2 K i) :: rest) := by
  intro H locs ls h1 h2 h3
  have h10 := h1 K i hi
  rw [he] at h10
  refine W.iast F.1.1 F.1.2.1 (H := H) h10 ((F.2.1.2 1 _ rfl).1 n (fun j => .int (f j))) (fun q => by cases q) (by show ¬ (j < 0 ∨ (arrV _ _ _).slots.size ≤ _); rw [arrV_size]; exact hx) rfl rfl hd fun H1 e z oq => ?_
  refine kk H1 _ ls (h1.put F.2.2.2.1 hi ?_ oq (fun a b hab => cvv_cong (fun j => up3_n (fun q => hab ⟨q.1, q.2.1⟩)) (fun _ _ => rfl))) (h2.put z oq (F.2.2.2.2 K i hi)) h3
  rw [he']
  show H1[G.2.2 K i]? = some (vp_cell _ _)
  rw [e, vp_cell_i, vp_cell_i, arrV_store]
  congr 2
  funext q
  by_cases hq : q = j.toNatClampNeg
  · subst hq
    simp [updV, upd]
  · simp [updV, upd, hq]
theorem g_zast (F : FX p s m args c cc nL own G A) {K i n : Nat} {f : Nat → Int32} {j x : Int32} (hi : i < cbK K) (he : cvv G.2.1 G.2.2 I pm K i = .inl (G.2.1 2, n, .inl f)) (hx : vp_in j n) (hn : narrow .boolean (.int x) = .int x) (he' : cvv G.2.1 G.2.2 (up3 I K i j.toNatClampNeg x) pm K i = .inl (G.2.1 2, n, .inl (upd f j.toNatClampNeg x))) (hd : decode cc pc = .ok (.bastore, 1)) (kk : GG p l e R s m args below meth c G A nL ce sl Q (up3 I K i j.toNatClampNeg x) pm L (pc + 1) rest) : GG p l e R s m args below meth c G A nL ce sl Q I pm L pc (.int x :: .int j :: .ref (G.2.2 K i) :: rest) := by
  intro H locs ls h1 h2 h3
  have h10 := h1 K i hi
  rw [he] at h10
  refine W.zast F.1.1 F.1.2.1 (H := H) h10 ((F.2.1.2 2 _ rfl).1 n (fun j => .int (f j))) (fun q => by cases q) (by show ¬ (j < 0 ∨ (arrV _ _ _).slots.size ≤ _); rw [arrV_size]; exact hx) rfl rfl hd fun H1 e z oq => ?_
  refine kk H1 _ ls (h1.put F.2.2.2.1 hi ?_ oq (fun a b hab => cvv_cong (fun j => up3_n (fun q => hab ⟨q.1, q.2.1⟩)) (fun _ _ => rfl))) (h2.put z oq (F.2.2.2.2 K i hi)) h3
  rw [he']
  show H1[G.2.2 K i]? = some (vp_cell _ _)
  rw [hn] at e
  rw [e, vp_cell_i, vp_cell_i, arrV_store]
  congr 2
  funext q
  by_cases hq : q = j.toNatClampNeg
  · subst hq
    simp [updV, upd]
  · simp [updV, upd, hq]
theorem g_cast (F : FX p s m args c cc nL own G A) {K i n : Nat} {f : Nat → Int32} {j x : Int32} (hi : i < cbK K) (he : cvv G.2.1 G.2.2 I pm K i = .inl (G.2.1 0, n, .inl f)) (hx : vp_in j n) (hn : narrow .char (.int x) = .int x) (he' : cvv G.2.1 G.2.2 (up3 I K i j.toNatClampNeg x) pm K i = .inl (G.2.1 0, n, .inl (upd f j.toNatClampNeg x))) (hd : decode cc pc = .ok (.castore, 1)) (kk : GG p l e R s m args below meth c G A nL ce sl Q (up3 I K i j.toNatClampNeg x) pm L (pc + 1) rest) : GG p l e R s m args below meth c G A nL ce sl Q I pm L pc (.int x :: .int j :: .ref (G.2.2 K i) :: rest) := by
  intro H locs ls h1 h2 h3
  have h10 := h1 K i hi
  rw [he] at h10
  refine W.cast F.1.1 F.1.2.1 (H := H) h10 ((F.2.1.2 0 _ rfl).1 n (fun j => .int (f j))) (fun q => by cases q) (by show ¬ (j < 0 ∨ (arrV _ _ _).slots.size ≤ _); rw [arrV_size]; exact hx) rfl rfl hd fun H1 e z oq => ?_
  refine kk H1 _ ls (h1.put F.2.2.2.1 hi ?_ oq (fun a b hab => cvv_cong (fun j => up3_n (fun q => hab ⟨q.1, q.2.1⟩)) (fun _ _ => rfl))) (h2.put z oq (F.2.2.2.2 K i hi)) h3
  rw [he']
  show H1[G.2.2 K i]? = some (vp_cell _ _)
  rw [hn] at e
  rw [e, vp_cell_i, vp_cell_i, arrV_store]
  congr 2
  funext q
  by_cases hq : q = j.toNatClampNeg
  · subst hq
    simp [updV, upd]
  · simp [updV, upd, hq]
/-- a loco is laid into a layout's row -/
theorem g_aast (F : FX p s m args c cc nL own G A) {i v : Nat} {j : Int32} (hi : i < 11) (hv : v < 8) (hx : vp_in j 8) (hd : decode cc pc = .ok (.aastore, 1)) (kk : GG p l e R s m args below meth c G A nL ce sl Q I (upP pm i j.toNatClampNeg v) L (pc + 1) rest) : GG p l e R s m args below meth c G A nL ce sl Q I pm L pc (.ref (G.2.2 7 (8 * i + v)) :: .int j :: .ref (G.2.2 1 i) :: rest) := by
  intro H locs ls h1 h2 h3
  have h10 := h1 1 i hi
  have h7 : 8 * i + v < cbK 7 := by show _ < 88; omega
  have h70 := h1 7 (8 * i + v) h7
  obtain ⟨r', hr', cellV, g1, g2, g3, -⟩ := h70
  have hcls := (F.2.1.1 2 (RX2, TX2, 11) rfl).2
  obtain ⟨kA, comp, k1, k2, k3, -⟩ := (F.2.1.2 4 _ rfl).2
  have hcomp : comp = G.1.1 2 := Option.some.inj (k3.symm.trans hcls.1)
  subst hcomp
  obtain ⟨kC, hkC, -⟩ := hcls.2
  refine W.aast F.1.1 F.1.2.1 (H := H) h10 (fun q h => by cases h) (fun h => by cases h) k1 k2 rfl hkC ⟨fun q => hx (Or.inl q), by show _ < (arrV _ _ _).slots.size; rw [arrV_size]; exact Nat.not_le.mp fun q => hx (Or.inr q)⟩ g1 (fun q h => by rw [g3] at h; cases h) (by rw [g2]; exact hkC) (by rw [g2]; exact va_assign hcls) rfl rfl hd fun H1 e z oq => ?_
  refine kk H1 _ ls (h1.put F.2.2.2.1 hi ?_ oq (fun a b hab => cvv_cong (fun j => rfl) (fun ha r => by simp only [upP]; rw [if_neg (fun q => hab ⟨ha, q.1⟩)]))) (h2.put z oq (F.2.2.2.2 1 i hi)) h3
  show H1[G.2.2 1 i]? = some (vp_cell (G.2.1 4) (8, .inr (.inr (.inr (.inr _)))))
  rw [e]
  show some (Cell.setSlot (vp_cell (G.2.1 4) (8, .inr (.inr (.inr (.inr (fun r => some (G.2.2 7 (8 * i + pm i r)))))))) _ _) = _
  rw [vp_cell_q, vp_cell_q, arrV_store]
  congr 2
  funext q
  by_cases hq : q = j.toNatClampNeg
  · subst hq
    simp [updV, upP, va_rf]
  · simp [updV, upP, hq]
/-- System.arraycopy of a whole row of ints onto another -/
theorem g_copyi (F : FX p s m args c cc nL own G A) {index K i K' i' n : Nat} {f g : Nat → Int32} {z : Int32} (hi : i < cbK K) (hi' : i' < cbK K') (he : cvv G.2.1 G.2.2 I pm K i = .inl (G.2.1 1, n, .inl f)) (he2 : cvv G.2.1 G.2.2 I pm K' i' = .inl (G.2.1 1, n, .inl g)) (hw : Cond.methodLink own index arraycopyName ∈ wsL_law) (hw2 : Cond.native arraycopyName ∈ wsL_law) (hw3 : Cond.static arraycopyName ∈ wsL_law) (hw4 : Cond.initialized "java/lang/System" ∈ wsL_law) (hz : z = nI n) (hn : n < 2 ^ 31) (hR : 1 ≤ R.frames ∧ (rest.map fun v => v.category).sum + (nativeFrameWords "java/lang/System" "arraycopy" 5 + 11) ≤ R.locals)
    (he' : cvv G.2.1 G.2.2 (upR I K' i' (va_cpy f g 0 0 n)) pm K' i' = .inl (G.2.1 1, n, .inl (va_cpy f g 0 0 n))) (hd : decode cc pc = .ok (.invokestatic index, 3)) (kk : GG p l e R s m args below meth c G A nL ce sl Q (upR I K' i' (va_cpy f g 0 0 n)) pm L (pc + 3) rest) : GG p l e R s m args below meth c G A nL ce sl Q I pm L pc (.int z :: .int 0 :: .ref (G.2.2 K' i') :: .int 0 :: .ref (G.2.2 K i) :: rest) := by
  intro H locs ls h1 h2 h3
  have hc0 : H[G.2.2 K i]? = some (vp_cell (G.2.1 1) (n, .inl f)) := by have q := h1 K i hi; rw [he] at q; exact q
  have hc1 : H[G.2.2 K' i']? = some (vp_cell (G.2.1 1) (n, .inl g)) := by have q := h1 K' i' hi'; rw [he2] at q; exact q
  subst hz
  have hcl : (nI n).toNatClampNeg = n := nI_clamp hn
  have hn0 : ¬ nI n < 0 := nI_pos hn
  have hnt : (nI n).toInt = (n : Int) := nI_toInt hn
  have z0 : (0 : Int32).toNatClampNeg = 0 := rfl
  intro T hT X
  obtain ⟨-, k0, hk0, cm0, hkk0⟩ := (F.2.1.2 1 _ rfl).1 n (fun j => .int (f j))
  obtain ⟨-, k1, hk1, cm1, hkk1⟩ := (F.2.1.2 1 _ rfl).1 n (fun j => .int (g j))
  obtain ⟨vm', X', step⟩ := X.arraycopy F.1.1 F.1.2.2.2.1 (F.w hw) (F.w hw2) (F.w hw3) (F.w hw4) (src := G.2.2 K i) (dst := G.2.2 K' i') (cs := vp_cell (G.2.1 1) (n, .inl f)) (cd := vp_cell (G.2.1 1) (n, .inl g)) (srcPos := 0) (destPos := 0) (n := nI n) (by rw [hT]; exact hc0) (by rw [hT]; exact hc1)
    (fun _ h => by cases h) (fun _ h => by cases h) (fun h => by cases h) (fun h => by cases h) hk0 hk1 hkk0 hkk1 (by simp [refKind]) (by decide) (by decide) hn0
    (by rw [hnt]; show ¬ _ > ((arrV (G.2.1 1) n (fun j => .int (f j))).slots.size : Int); rw [arrV_size]; simp)
    (by rw [hnt]; show ¬ _ > ((arrV (G.2.1 1) n (fun j => .int (g j))).slots.size : Int); rw [arrV_size]; simp)
    (fun vm₁ _ a ha => by
      rw [hcl] at ha
      have ee : (vp_cell (G.2.1 1) (n, .inl f)).slots.getD ((0 : Int32).toNatClampNeg + a) .null = .int (f a) := by
        show (arrV (G.2.1 1) n (fun j => .int (f j))).slots.getD _ _ = _
        rw [z0, Nat.zero_add, Array.getD_eq_getD_getElem?, arrV_read _ _ ha]
        rfl
      refine ⟨?_, ?_⟩
      · rw [ee]; rfl
      · rw [ee]
        exact trivial)
    (g := F0 m pc ls (.int (nI n) :: .int 0 :: .ref (G.2.2 K' i') :: .int 0 :: .ref (G.2.2 K i) :: rest)) rfl (by rw [F.1.2.2.1]; exact h3.1) (rest := rest) rfl (by rw [F.1.2.1]; exact hd) hR.1 (by show 2 * 0 + _ + _ ≤ _; have := hR.2; omega)
  have e1 : copied (vp_cell (G.2.1 1) (n, .inl f)) (vp_cell (G.2.1 1) (n, .inl g)) 0 0 (nI n) = vp_cell (G.2.1 1) (n, .inl (va_cpy f g 0 0 n)) := by
    have q := va_copied (fun z => Value.int z) (G.2.1 1) (G.2.1 1) f g (n0 := n) (n1 := n) (sp := (0 : Int32).toNatClampNeg) (dp := (0 : Int32).toNatClampNeg) (n := (nI n).toNatClampNeg) (by rw [hcl, z0]; omega)
    have q2 : copied (vp_cell (G.2.1 1) (n, .inl f)) (vp_cell (G.2.1 1) (n, .inl g)) 0 0 (nI n) = vp_cell (G.2.1 1) (n, .inl (va_cpy f g (0 : Int32).toNatClampNeg (0 : Int32).toNatClampNeg (nI n).toNatClampNeg)) := q
    rw [hcl, z0] at q2
    exact q2
  rw [e1] at X' step
  have hl : G.2.2 K' i' < H.size := (Array.getElem?_eq_some_iff.mp hc1).1
  have hheap : ((T.setVm vm').setCell (G.2.2 K' i') (vp_cell (G.2.1 1) (n, .inl (va_cpy f g 0 0 n)))).heap = H.setIfInBounds (G.2.2 K' i') (vp_cell (G.2.1 1) (n, .inl (va_cpy f g 0 0 n))) := by rw [← hT]; rfl
  have oq : ∀ q : Nat, q ≠ G.2.2 K' i' → (H.setIfInBounds (G.2.2 K' i') (vp_cell (G.2.1 1) (n, .inl (va_cpy f g 0 0 n))))[q]? = H[q]? := fun q hq => by simp [Array.getElem?_setIfInBounds, Ne.symm hq]
  obtain ⟨t, a1, b1⟩ := kk _ _ ls (h1.put F.2.2.2.1 hi' (by rw [he']; exact (show (H.setIfInBounds (G.2.2 K' i') _)[G.2.2 K' i']? = some _ by simp [Array.getElem?_setIfInBounds, hl])) oq (fun a b hab => cvv_cong (fun j => upR_n hab) (fun _ _ => rfl))) ⟨by simp; exact h2.1, fun q g1 g2 => by
      rw [oq q (fun e => g2 (by rw [e]; exact F.2.2.2.2 K' i' hi'))]
      exact h2.2.1 q g1 g2, fun q hq => by
      rcases List.mem_append.mp hq with h | h
      · exact h2.2.2 q h
      · obtain ⟨z, -, hz⟩ := List.mem_map.mp h
        rw [← hz]
        exact F.2.2.2.2 K' i' hi'⟩ h3 _ hheap X'
  exact ⟨t, step t a1, b1⟩
theorem g_mmax (F : FX p s m args c cc nL own G A) {index : Nat} {x y : Int32} (hw : Cond.methodLink own index Lib.Math.max.name ∈ wsL_law) (hw2 : Cond.static Lib.Math.max.name ∈ wsL_law) (hw3 : Cond.initialized "java/lang/Math" ∈ wsL_law) (hw4 : Cond.code Lib.Math.max.name Lib.Math.max.code 2 (some .int) ∈ wsL_law) (hR : 1 ≤ R.frames ∧ (rest.map fun v => v.category).sum + 13 ≤ R.locals ∧ ce ≤ R.cells ∧ sl ≤ R.slots) (hd : decode cc pc = .ok (.invokestatic index, 3)) (k : GG p l e R s m args below meth c G A nL ce sl Q I pm L (pc + 3) (.int (if x < y then y else x) :: rest)) : GG p l e R s m args below meth c G A nL ce sl Q I pm L pc (.int y :: .int x :: rest) := fun H locs ls h1 h2 h3 => va_mmax F.1.1 F.1.2.1 (by rw [F.1.2.2.1]; exact h3.1.symm) F.1.2.2.2.1 (F.w hw) (F.w hw2) (F.w hw3) (F.w hw4) hR.1 hR.2.1 hR.2.2.1 hR.2.2.2 hd (k H locs ls h1 h2 h3)
theorem g_mmin (F : FX p s m args c cc nL own G A) {index : Nat} {x y : Int32} (hw : Cond.methodLink own index Lib.Math.min.name ∈ wsL_law) (hw2 : Cond.static Lib.Math.min.name ∈ wsL_law) (hw3 : Cond.initialized "java/lang/Math" ∈ wsL_law) (hw4 : Cond.code Lib.Math.min.name Lib.Math.min.code 2 (some .int) ∈ wsL_law) (hR : 1 ≤ R.frames ∧ (rest.map fun v => v.category).sum + 13 ≤ R.locals ∧ ce ≤ R.cells ∧ sl ≤ R.slots) (hd : decode cc pc = .ok (.invokestatic index, 3)) (k : GG p l e R s m args below meth c G A nL ce sl Q I pm L (pc + 3) (.int (if y < x then y else x) :: rest)) : GG p l e R s m args below meth c G A nL ce sl Q I pm L pc (.int y :: .int x :: rest) := fun H locs ls h1 h2 h3 => va_mmin F.1.1 F.1.2.1 (by rw [F.1.2.2.1]; exact h3.1.symm) F.1.2.2.2.1 (F.w hw) (F.w hw2) (F.w hw3) (F.w hw4) hR.1 hR.2.1 hR.2.2.1 hR.2.2.2 hd (k H locs ls h1 h2 h3)
theorem g_mabs (F : FX p s m args c cc nL own G A) {index : Nat} {x : Int32} (hw : Cond.methodLink own index Lib.Math.abs.name ∈ wsL_law) (hw2 : Cond.static Lib.Math.abs.name ∈ wsL_law) (hw3 : Cond.initialized "java/lang/Math" ∈ wsL_law) (hw4 : Cond.code Lib.Math.abs.name Lib.Math.abs.code 1 (some .int) ∈ wsL_law) (hR : 1 ≤ R.frames ∧ (rest.map fun v => v.category).sum + 13 ≤ R.locals ∧ ce ≤ R.cells ∧ sl ≤ R.slots) (hd : decode cc pc = .ok (.invokestatic index, 3)) (k : GG p l e R s m args below meth c G A nL ce sl Q I pm L (pc + 3) (.int (if 0 ≤ x then x else 0 - x) :: rest)) : GG p l e R s m args below meth c G A nL ce sl Q I pm L pc (.int x :: rest) := fun H locs ls h1 h2 h3 => va_mabs F.1.1 F.1.2.1 (by rw [F.1.2.2.1]; exact h3.1.symm) F.1.2.2.2.1 (F.w hw) (F.w hw2) (F.w hw3) (F.w hw4) hR.1 hR.2.1 hR.2.2.1 hR.2.2.2 hd (k H locs ls h1 h2 h3)
theorem g_callIv (F : FX p s m args c cc nL own G A) {y : MethodName} {b : ByteArray} {n na index ci : Nat} {ret : Option FieldType} {rm : Room} {As : List Value} {post : Int32 → Ii × Pm → Prop} {fs : List Value} {q : vw_C} (K i : Nat) (hM : CI l G y (wz y b n ret) rm (.ref (G.2.2 K i) :: As) I pm post) (hi : i < cbK K) (he : cvv G.2.1 G.2.2 I pm K i = .inr (ci, fs)) (hc : vwCl[ci]? = some q) (hlk : GoodIn wsL_law (wsV own index q.1 y (wz y b n ret))) (hst : st = As.reverse ++ .ref (G.2.2 K i) :: rest) (hna : As.length = na) (hdy : y.cls = q.1 ∧ y.cls ≠ "java/lang/invoke/MethodHandle" ∧ y.cls ≠ "java/lang/invoke/VarHandle" ∧ (parseMethodDescriptor y.desc).map (fun d => d.parameters.length) = some na) (hrm : rm.cells = 0 ∧ rm.slots = 0 ∧ rm.frames + 1 ≤ R.frames ∧ 8 + (n + 11) + rm.locals ≤ R.locals ∧ ce ≤ R.cells ∧ sl ≤ R.slots ∧ (rest.map fun v => v.category).sum ≤ 8) (hd : decode cc pc = .ok (.invokevirtual index, 3)) (kk : ∀ (r : Int32) (u : Ii × Pm), post r u → GG p l e R s m args below meth c G A nL ce sl Q u.1 u.2 L (pc + 3) (.int r :: rest)) : GG p l e R s m args below meth c G A nL ce sl Q I pm L pc st := fun H locs ls h1 h2 h3 => by
  subst hst
  exact va_calli (va_runV (As := As) (rest := rest) F.1 hM (cwV na F.1.2.2.2.2 hlk rfl hrm.1 hrm.2.1 hdy ⟨hrm.2.2.1, hrm.2.2.2.1⟩) ⟨PP.blind, va_recv (q0 := 0) F.2.1 (h1.one hi) hc (congrArg (fun z => some (G.2.2 K i, z)) he), fun U hU hW => ⟨rfl, by rw [hU]; exact h1, va_K.moved hW.alike F.2.1, NN.warm hW F.2.2.1⟩⟩ rfl hna h3.1 rfl (lv_room hrm.2.2.2.2.2.2) hd ⟨hrm.2.2.2.2.1, hrm.2.2.2.2.2.1⟩) h2 (fun q _ hq => by obtain ⟨a, b, hb, rfl⟩ := hq; exact F.2.2.2.2 a b hb) (fun q hq => by obtain ⟨a, b, hb, rfl⟩ := hq; exact F.2.2.2.2 a b hb) (fun r u t H1 locs1 ht hvm hw hB hz hk hS => kk r u hw H1 locs1 ls (by rw [← ht]; exact hB) hS h3)
theorem g_callIs (F : FX p s m args c cc nL own G A) {y : MethodName} {b : ByteArray} {n na index : Nat} {ret : Option FieldType} {rm : Room} {As : List Value} {post : Int32 → Ii × Pm → Prop} (hM : CI l G y (wz y b n ret) rm As I pm post) (hlk : GoodIn wsL_law (va_wsS own index y (wz y b n ret))) (hst : st = As.reverse ++ rest) (hna : As.length = na) (hdy : y.cls ≠ "java/lang/invoke/MethodHandle" ∧ y.cls ≠ "java/lang/invoke/VarHandle" ∧ (parseMethodDescriptor y.desc).map (fun d => d.parameters.length) = some na) (hrm : rm.cells = 0 ∧ rm.slots = 0 ∧ rm.frames + 1 ≤ R.frames ∧ 8 + (n + 11) + rm.locals ≤ R.locals ∧ ce ≤ R.cells ∧ sl ≤ R.slots ∧ (rest.map fun v => v.category).sum ≤ 8) (hd : decode cc pc = .ok (.invokestatic index, 3)) (kk : ∀ (r : Int32) (u : Ii × Pm), post r u → GG p l e R s m args below meth c G A nL ce sl Q u.1 u.2 L (pc + 3) (.int r :: rest)) : GG p l e R s m args below meth c G A nL ce sl Q I pm L pc st := fun H locs ls h1 h2 h3 => by
  subst hst
  exact va_calli (va_runS (As := As) (rest := rest) F.1 hM (va_cwS na F.1.2.2.2.2 hlk rfl hrm.1 hrm.2.1 hdy ⟨hrm.2.2.1, hrm.2.2.2.1⟩) ⟨PP.blind, fun U hU hW => ⟨rfl, by rw [hU]; exact h1, va_K.moved hW.alike F.2.1, NN.warm hW F.2.2.1⟩⟩ rfl hna h3.1 rfl (lv_room hrm.2.2.2.2.2.2) hd ⟨hrm.2.2.2.2.1, hrm.2.2.2.2.2.1⟩) h2 (fun q _ hq => by obtain ⟨a, b, hb, rfl⟩ := hq; exact F.2.2.2.2 a b hb) (fun q hq => by obtain ⟨a, b, hb, rfl⟩ := hq; exact F.2.2.2.2 a b hb) (fun r u t H1 locs1 ht hvm hw hB hz hk hS => kk r u hw H1 locs1 ls (by rw [← ht]; exact hB) hS h3)
theorem g_callIn (F : FX p s m args c cc nL own G A) {y : MethodName} {b : ByteArray} {n na index : Nat} {host : String} {ret : Option FieldType} {rm : Room} {As : List Value} {post : Int32 → Ii × Pm → Prop} (hM : CI l G y (wz y b n ret) rm As I pm post) (hgd : GoodIn wsL_law (wz y b n ret)) (hnest : va_Nw (.methodLinkNest own index y host) s) (hw : Cond.static y ∈ wsL_law) (hw2 : Cond.initialized y.cls ∈ wsL_law) (hst : st = As.reverse ++ rest) (hna : As.length = na) (hdy : y.cls ≠ "java/lang/invoke/MethodHandle" ∧ y.cls ≠ "java/lang/invoke/VarHandle" ∧ (parseMethodDescriptor y.desc).map (fun d => d.parameters.length) = some na) (hrm : rm.cells = 0 ∧ rm.slots = 0 ∧ rm.frames + 1 ≤ R.frames ∧ 8 + (n + 11) + rm.locals ≤ R.locals ∧ ce ≤ R.cells ∧ sl ≤ R.slots ∧ (rest.map fun v => v.category).sum ≤ 8) (hd : decode cc pc = .ok (.invokestatic index, 3)) (kk : ∀ (r : Int32) (u : Ii × Pm), post r u → GG p l e R s m args below meth c G A nL ce sl Q u.1 u.2 L (pc + 3) (.int r :: rest)) : GG p l e R s m args below meth c G A nL ce sl Q I pm L pc st := fun H locs ls h1 h2 h3 => by
  subst hst
  exact va_calli (va_runSN (As := As) (rest := rest) F.1 hM ⟨va_cnB na F.1.2.2.2.2 hgd rfl hrm.1 hrm.2.1 hnest (F.w hw2) hdy ⟨hrm.2.2.1, hrm.2.2.2.1⟩, F.w hw, trivial⟩ ⟨PP.blind, fun U hU hW => ⟨rfl, by rw [hU]; exact h1, va_K.moved hW.alike F.2.1, NN.warm hW F.2.2.1⟩⟩ rfl hna h3.1 rfl (lv_room hrm.2.2.2.2.2.2) hd ⟨hrm.2.2.2.2.1, hrm.2.2.2.2.2.1⟩) h2 (fun q _ hq => by obtain ⟨a, b, hb, rfl⟩ := hq; exact F.2.2.2.2 a b hb) (fun q hq => by obtain ⟨a, b, hb, rfl⟩ := hq; exact F.2.2.2.2 a b hb) (fun r u t H1 locs1 ht hvm hw hB hz hk hS => kk r u hw H1 locs1 ls (by rw [← ht]; exact hB) hS h3)
theorem g_callVv (F : FX p s m args c cc nL own G A) {y : MethodName} {b : ByteArray} {n na index ci : Nat} {ret : Option FieldType} {rm : Room} {As : List Value} {post : Ii × Pm → Prop} {fs : List Value} {q : vw_C} (K i : Nat) (hM : CV l G y (wz y b n ret) rm (.ref (G.2.2 K i) :: As) I pm post) (hi : i < cbK K) (he : cvv G.2.1 G.2.2 I pm K i = .inr (ci, fs)) (hc : vwCl[ci]? = some q) (hlk : GoodIn wsL_law (wsV own index q.1 y (wz y b n ret))) (hst : st = As.reverse ++ .ref (G.2.2 K i) :: rest) (hna : As.length = na) (hdy : y.cls = q.1 ∧ y.cls ≠ "java/lang/invoke/MethodHandle" ∧ y.cls ≠ "java/lang/invoke/VarHandle" ∧ (parseMethodDescriptor y.desc).map (fun d => d.parameters.length) = some na) (hrm : rm.cells = 0 ∧ rm.slots = 0 ∧ rm.frames + 1 ≤ R.frames ∧ 8 + (n + 11) + rm.locals ≤ R.locals ∧ ce ≤ R.cells ∧ sl ≤ R.slots ∧ (rest.map fun v => v.category).sum ≤ 8) (hd : decode cc pc = .ok (.invokevirtual index, 3)) (kk : ∀ (u : Ii × Pm), post u → GG p l e R s m args below meth c G A nL ce sl Q u.1 u.2 L (pc + 3) rest) : GG p l e R s m args below meth c G A nL ce sl Q I pm L pc st := fun H locs ls h1 h2 h3 => by
  subst hst
  exact va_callv (va_runV (As := As) (rest := rest) F.1 hM (cwV na F.1.2.2.2.2 hlk rfl hrm.1 hrm.2.1 hdy ⟨hrm.2.2.1, hrm.2.2.2.1⟩) ⟨PP.blind, va_recv (q0 := 0) F.2.1 (h1.one hi) hc (congrArg (fun z => some (G.2.2 K i, z)) he), fun U hU hW => ⟨rfl, by rw [hU]; exact h1, va_K.moved hW.alike F.2.1, NN.warm hW F.2.2.1⟩⟩ rfl hna h3.1 rfl (lv_room hrm.2.2.2.2.2.2) hd ⟨hrm.2.2.2.2.1, hrm.2.2.2.2.2.1⟩) h2 (fun q _ hq => by obtain ⟨a, b, hb, rfl⟩ := hq; exact F.2.2.2.2 a b hb) (fun q hq => by obtain ⟨a, b, hb, rfl⟩ := hq; exact F.2.2.2.2 a b hb) (fun u t H1 locs1 ht hvm hw hB hz hk hS => kk u hw H1 locs1 ls (by rw [← ht]; exact hB) hS h3)
theorem g_callVs (F : FX p s m args c cc nL own G A) {y : MethodName} {b : ByteArray} {n na index : Nat} {ret : Option FieldType} {rm : Room} {As : List Value} {post : Ii × Pm → Prop} (hM : CV l G y (wz y b n ret) rm As I pm post) (hlk : GoodIn wsL_law (va_wsS own index y (wz y b n ret))) (hst : st = As.reverse ++ rest) (hna : As.length = na) (hdy : y.cls ≠ "java/lang/invoke/MethodHandle" ∧ y.cls ≠ "java/lang/invoke/VarHandle" ∧ (parseMethodDescriptor y.desc).map (fun d => d.parameters.length) = some na) (hrm : rm.cells = 0 ∧ rm.slots = 0 ∧ rm.frames + 1 ≤ R.frames ∧ 8 + (n + 11) + rm.locals ≤ R.locals ∧ ce ≤ R.cells ∧ sl ≤ R.slots ∧ (rest.map fun v => v.category).sum ≤ 8) (hd : decode cc pc = .ok (.invokestatic index, 3)) (kk : ∀ (u : Ii × Pm), post u → GG p l e R s m args below meth c G A nL ce sl Q u.1 u.2 L (pc + 3) rest) : GG p l e R s m args below meth c G A nL ce sl Q I pm L pc st := fun H locs ls h1 h2 h3 => by
  subst hst
  exact va_callv (va_runS (As := As) (rest := rest) F.1 hM (va_cwS na F.1.2.2.2.2 hlk rfl hrm.1 hrm.2.1 hdy ⟨hrm.2.2.1, hrm.2.2.2.1⟩) ⟨PP.blind, fun U hU hW => ⟨rfl, by rw [hU]; exact h1, va_K.moved hW.alike F.2.1, NN.warm hW F.2.2.1⟩⟩ rfl hna h3.1 rfl (lv_room hrm.2.2.2.2.2.2) hd ⟨hrm.2.2.2.2.1, hrm.2.2.2.2.2.1⟩) h2 (fun q _ hq => by obtain ⟨a, b, hb, rfl⟩ := hq; exact F.2.2.2.2 a b hb) (fun q hq => by obtain ⟨a, b, hb, rfl⟩ := hq; exact F.2.2.2.2 a b hb) (fun u t H1 locs1 ht hvm hw hB hz hk hS => kk u hw H1 locs1 ls (by rw [← ht]; exact hB) hS h3)
theorem g_callQv (F : FX p s m args c cc nL own G A) {y : MethodName} {b : ByteArray} {n na index ci : Nat} {ret : Option FieldType} {rm : Room} {As : List Value} {post : Option Nat → Ii × Pm → Prop} {fs : List Value} {q : vw_C} (K i : Nat) (hM : CQ l G y (wz y b n ret) rm (.ref (G.2.2 K i) :: As) I pm post) (hi : i < cbK K) (he : cvv G.2.1 G.2.2 I pm K i = .inr (ci, fs)) (hc : vwCl[ci]? = some q) (hlk : GoodIn wsL_law (wsV own index q.1 y (wz y b n ret))) (hst : st = As.reverse ++ .ref (G.2.2 K i) :: rest) (hna : As.length = na) (hdy : y.cls = q.1 ∧ y.cls ≠ "java/lang/invoke/MethodHandle" ∧ y.cls ≠ "java/lang/invoke/VarHandle" ∧ (parseMethodDescriptor y.desc).map (fun d => d.parameters.length) = some na) (hrm : rm.cells = 0 ∧ rm.slots = 0 ∧ rm.frames + 1 ≤ R.frames ∧ 8 + (n + 11) + rm.locals ≤ R.locals ∧ ce ≤ R.cells ∧ sl ≤ R.slots ∧ (rest.map fun v => v.category).sum ≤ 8) (hd : decode cc pc = .ok (.invokevirtual index, 3)) (kk : ∀ (r : Option Nat) (u : Ii × Pm), post r u → GG p l e R s m args below meth c G A nL ce sl Q u.1 u.2 L (pc + 3) (va_rf r :: rest)) : GG p l e R s m args below meth c G A nL ce sl Q I pm L pc st := fun H locs ls h1 h2 h3 => by
  subst hst
  exact va_callq (va_runV (As := As) (rest := rest) F.1 hM (cwV na F.1.2.2.2.2 hlk rfl hrm.1 hrm.2.1 hdy ⟨hrm.2.2.1, hrm.2.2.2.1⟩) ⟨PP.blind, va_recv (q0 := 0) F.2.1 (h1.one hi) hc (congrArg (fun z => some (G.2.2 K i, z)) he), fun U hU hW => ⟨rfl, by rw [hU]; exact h1, va_K.moved hW.alike F.2.1, NN.warm hW F.2.2.1⟩⟩ rfl hna h3.1 rfl (lv_room hrm.2.2.2.2.2.2) hd ⟨hrm.2.2.2.2.1, hrm.2.2.2.2.2.1⟩) h2 (fun q _ hq => by obtain ⟨a, b, hb, rfl⟩ := hq; exact F.2.2.2.2 a b hb) (fun q hq => by obtain ⟨a, b, hb, rfl⟩ := hq; exact F.2.2.2.2 a b hb) (fun r u t H1 locs1 ht hvm hw hB hz hk hS => kk r u hw H1 locs1 ls (by rw [← ht]; exact hB) hS h3)
theorem g_callQs (F : FX p s m args c cc nL own G A) {y : MethodName} {b : ByteArray} {n na index : Nat} {ret : Option FieldType} {rm : Room} {As : List Value} {post : Option Nat → Ii × Pm → Prop} (hM : CQ l G y (wz y b n ret) rm As I pm post) (hlk : GoodIn wsL_law (va_wsS own index y (wz y b n ret))) (hst : st = As.reverse ++ rest) (hna : As.length = na) (hdy : y.cls ≠ "java/lang/invoke/MethodHandle" ∧ y.cls ≠ "java/lang/invoke/VarHandle" ∧ (parseMethodDescriptor y.desc).map (fun d => d.parameters.length) = some na) (hrm : rm.cells = 0 ∧ rm.slots = 0 ∧ rm.frames + 1 ≤ R.frames ∧ 8 + (n + 11) + rm.locals ≤ R.locals ∧ ce ≤ R.cells ∧ sl ≤ R.slots ∧ (rest.map fun v => v.category).sum ≤ 8) (hd : decode cc pc = .ok (.invokestatic index, 3)) (kk : ∀ (r : Option Nat) (u : Ii × Pm), post r u → GG p l e R s m args below meth c G A nL ce sl Q u.1 u.2 L (pc + 3) (va_rf r :: rest)) : GG p l e R s m args below meth c G A nL ce sl Q I pm L pc st := fun H locs ls h1 h2 h3 => by
  subst hst
  exact va_callq (va_runS (As := As) (rest := rest) F.1 hM (va_cwS na F.1.2.2.2.2 hlk rfl hrm.1 hrm.2.1 hdy ⟨hrm.2.2.1, hrm.2.2.2.1⟩) ⟨PP.blind, fun U hU hW => ⟨rfl, by rw [hU]; exact h1, va_K.moved hW.alike F.2.1, NN.warm hW F.2.2.1⟩⟩ rfl hna h3.1 rfl (lv_room hrm.2.2.2.2.2.2) hd ⟨hrm.2.2.2.2.1, hrm.2.2.2.2.2.1⟩) h2 (fun q _ hq => by obtain ⟨a, b, hb, rfl⟩ := hq; exact F.2.2.2.2 a b hb) (fun q hq => by obtain ⟨a, b, hb, rfl⟩ := hq; exact F.2.2.2.2 a b hb) (fun r u t H1 locs1 ht hvm hw hB hz hk hS => kk r u hw H1 locs1 ls (by rw [← ht]; exact hB) hS h3)
end BASE
section RETS
variable {p : Program} {l : Launch} {e : Env} {R : Room} {s : State} {m : MethodId} {args : Array Value} {below : List Frame} {meth : Method} {c : Code} {G : Gm} {nL : Nat} {I : Ii} {pm : Pm} {L : List (Nat × Value)} {pc : Nat} {cc : ByteArray} {own : String}
theorem g_iret (F : FX p s m args c cc nL own G (AA G)) {post : Int32 → Ii × Pm → Prop} {v : Int32} {ty : FieldType} (hr : meth.sig.returnType = some ty) (hlocks : meth.locks = false) (hn : narrow ty (.int v) = .int v) (hd : decode cc pc = .ok (.ireturn, 1)) (hq : post v (I, pm)) : GG p l e R s m args below meth c G (AA G) nL 0 0 (MQ below (va_Qi post (fun u t => Wd G u.1 u.2 t.heap) (AA G)) args s 0 0 (AA G)) I pm L pc [.int v] := fun H locs ls h1 h2 h3 =>
  W.zret F.1.1 F.1.2.1 hr hn (fun t ht hW => ⟨⟨v, (I, pm), rfl, hq, (show Wd G I pm t.heap by rw [ht]; exact h1)⟩, h2.F ht⟩) h2.2.2 hd hlocks
theorem g_vret (F : FX p s m args c cc nL own G (AA G)) {post : Ii × Pm → Prop} (hr : meth.sig.returnType = none) (hlocks : meth.locks = false) (hd : decode cc pc = .ok (.return_, 1)) (hq : post (I, pm)) : GG p l e R s m args below meth c G (AA G) nL 0 0 (MQ below (va_Qv post (fun u t => Wd G u.1 u.2 t.heap) (AA G)) args s 0 0 (AA G)) I pm L pc [] := fun H locs ls h1 h2 h3 =>
  W.vret F.1.1 F.1.2.1 hr (fun t ht hW => ⟨⟨(I, pm), rfl, hq, (show Wd G I pm t.heap by rw [ht]; exact h1)⟩, h2.F ht⟩) h2.2.2 hd hlocks
theorem g_aret (F : FX p s m args c cc nL own G (AA G)) {post : Option Nat → Ii × Pm → Prop} {v : Value} {r : Option Nat} {C : String} (hv : v = va_rf r) (hr : meth.sig.returnType = some (.object C)) (hlocks : meth.locks = false) (hd : decode cc pc = .ok (.areturn, 1)) (hq : post r (I, pm)) : GG p l e R s m args below meth c G (AA G) nL 0 0 (MQ below (va_Qq post (fun u t => Wd G u.1 u.2 t.heap) (AA G)) args s 0 0 (AA G)) I pm L pc [v] := fun H locs ls h1 h2 h3 => by
  subst hv
  exact W.aret F.1.1 F.1.2.1 hr (Or.inl ⟨_, rfl⟩) (va_rf_or r) (fun t ht hW => ⟨⟨r, (I, pm), rfl, hq, (show Wd G I pm t.heap by rw [ht]; exact h1)⟩, h2.F ht⟩) h2.2.2 hd hlocks
end RETS
end
section
theorem mCL_L_7 : Cond.classLink RL 7 RX5 ∈ wsL_law := List.mem_of_getElem? (i := 0) (by decide +kernel)
theorem mIS_RX5 : Cond.instantiable RX5 6 ∈ wsL_law := List.mem_of_getElem? (i := 1) (by decide +kernel)
theorem mIN_RX5 : Cond.initialized RX5 ∈ wsL_law := List.mem_of_getElem? (i := 2) (by decide +kernel)
theorem mCL_L_10 : Cond.classLink RL 10 RX6 ∈ wsL_law := List.mem_of_getElem? (i := 3) (by decide +kernel)
theorem mIS_RX6 : Cond.instantiable RX6 13 ∈ wsL_law := List.mem_of_getElem? (i := 4) (by decide +kernel)
theorem mIN_RX6 : Cond.initialized RX6 ∈ wsL_law := List.mem_of_getElem? (i := 5) (by decide +kernel)
theorem mCN_L_81 : Cond.constantLong RL 81 (4294967295) ∈ wsL_law := List.mem_of_getElem? (i := 6) (by decide +kernel)
theorem mML_L_9 : Cond.methodLink RL 9 yX5_init ∈ wsL_law := List.mem_of_getElem? (i := 7) (by decide +kernel)
theorem mIM_yX5_init : Cond.instanceMethod yX5_init ∈ wsL_law := List.mem_of_getElem? (i := 8) (by decide +kernel)
theorem mCO_yX5_init : Cond.code yX5_init cX5_init 2 none ∈ wsL_law := List.mem_of_getElem? (i := 9) (by decide +kernel)
theorem mML_X5_3 : Cond.methodLink RX5 3 objectInit ∈ wsL_law := List.mem_of_getElem? (i := 10) (by decide +kernel)
theorem mIM_objectInit : Cond.instanceMethod objectInit ∈ wsL_law := List.mem_of_getElem? (i := 11) (by decide +kernel)
theorem mCO_objectInit : Cond.code objectInit ⟨#[0xb1]⟩ 1 none ∈ wsL_law := List.mem_of_getElem? (i := 12) (by decide +kernel)
theorem mCL_X5_9 : Cond.classLink RX5 9 RX1 ∈ wsL_law := List.mem_of_getElem? (i := 13) (by decide +kernel)
theorem mIS_RX1 : Cond.instantiable RX1 10 ∈ wsL_law := List.mem_of_getElem? (i := 14) (by decide +kernel)
theorem mIN_RX1 : Cond.initialized RX1 ∈ wsL_law := List.mem_of_getElem? (i := 15) (by decide +kernel)
theorem mFL_X5_12 : Cond.fieldLink RX5 12 "LocoFrames" "now" "LLocoFrames$Layout;" ∈ wsL_law := List.mem_of_getElem? (i := 16) (by decide +kernel)
theorem mFL_X5_16 : Cond.fieldLink RX5 16 "LocoFrames" "foreseen" "LLocoFrames$Layout;" ∈ wsL_law := List.mem_of_getElem? (i := 17) (by decide +kernel)
theorem mCL_X5_19 : Cond.classLink RX5 19 RX0 ∈ wsL_law := List.mem_of_getElem? (i := 18) (by decide +kernel)
theorem mIS_RX0 : Cond.instantiable RX0 3 ∈ wsL_law := List.mem_of_getElem? (i := 19) (by decide +kernel)
theorem mIN_RX0 : Cond.initialized RX0 ∈ wsL_law := List.mem_of_getElem? (i := 20) (by decide +kernel)
theorem mFL_X5_22 : Cond.fieldLink RX5 22 "LocoFrames" "history" "LLocoFrames$History;" ∈ wsL_law := List.mem_of_getElem? (i := 21) (by decide +kernel)
theorem mFL_X5_26 : Cond.fieldLink RX5 26 "LocoFrames" "slots" "[LLocoFrames$Layout;" ∈ wsL_law := List.mem_of_getElem? (i := 22) (by decide +kernel)
theorem mAC_boolean : Cond.arrayClass .boolean ∈ wsL_law := List.mem_of_getElem? (i := 23) (by decide +kernel)
theorem mFL_X5_30 : Cond.fieldLink RX5 30 "LocoFrames" "saved" "[Z" ∈ wsL_law := List.mem_of_getElem? (i := 24) (by decide +kernel)
theorem mCL_X5_34 : Cond.classLink RX5 34 RX3 ∈ wsL_law := List.mem_of_getElem? (i := 25) (by decide +kernel)
theorem mIS_RX3 : Cond.instantiable RX3 6 ∈ wsL_law := List.mem_of_getElem? (i := 26) (by decide +kernel)
theorem mIN_RX3 : Cond.initialized RX3 ∈ wsL_law := List.mem_of_getElem? (i := 27) (by decide +kernel)
theorem mFL_X5_37 : Cond.fieldLink RX5 37 "LocoFrames" "pad" "LLocoFrames$Pad;" ∈ wsL_law := List.mem_of_getElem? (i := 28) (by decide +kernel)
theorem mML_X5_11 : Cond.methodLink RX5 11 yX1_init ∈ wsL_law := List.mem_of_getElem? (i := 29) (by decide +kernel)
theorem mIM_yX1_init : Cond.instanceMethod yX1_init ∈ wsL_law := List.mem_of_getElem? (i := 30) (by decide +kernel)
theorem mCO_yX1_init : Cond.code yX1_init cX1_init 2 none ∈ wsL_law := List.mem_of_getElem? (i := 31) (by decide +kernel)
theorem mML_X1_3 : Cond.methodLink RX1 3 objectInit ∈ wsL_law := List.mem_of_getElem? (i := 32) (by decide +kernel)
theorem mCL_X1_9 : Cond.classLink RX1 9 RX2 ∈ wsL_law := List.mem_of_getElem? (i := 33) (by decide +kernel)
theorem mFL_X1_11 : Cond.fieldLink RX1 11 "LocoFrames$Layout" "locos" "[LLocoFrames$Loco;" ∈ wsL_law := List.mem_of_getElem? (i := 34) (by decide +kernel)
theorem mCL_X1_17 : Cond.classLink RX1 17 RX4 ∈ wsL_law := List.mem_of_getElem? (i := 35) (by decide +kernel)
theorem mIS_RX4 : Cond.instantiable RX4 4 ∈ wsL_law := List.mem_of_getElem? (i := 36) (by decide +kernel)
theorem mIN_RX4 : Cond.initialized RX4 ∈ wsL_law := List.mem_of_getElem? (i := 37) (by decide +kernel)
theorem mFL_X1_20 : Cond.fieldLink RX1 20 "LocoFrames$Layout" "station" "LLocoFrames$Station;" ∈ wsL_law := List.mem_of_getElem? (i := 38) (by decide +kernel)
theorem mAC_int : Cond.arrayClass .int ∈ wsL_law := List.mem_of_getElem? (i := 39) (by decide +kernel)
theorem mFL_X1_24 : Cond.fieldLink RX1 24 "LocoFrames$Layout" "shortTicks" "[I" ∈ wsL_law := List.mem_of_getElem? (i := 40) (by decide +kernel)
theorem mIS_RX2 : Cond.instantiable RX2 11 ∈ wsL_law := List.mem_of_getElem? (i := 41) (by decide +kernel)
theorem mIN_RX2 : Cond.initialized RX2 ∈ wsL_law := List.mem_of_getElem? (i := 42) (by decide +kernel)
theorem mIM_yX4_init : Cond.instanceMethod yX4_init ∈ wsL_law := List.mem_of_getElem? (i := 43) (by decide +kernel)
theorem mCO_yX4_init : Cond.code yX4_init cX4_init 1 none ∈ wsL_law := List.mem_of_getElem? (i := 44) (by decide +kernel)
theorem mML_X4_3 : Cond.methodLink RX4 3 objectInit ∈ wsL_law := List.mem_of_getElem? (i := 45) (by decide +kernel)
theorem mFL_X4_9 : Cond.fieldLink RX4 9 "LocoFrames$Station" "addresses" "[I" ∈ wsL_law := List.mem_of_getElem? (i := 46) (by decide +kernel)
theorem mFL_X4_15 : Cond.fieldLink RX4 15 "LocoFrames$Station" "data" "[I" ∈ wsL_law := List.mem_of_getElem? (i := 47) (by decide +kernel)
theorem mFL_X4_18 : Cond.fieldLink RX4 18 "LocoFrames$Station" "urgencies" "[I" ∈ wsL_law := List.mem_of_getElem? (i := 48) (by decide +kernel)
theorem mIM_yX2_init : Cond.instanceMethod yX2_init ∈ wsL_law := List.mem_of_getElem? (i := 49) (by decide +kernel)
theorem mCO_yX2_init : Cond.code yX2_init cX2_init 1 none ∈ wsL_law := List.mem_of_getElem? (i := 50) (by decide +kernel)
theorem mML_X2_3 : Cond.methodLink RX2 3 objectInit ∈ wsL_law := List.mem_of_getElem? (i := 51) (by decide +kernel)
theorem mML_X5_21 : Cond.methodLink RX5 21 yX0_init ∈ wsL_law := List.mem_of_getElem? (i := 52) (by decide +kernel)
theorem mIM_yX0_init : Cond.instanceMethod yX0_init ∈ wsL_law := List.mem_of_getElem? (i := 53) (by decide +kernel)
theorem mCO_yX0_init : Cond.code yX0_init cX0_init 2 none ∈ wsL_law := List.mem_of_getElem? (i := 54) (by decide +kernel)
theorem mML_X0_3 : Cond.methodLink RX0 3 objectInit ∈ wsL_law := List.mem_of_getElem? (i := 55) (by decide +kernel)
theorem mCL_X0_9 : Cond.classLink RX0 9 RX1 ∈ wsL_law := List.mem_of_getElem? (i := 56) (by decide +kernel)
theorem mFL_X0_11 : Cond.fieldLink RX0 11 "LocoFrames$History" "states" "[LLocoFrames$Layout;" ∈ wsL_law := List.mem_of_getElem? (i := 57) (by decide +kernel)
theorem mML_X0_17 : Cond.methodLink RX0 17 yX1_init ∈ wsL_law := List.mem_of_getElem? (i := 58) (by decide +kernel)
theorem mIM_yX3_init : Cond.instanceMethod yX3_init ∈ wsL_law := List.mem_of_getElem? (i := 59) (by decide +kernel)
theorem mCO_yX3_init : Cond.code yX3_init cX3_init 1 none ∈ wsL_law := List.mem_of_getElem? (i := 60) (by decide +kernel)
theorem mML_X3_3 : Cond.methodLink RX3 3 objectInit ∈ wsL_law := List.mem_of_getElem? (i := 61) (by decide +kernel)
theorem mAC_char : Cond.arrayClass .char ∈ wsL_law := List.mem_of_getElem? (i := 62) (by decide +kernel)
theorem mFL_X3_9 : Cond.fieldLink RX3 9 "LocoFrames$Pad" "text" "[C" ∈ wsL_law := List.mem_of_getElem? (i := 63) (by decide +kernel)
theorem mFL_X3_15 : Cond.fieldLink RX3 15 "LocoFrames$Pad" "numbers" "[I" ∈ wsL_law := List.mem_of_getElem? (i := 64) (by decide +kernel)
theorem mML_L_12 : Cond.methodLink RL 12 yX6_init ∈ wsL_law := List.mem_of_getElem? (i := 65) (by decide +kernel)
theorem mIM_yX6_init : Cond.instanceMethod yX6_init ∈ wsL_law := List.mem_of_getElem? (i := 66) (by decide +kernel)
theorem mCO_yX6_init : Cond.code yX6_init cX6_init 1 none ∈ wsL_law := List.mem_of_getElem? (i := 67) (by decide +kernel)
theorem mML_X6_1 : Cond.methodLink RX6 1 objectInit ∈ wsL_law := List.mem_of_getElem? (i := 68) (by decide +kernel)
theorem mFL_X6_7 : Cond.fieldLink RX6 7 "LocoFramesModel" "s" "[I" ∈ wsL_law := List.mem_of_getElem? (i := 69) (by decide +kernel)
theorem mFL_X6_13 : Cond.fieldLink RX6 13 "LocoFramesModel" "aside" "[I" ∈ wsL_law := List.mem_of_getElem? (i := 70) (by decide +kernel)
theorem mFL_X6_16 : Cond.fieldLink RX6 16 "LocoFramesModel" "undos" "[I" ∈ wsL_law := List.mem_of_getElem? (i := 71) (by decide +kernel)
theorem mFL_X6_19 : Cond.fieldLink RX6 19 "LocoFramesModel" "slots" "[I" ∈ wsL_law := List.mem_of_getElem? (i := 72) (by decide +kernel)
theorem mFL_X6_22 : Cond.fieldLink RX6 22 "LocoFramesModel" "hasSlot" "[Z" ∈ wsL_law := List.mem_of_getElem? (i := 73) (by decide +kernel)
theorem mFL_X6_26 : Cond.fieldLink RX6 26 "LocoFramesModel" "pad" "[I" ∈ wsL_law := List.mem_of_getElem? (i := 74) (by decide +kernel)
theorem mFL_X6_29 : Cond.fieldLink RX6 29 "LocoFramesModel" "told" "[I" ∈ wsL_law := List.mem_of_getElem? (i := 75) (by decide +kernel)
theorem mFL_X6_32 : Cond.fieldLink RX6 32 "LocoFramesModel" "thrown" "I" ∈ wsL_law := List.mem_of_getElem? (i := 76) (by decide +kernel)
theorem mML_L_13 : Cond.methodLink RL 13 yX5_loco ∈ wsL_law := List.mem_of_getElem? (i := 77) (by decide +kernel)
theorem mIM_yX5_loco : Cond.instanceMethod yX5_loco ∈ wsL_law := List.mem_of_getElem? (i := 78) (by decide +kernel)
theorem mSE_yX5_loco : Cond.selects RX5 yX5_loco yX5_loco ∈ wsL_law := List.mem_of_getElem? (i := 79) (by decide +kernel)
theorem mCO_yX5_loco : Cond.code yX5_loco cX5_loco 5 (some .int) ∈ wsL_law := List.mem_of_getElem? (i := 80) (by decide +kernel)
theorem mML_X5_41 : Cond.methodLink RX5 41 yX0_draft ∈ wsL_law := List.mem_of_getElem? (i := 81) (by decide +kernel)
theorem mIM_yX0_draft : Cond.instanceMethod yX0_draft ∈ wsL_law := List.mem_of_getElem? (i := 82) (by decide +kernel)
theorem mSE_yX0_draft : Cond.selects RX0 yX0_draft yX0_draft ∈ wsL_law := List.mem_of_getElem? (i := 83) (by decide +kernel)
theorem mCO_yX0_draft : Cond.code yX0_draft cX0_draft 2 none ∈ wsL_law := List.mem_of_getElem? (i := 84) (by decide +kernel)
theorem mFL_X0_18 : Cond.fieldLink RX0 18 "LocoFrames$History" "first" "I" ∈ wsL_law := List.mem_of_getElem? (i := 85) (by decide +kernel)
theorem mFL_X0_22 : Cond.fieldLink RX0 22 "LocoFrames$History" "held" "I" ∈ wsL_law := List.mem_of_getElem? (i := 86) (by decide +kernel)
theorem mML_X0_25 : Cond.methodLink RX0 25 yX1_copyFrom ∈ wsL_law := List.mem_of_getElem? (i := 87) (by decide +kernel)
theorem mIM_yX1_copyFrom : Cond.instanceMethod yX1_copyFrom ∈ wsL_law := List.mem_of_getElem? (i := 88) (by decide +kernel)
theorem mSE_yX1_copyFrom : Cond.selects RX1 yX1_copyFrom yX1_copyFrom ∈ wsL_law := List.mem_of_getElem? (i := 89) (by decide +kernel)
theorem mCO_yX1_copyFrom : Cond.code yX1_copyFrom cX1_copyFrom 3 none ∈ wsL_law := List.mem_of_getElem? (i := 90) (by decide +kernel)
theorem mFL_X1_29 : Cond.fieldLink RX1 29 "LocoFrames$Layout" "locoCount" "I" ∈ wsL_law := List.mem_of_getElem? (i := 91) (by decide +kernel)
theorem mML_X1_40 : Cond.methodLink RX1 40 arraycopyName ∈ wsL_law := List.mem_of_getElem? (i := 92) (by decide +kernel)
theorem mNA_arraycopyName : Cond.native arraycopyName ∈ wsL_law := List.mem_of_getElem? (i := 93) (by decide +kernel)
theorem mST_arraycopyName : Cond.static arraycopyName ∈ wsL_law := List.mem_of_getElem? (i := 94) (by decide +kernel)
theorem mIN_java_lang_System : Cond.initialized "java/lang/System" ∈ wsL_law := List.mem_of_getElem? (i := 95) (by decide +kernel)
theorem mFL_X1_46 : Cond.fieldLink RX1 46 "LocoFrames$Layout" "ticks" "I" ∈ wsL_law := List.mem_of_getElem? (i := 96) (by decide +kernel)
theorem mFL_X1_49 : Cond.fieldLink RX1 49 "LocoFrames$Layout" "noiseTicks" "I" ∈ wsL_law := List.mem_of_getElem? (i := 97) (by decide +kernel)
theorem mFL_X1_52 : Cond.fieldLink RX1 52 "LocoFrames$Layout" "spoiledAt" "I" ∈ wsL_law := List.mem_of_getElem? (i := 98) (by decide +kernel)
theorem mFL_X1_55 : Cond.fieldLink RX1 55 "LocoFrames$Layout" "frames" "I" ∈ wsL_law := List.mem_of_getElem? (i := 99) (by decide +kernel)
theorem mFL_X1_58 : Cond.fieldLink RX1 58 "LocoFrames$Layout" "broken" "I" ∈ wsL_law := List.mem_of_getElem? (i := 100) (by decide +kernel)
theorem mFL_X1_61 : Cond.fieldLink RX1 61 "LocoFrames$Layout" "spoiled" "I" ∈ wsL_law := List.mem_of_getElem? (i := 101) (by decide +kernel)
theorem mML_X1_33 : Cond.methodLink RX1 33 yX2_copyFrom ∈ wsL_law := List.mem_of_getElem? (i := 102) (by decide +kernel)
theorem mIM_yX2_copyFrom : Cond.instanceMethod yX2_copyFrom ∈ wsL_law := List.mem_of_getElem? (i := 103) (by decide +kernel)
theorem mSE_yX2_copyFrom : Cond.selects RX2 yX2_copyFrom yX2_copyFrom ∈ wsL_law := List.mem_of_getElem? (i := 104) (by decide +kernel)
theorem mCO_yX2_copyFrom : Cond.code yX2_copyFrom cX2_copyFrom 2 none ∈ wsL_law := List.mem_of_getElem? (i := 105) (by decide +kernel)
theorem mFL_X2_9 : Cond.fieldLink RX2 9 "LocoFrames$Loco" "address" "I" ∈ wsL_law := List.mem_of_getElem? (i := 106) (by decide +kernel)
theorem mFL_X2_15 : Cond.fieldLink RX2 15 "LocoFrames$Loco" "mass" "I" ∈ wsL_law := List.mem_of_getElem? (i := 107) (by decide +kernel)
theorem mFL_X2_18 : Cond.fieldLink RX2 18 "LocoFrames$Loco" "curve" "I" ∈ wsL_law := List.mem_of_getElem? (i := 108) (by decide +kernel)
theorem mFL_X2_21 : Cond.fieldLink RX2 21 "LocoFrames$Loco" "place" "I" ∈ wsL_law := List.mem_of_getElem? (i := 109) (by decide +kernel)
theorem mFL_X2_24 : Cond.fieldLink RX2 24 "LocoFrames$Loco" "tenths" "I" ∈ wsL_law := List.mem_of_getElem? (i := 110) (by decide +kernel)
theorem mFL_X2_27 : Cond.fieldLink RX2 27 "LocoFrames$Loco" "speed" "I" ∈ wsL_law := List.mem_of_getElem? (i := 111) (by decide +kernel)
theorem mFL_X2_30 : Cond.fieldLink RX2 30 "LocoFrames$Loco" "rounds" "I" ∈ wsL_law := List.mem_of_getElem? (i := 112) (by decide +kernel)
theorem mFL_X2_33 : Cond.fieldLink RX2 33 "LocoFrames$Loco" "step" "I" ∈ wsL_law := List.mem_of_getElem? (i := 113) (by decide +kernel)
theorem mFL_X2_36 : Cond.fieldLink RX2 36 "LocoFrames$Loco" "way" "I" ∈ wsL_law := List.mem_of_getElem? (i := 114) (by decide +kernel)
theorem mFL_X2_39 : Cond.fieldLink RX2 39 "LocoFrames$Loco" "lights" "I" ∈ wsL_law := List.mem_of_getElem? (i := 115) (by decide +kernel)
theorem mFL_X2_42 : Cond.fieldLink RX2 42 "LocoFrames$Loco" "heard" "I" ∈ wsL_law := List.mem_of_getElem? (i := 116) (by decide +kernel)
theorem mML_X1_37 : Cond.methodLink RX1 37 yX4_copyFrom ∈ wsL_law := List.mem_of_getElem? (i := 117) (by decide +kernel)
theorem mIM_yX4_copyFrom : Cond.instanceMethod yX4_copyFrom ∈ wsL_law := List.mem_of_getElem? (i := 118) (by decide +kernel)
theorem mSE_yX4_copyFrom : Cond.selects RX4 yX4_copyFrom yX4_copyFrom ∈ wsL_law := List.mem_of_getElem? (i := 119) (by decide +kernel)
theorem mCO_yX4_copyFrom : Cond.code yX4_copyFrom cX4_copyFrom 2 none ∈ wsL_law := List.mem_of_getElem? (i := 120) (by decide +kernel)
theorem mML_X4_21 : Cond.methodLink RX4 21 arraycopyName ∈ wsL_law := List.mem_of_getElem? (i := 121) (by decide +kernel)
theorem mFL_X4_27 : Cond.fieldLink RX4 27 "LocoFrames$Station" "held" "I" ∈ wsL_law := List.mem_of_getElem? (i := 122) (by decide +kernel)
theorem mML_X5_45 : Cond.methodLink RX5 45 yX1_addLoco ∈ wsL_law := List.mem_of_getElem? (i := 123) (by decide +kernel)
theorem mIM_yX1_addLoco : Cond.instanceMethod yX1_addLoco ∈ wsL_law := List.mem_of_getElem? (i := 124) (by decide +kernel)
theorem mSE_yX1_addLoco : Cond.selects RX1 yX1_addLoco yX1_addLoco ∈ wsL_law := List.mem_of_getElem? (i := 125) (by decide +kernel)
theorem mCO_yX1_addLoco : Cond.code yX1_addLoco cX1_addLoco 7 (some .int) ∈ wsL_law := List.mem_of_getElem? (i := 126) (by decide +kernel)
theorem mFL_X1_76 : Cond.fieldLink RX1 76 "LocoFrames$Loco" "address" "I" ∈ wsL_law := List.mem_of_getElem? (i := 127) (by decide +kernel)
theorem mST_yX5_within : Cond.static yX5_within ∈ wsL_law := List.mem_of_getElem? (i := 128) (by decide +kernel)
theorem mCO_yX5_within : Cond.code yX5_within cX5_within 3 (some .boolean) ∈ wsL_law := List.mem_of_getElem? (i := 129) (by decide +kernel)
theorem mML_X1_68 : Cond.methodLink RX1 68 yX1_rankOf ∈ wsL_law := List.mem_of_getElem? (i := 130) (by decide +kernel)
theorem mIM_yX1_rankOf : Cond.instanceMethod yX1_rankOf ∈ wsL_law := List.mem_of_getElem? (i := 131) (by decide +kernel)
theorem mSE_yX1_rankOf : Cond.selects RX1 yX1_rankOf yX1_rankOf ∈ wsL_law := List.mem_of_getElem? (i := 132) (by decide +kernel)
theorem mCO_yX1_rankOf : Cond.code yX1_rankOf cX1_rankOf 3 (some .int) ∈ wsL_law := List.mem_of_getElem? (i := 133) (by decide +kernel)
theorem mML_X1_79 : Cond.methodLink RX1 79 yX2_begin ∈ wsL_law := List.mem_of_getElem? (i := 134) (by decide +kernel)
theorem mIM_yX2_begin : Cond.instanceMethod yX2_begin ∈ wsL_law := List.mem_of_getElem? (i := 135) (by decide +kernel)
theorem mSE_yX2_begin : Cond.selects RX2 yX2_begin yX2_begin ∈ wsL_law := List.mem_of_getElem? (i := 136) (by decide +kernel)
theorem mCO_yX2_begin : Cond.code yX2_begin cX2_begin 5 none ∈ wsL_law := List.mem_of_getElem? (i := 137) (by decide +kernel)
theorem mML_X5_49 : Cond.methodLink RX5 49 yX0_kept ∈ wsL_law := List.mem_of_getElem? (i := 138) (by decide +kernel)
theorem mIM_yX0_kept : Cond.instanceMethod yX0_kept ∈ wsL_law := List.mem_of_getElem? (i := 139) (by decide +kernel)
theorem mSE_yX0_kept : Cond.selects RX0 yX0_kept yX0_kept ∈ wsL_law := List.mem_of_getElem? (i := 140) (by decide +kernel)
theorem mCO_yX0_kept : Cond.code yX0_kept cX0_kept 2 (some .int) ∈ wsL_law := List.mem_of_getElem? (i := 141) (by decide +kernel)
theorem mML_L_17 : Cond.methodLink RL 17 yX6_loco ∈ wsL_law := List.mem_of_getElem? (i := 142) (by decide +kernel)
theorem mIM_yX6_loco : Cond.instanceMethod yX6_loco ∈ wsL_law := List.mem_of_getElem? (i := 143) (by decide +kernel)
theorem mSE_yX6_loco : Cond.selects RX6 yX6_loco yX6_loco ∈ wsL_law := List.mem_of_getElem? (i := 144) (by decide +kernel)
theorem mCO_yX6_loco : Cond.code yX6_loco cX6_loco 7 (some .int) ∈ wsL_law := List.mem_of_getElem? (i := 145) (by decide +kernel)
theorem mML_X6_54 : Cond.methodLink RX6 54 yX6_in ∈ wsL_law := List.mem_of_getElem? (i := 146) (by decide +kernel)
theorem mST_yX6_in : Cond.static yX6_in ∈ wsL_law := List.mem_of_getElem? (i := 147) (by decide +kernel)
theorem mCO_yX6_in : Cond.code yX6_in cX6_in 3 (some .boolean) ∈ wsL_law := List.mem_of_getElem? (i := 148) (by decide +kernel)
theorem mML_X6_87 : Cond.methodLink RX6 87 yX6_locoOf ∈ wsL_law := List.mem_of_getElem? (i := 149) (by decide +kernel)
theorem mIM_yX6_locoOf : Cond.instanceMethod yX6_locoOf ∈ wsL_law := List.mem_of_getElem? (i := 150) (by decide +kernel)
theorem mSE_yX6_locoOf : Cond.selects RX6 yX6_locoOf yX6_locoOf ∈ wsL_law := List.mem_of_getElem? (i := 151) (by decide +kernel)
theorem mCO_yX6_locoOf : Cond.code yX6_locoOf cX6_locoOf 3 (some .int) ∈ wsL_law := List.mem_of_getElem? (i := 152) (by decide +kernel)
theorem mML_X6_36 : Cond.methodLink RX6 36 yX6_get ∈ wsL_law := List.mem_of_getElem? (i := 153) (by decide +kernel)
theorem mIM_yX6_get : Cond.instanceMethod yX6_get ∈ wsL_law := List.mem_of_getElem? (i := 154) (by decide +kernel)
theorem mSE_yX6_get : Cond.selects RX6 yX6_get yX6_get ∈ wsL_law := List.mem_of_getElem? (i := 155) (by decide +kernel)
theorem mCO_yX6_get : Cond.code yX6_get cX6_get 3 (some .int) ∈ wsL_law := List.mem_of_getElem? (i := 156) (by decide +kernel)
theorem mML_X6_90 : Cond.methodLink RX6 90 yX6_records ∈ wsL_law := List.mem_of_getElem? (i := 157) (by decide +kernel)
theorem mIM_yX6_records : Cond.instanceMethod yX6_records ∈ wsL_law := List.mem_of_getElem? (i := 158) (by decide +kernel)
theorem mSE_yX6_records : Cond.selects RX6 yX6_records yX6_records ∈ wsL_law := List.mem_of_getElem? (i := 159) (by decide +kernel)
theorem mCO_yX6_records : Cond.code yX6_records cX6_records 2 none ∈ wsL_law := List.mem_of_getElem? (i := 160) (by decide +kernel)
theorem mFL_X6_40 : Cond.fieldLink RX6 40 "LocoFramesModel" "undoMany" "I" ∈ wsL_law := List.mem_of_getElem? (i := 161) (by decide +kernel)
theorem mML_X6_50 : Cond.methodLink RX6 50 yX6_lay ∈ wsL_law := List.mem_of_getElem? (i := 162) (by decide +kernel)
theorem mIM_yX6_lay : Cond.instanceMethod yX6_lay ∈ wsL_law := List.mem_of_getElem? (i := 163) (by decide +kernel)
theorem mSE_yX6_lay : Cond.selects RX6 yX6_lay yX6_lay ∈ wsL_law := List.mem_of_getElem? (i := 164) (by decide +kernel)
theorem mCO_yX6_lay : Cond.code yX6_lay cX6_lay 4 none ∈ wsL_law := List.mem_of_getElem? (i := 165) (by decide +kernel)
theorem mML_L_18 : Cond.methodLink RL 18 yX5_lift ∈ wsL_law := List.mem_of_getElem? (i := 166) (by decide +kernel)
theorem mIM_yX5_lift : Cond.instanceMethod yX5_lift ∈ wsL_law := List.mem_of_getElem? (i := 167) (by decide +kernel)
theorem mSE_yX5_lift : Cond.selects RX5 yX5_lift yX5_lift ∈ wsL_law := List.mem_of_getElem? (i := 168) (by decide +kernel)
theorem mCO_yX5_lift : Cond.code yX5_lift cX5_lift 2 (some .int) ∈ wsL_law := List.mem_of_getElem? (i := 169) (by decide +kernel)
theorem mML_X5_53 : Cond.methodLink RX5 53 yX1_removeLoco ∈ wsL_law := List.mem_of_getElem? (i := 170) (by decide +kernel)
theorem mIM_yX1_removeLoco : Cond.instanceMethod yX1_removeLoco ∈ wsL_law := List.mem_of_getElem? (i := 171) (by decide +kernel)
theorem mSE_yX1_removeLoco : Cond.selects RX1 yX1_removeLoco yX1_removeLoco ∈ wsL_law := List.mem_of_getElem? (i := 172) (by decide +kernel)
theorem mCO_yX1_removeLoco : Cond.code yX1_removeLoco cX1_removeLoco 5 (some .int) ∈ wsL_law := List.mem_of_getElem? (i := 173) (by decide +kernel)
theorem mML_L_22 : Cond.methodLink RL 22 yX6_lift ∈ wsL_law := List.mem_of_getElem? (i := 174) (by decide +kernel)
theorem mIM_yX6_lift : Cond.instanceMethod yX6_lift ∈ wsL_law := List.mem_of_getElem? (i := 175) (by decide +kernel)
theorem mSE_yX6_lift : Cond.selects RX6 yX6_lift yX6_lift ∈ wsL_law := List.mem_of_getElem? (i := 176) (by decide +kernel)
theorem mCO_yX6_lift : Cond.code yX6_lift cX6_lift 4 (some .int) ∈ wsL_law := List.mem_of_getElem? (i := 177) (by decide +kernel)
theorem mML_L_23 : Cond.methodLink RL 23 yX5_noise ∈ wsL_law := List.mem_of_getElem? (i := 178) (by decide +kernel)
theorem mIM_yX5_noise : Cond.instanceMethod yX5_noise ∈ wsL_law := List.mem_of_getElem? (i := 179) (by decide +kernel)
theorem mSE_yX5_noise : Cond.selects RX5 yX5_noise yX5_noise ∈ wsL_law := List.mem_of_getElem? (i := 180) (by decide +kernel)
theorem mCO_yX5_noise : Cond.code yX5_noise cX5_noise 2 (some .int) ∈ wsL_law := List.mem_of_getElem? (i := 181) (by decide +kernel)
theorem mML_X5_56 : Cond.methodLink RX5 56 yX1_changeNoise ∈ wsL_law := List.mem_of_getElem? (i := 182) (by decide +kernel)
theorem mIM_yX1_changeNoise : Cond.instanceMethod yX1_changeNoise ∈ wsL_law := List.mem_of_getElem? (i := 183) (by decide +kernel)
theorem mSE_yX1_changeNoise : Cond.selects RX1 yX1_changeNoise yX1_changeNoise ∈ wsL_law := List.mem_of_getElem? (i := 184) (by decide +kernel)
theorem mCO_yX1_changeNoise : Cond.code yX1_changeNoise cX1_changeNoise 3 (some .int) ∈ wsL_law := List.mem_of_getElem? (i := 185) (by decide +kernel)
theorem mML_L_26 : Cond.methodLink RL 26 yX6_noise ∈ wsL_law := List.mem_of_getElem? (i := 186) (by decide +kernel)
theorem mIM_yX6_noise : Cond.instanceMethod yX6_noise ∈ wsL_law := List.mem_of_getElem? (i := 187) (by decide +kernel)
theorem mSE_yX6_noise : Cond.selects RX6 yX6_noise yX6_noise ∈ wsL_law := List.mem_of_getElem? (i := 188) (by decide +kernel)
theorem mCO_yX6_noise : Cond.code yX6_noise cX6_noise 3 (some .int) ∈ wsL_law := List.mem_of_getElem? (i := 189) (by decide +kernel)
theorem mML_L_27 : Cond.methodLink RL 27 yX5_order ∈ wsL_law := List.mem_of_getElem? (i := 190) (by decide +kernel)
theorem mIM_yX5_order : Cond.instanceMethod yX5_order ∈ wsL_law := List.mem_of_getElem? (i := 191) (by decide +kernel)
theorem mSE_yX5_order : Cond.selects RX5 yX5_order yX5_order ∈ wsL_law := List.mem_of_getElem? (i := 192) (by decide +kernel)
theorem mCO_yX5_order : Cond.code yX5_order cX5_order 4 (some .int) ∈ wsL_law := List.mem_of_getElem? (i := 193) (by decide +kernel)
theorem mFL_X5_59 : Cond.fieldLink RX5 59 "LocoFrames$Layout" "station" "LLocoFrames$Station;" ∈ wsL_law := List.mem_of_getElem? (i := 194) (by decide +kernel)
theorem mML_X5_63 : Cond.methodLink RX5 63 yX4_take ∈ wsL_law := List.mem_of_getElem? (i := 195) (by decide +kernel)
theorem mIM_yX4_take : Cond.instanceMethod yX4_take ∈ wsL_law := List.mem_of_getElem? (i := 196) (by decide +kernel)
theorem mSE_yX4_take : Cond.selects RX4 yX4_take yX4_take ∈ wsL_law := List.mem_of_getElem? (i := 197) (by decide +kernel)
theorem mCO_yX4_take : Cond.code yX4_take cX4_take 5 (some .int) ∈ wsL_law := List.mem_of_getElem? (i := 198) (by decide +kernel)
theorem mML_X4_35 : Cond.methodLink RX4 35 yX4_setRow ∈ wsL_law := List.mem_of_getElem? (i := 199) (by decide +kernel)
theorem mIM_yX4_setRow : Cond.instanceMethod yX4_setRow ∈ wsL_law := List.mem_of_getElem? (i := 200) (by decide +kernel)
theorem mSE_yX4_setRow : Cond.selects RX4 yX4_setRow yX4_setRow ∈ wsL_law := List.mem_of_getElem? (i := 201) (by decide +kernel)
theorem mCO_yX4_setRow : Cond.code yX4_setRow cX4_setRow 5 none ∈ wsL_law := List.mem_of_getElem? (i := 202) (by decide +kernel)
theorem mML_L_31 : Cond.methodLink RL 31 yX6_order ∈ wsL_law := List.mem_of_getElem? (i := 203) (by decide +kernel)
theorem mIM_yX6_order : Cond.instanceMethod yX6_order ∈ wsL_law := List.mem_of_getElem? (i := 204) (by decide +kernel)
theorem mSE_yX6_order : Cond.selects RX6 yX6_order yX6_order ∈ wsL_law := List.mem_of_getElem? (i := 205) (by decide +kernel)
theorem mCO_yX6_order : Cond.code yX6_order cX6_order 5 (some .int) ∈ wsL_law := List.mem_of_getElem? (i := 206) (by decide +kernel)
theorem mML_X6_93 : Cond.methodLink RX6 93 yX6_refusesOrder ∈ wsL_law := List.mem_of_getElem? (i := 207) (by decide +kernel)
theorem mIM_yX6_refusesOrder : Cond.instanceMethod yX6_refusesOrder ∈ wsL_law := List.mem_of_getElem? (i := 208) (by decide +kernel)
theorem mSE_yX6_refusesOrder : Cond.selects RX6 yX6_refusesOrder yX6_refusesOrder ∈ wsL_law := List.mem_of_getElem? (i := 209) (by decide +kernel)
theorem mCO_yX6_refusesOrder : Cond.code yX6_refusesOrder cX6_refusesOrder 4 (some .int) ∈ wsL_law := List.mem_of_getElem? (i := 210) (by decide +kernel)
theorem mML_X6_96 : Cond.methodLink RX6 96 yX6_laysOrder ∈ wsL_law := List.mem_of_getElem? (i := 211) (by decide +kernel)
theorem mIM_yX6_laysOrder : Cond.instanceMethod yX6_laysOrder ∈ wsL_law := List.mem_of_getElem? (i := 212) (by decide +kernel)
theorem mSE_yX6_laysOrder : Cond.selects RX6 yX6_laysOrder yX6_laysOrder ∈ wsL_law := List.mem_of_getElem? (i := 213) (by decide +kernel)
theorem mCO_yX6_laysOrder : Cond.code yX6_laysOrder cX6_laysOrder 6 (some .int) ∈ wsL_law := List.mem_of_getElem? (i := 214) (by decide +kernel)
theorem mML_L_32 : Cond.methodLink RL 32 yX5_frame ∈ wsL_law := List.mem_of_getElem? (i := 215) (by decide +kernel)
theorem mIM_yX5_frame : Cond.instanceMethod yX5_frame ∈ wsL_law := List.mem_of_getElem? (i := 216) (by decide +kernel)
theorem mSE_yX5_frame : Cond.selects RX5 yX5_frame yX5_frame ∈ wsL_law := List.mem_of_getElem? (i := 217) (by decide +kernel)
theorem mCO_yX5_frame : Cond.code yX5_frame cX5_frame 4 (some .int) ∈ wsL_law := List.mem_of_getElem? (i := 218) (by decide +kernel)
theorem mML_X5_69 : Cond.methodLink RX5 69 yX1_takeFrame ∈ wsL_law := List.mem_of_getElem? (i := 219) (by decide +kernel)
theorem mIM_yX1_takeFrame : Cond.instanceMethod yX1_takeFrame ∈ wsL_law := List.mem_of_getElem? (i := 220) (by decide +kernel)
theorem mSE_yX1_takeFrame : Cond.selects RX1 yX1_takeFrame yX1_takeFrame ∈ wsL_law := List.mem_of_getElem? (i := 221) (by decide +kernel)
theorem mCO_yX1_takeFrame : Cond.code yX1_takeFrame cX1_takeFrame 7 (some .int) ∈ wsL_law := List.mem_of_getElem? (i := 222) (by decide +kernel)
theorem mML_X1_87 : Cond.methodLink RX1 87 yX2_blockNumber ∈ wsL_law := List.mem_of_getElem? (i := 223) (by decide +kernel)
theorem mIM_yX2_blockNumber : Cond.instanceMethod yX2_blockNumber ∈ wsL_law := List.mem_of_getElem? (i := 224) (by decide +kernel)
theorem mSE_yX2_blockNumber : Cond.selects RX2 yX2_blockNumber yX2_blockNumber ∈ wsL_law := List.mem_of_getElem? (i := 225) (by decide +kernel)
theorem mCO_yX2_blockNumber : Cond.code yX2_blockNumber cX2_blockNumber 1 (some .int) ∈ wsL_law := List.mem_of_getElem? (i := 226) (by decide +kernel)
theorem mML_X1_91 : Cond.methodLink RX1 91 yX1_isShorted ∈ wsL_law := List.mem_of_getElem? (i := 227) (by decide +kernel)
theorem mIM_yX1_isShorted : Cond.instanceMethod yX1_isShorted ∈ wsL_law := List.mem_of_getElem? (i := 228) (by decide +kernel)
theorem mSE_yX1_isShorted : Cond.selects RX1 yX1_isShorted yX1_isShorted ∈ wsL_law := List.mem_of_getElem? (i := 229) (by decide +kernel)
theorem mCO_yX1_isShorted : Cond.code yX1_isShorted cX1_isShorted 2 (some .boolean) ∈ wsL_law := List.mem_of_getElem? (i := 230) (by decide +kernel)
theorem mML_X1_94 : Cond.methodLink RX1 94 yX2_hear ∈ wsL_law := List.mem_of_getElem? (i := 231) (by decide +kernel)
theorem mIM_yX2_hear : Cond.instanceMethod yX2_hear ∈ wsL_law := List.mem_of_getElem? (i := 232) (by decide +kernel)
theorem mSE_yX2_hear : Cond.selects RX2 yX2_hear yX2_hear ∈ wsL_law := List.mem_of_getElem? (i := 233) (by decide +kernel)
theorem mCO_yX2_hear : Cond.code yX2_hear cX2_hear 3 none ∈ wsL_law := List.mem_of_getElem? (i := 234) (by decide +kernel)
theorem mML_L_35 : Cond.methodLink RL 35 yX6_frame ∈ wsL_law := List.mem_of_getElem? (i := 235) (by decide +kernel)
theorem mIM_yX6_frame : Cond.instanceMethod yX6_frame ∈ wsL_law := List.mem_of_getElem? (i := 236) (by decide +kernel)
theorem mSE_yX6_frame : Cond.selects RX6 yX6_frame yX6_frame ∈ wsL_law := List.mem_of_getElem? (i := 237) (by decide +kernel)
theorem mCO_yX6_frame : Cond.code yX6_frame cX6_frame 5 (some .int) ∈ wsL_law := List.mem_of_getElem? (i := 238) (by decide +kernel)
theorem mML_X6_99 : Cond.methodLink RX6 99 yX6_refusesFrame ∈ wsL_law := List.mem_of_getElem? (i := 239) (by decide +kernel)
theorem mST_yX6_refusesFrame : Cond.static yX6_refusesFrame ∈ wsL_law := List.mem_of_getElem? (i := 240) (by decide +kernel)
theorem mCO_yX6_refusesFrame : Cond.code yX6_refusesFrame cX6_refusesFrame 3 (some .int) ∈ wsL_law := List.mem_of_getElem? (i := 241) (by decide +kernel)
theorem mML_X6_66 : Cond.methodLink RX6 66 yX6_comes ∈ wsL_law := List.mem_of_getElem? (i := 242) (by decide +kernel)
theorem mIM_yX6_comes : Cond.instanceMethod yX6_comes ∈ wsL_law := List.mem_of_getElem? (i := 243) (by decide +kernel)
theorem mSE_yX6_comes : Cond.selects RX6 yX6_comes yX6_comes ∈ wsL_law := List.mem_of_getElem? (i := 244) (by decide +kernel)
theorem mCO_yX6_comes : Cond.code yX6_comes cX6_comes 6 (some .int) ∈ wsL_law := List.mem_of_getElem? (i := 245) (by decide +kernel)
theorem mML_X6_58 : Cond.methodLink RX6 58 yX6_isShort ∈ wsL_law := List.mem_of_getElem? (i := 246) (by decide +kernel)
theorem mIM_yX6_isShort : Cond.instanceMethod yX6_isShort ∈ wsL_law := List.mem_of_getElem? (i := 247) (by decide +kernel)
theorem mSE_yX6_isShort : Cond.selects RX6 yX6_isShort yX6_isShort ∈ wsL_law := List.mem_of_getElem? (i := 248) (by decide +kernel)
theorem mCO_yX6_isShort : Cond.code yX6_isShort cX6_isShort 2 (some .boolean) ∈ wsL_law := List.mem_of_getElem? (i := 249) (by decide +kernel)
theorem mML_X6_43 : Cond.methodLink RX6 43 yX6_blockOf ∈ wsL_law := List.mem_of_getElem? (i := 250) (by decide +kernel)
theorem mIM_yX6_blockOf : Cond.instanceMethod yX6_blockOf ∈ wsL_law := List.mem_of_getElem? (i := 251) (by decide +kernel)
theorem mSE_yX6_blockOf : Cond.selects RX6 yX6_blockOf yX6_blockOf ∈ wsL_law := List.mem_of_getElem? (i := 252) (by decide +kernel)
theorem mCO_yX6_blockOf : Cond.code yX6_blockOf cX6_blockOf 2 (some .int) ∈ wsL_law := List.mem_of_getElem? (i := 253) (by decide +kernel)
theorem mML_X6_62 : Cond.methodLink RX6 62 yX6_hears ∈ wsL_law := List.mem_of_getElem? (i := 254) (by decide +kernel)
theorem mIM_yX6_hears : Cond.instanceMethod yX6_hears ∈ wsL_law := List.mem_of_getElem? (i := 255) (by decide +kernel)
theorem mSE_yX6_hears : Cond.selects RX6 yX6_hears yX6_hears ∈ wsL_law := List.mem_of_getElem? (i := 256) (by decide +kernel)
theorem mCO_yX6_hears : Cond.code yX6_hears cX6_hears 3 none ∈ wsL_law := List.mem_of_getElem? (i := 257) (by decide +kernel)
theorem mML_L_36 : Cond.methodLink RL 36 yX5_shorts ∈ wsL_law := List.mem_of_getElem? (i := 258) (by decide +kernel)
theorem mIM_yX5_shorts : Cond.instanceMethod yX5_shorts ∈ wsL_law := List.mem_of_getElem? (i := 259) (by decide +kernel)
theorem mSE_yX5_shorts : Cond.selects RX5 yX5_shorts yX5_shorts ∈ wsL_law := List.mem_of_getElem? (i := 260) (by decide +kernel)
theorem mCO_yX5_shorts : Cond.code yX5_shorts cX5_shorts 3 (some .int) ∈ wsL_law := List.mem_of_getElem? (i := 261) (by decide +kernel)
theorem mML_X5_72 : Cond.methodLink RX5 72 yX1_changeShort ∈ wsL_law := List.mem_of_getElem? (i := 262) (by decide +kernel)
theorem mIM_yX1_changeShort : Cond.instanceMethod yX1_changeShort ∈ wsL_law := List.mem_of_getElem? (i := 263) (by decide +kernel)
theorem mSE_yX1_changeShort : Cond.selects RX1 yX1_changeShort yX1_changeShort ∈ wsL_law := List.mem_of_getElem? (i := 264) (by decide +kernel)
theorem mCO_yX1_changeShort : Cond.code yX1_changeShort cX1_changeShort 4 (some .int) ∈ wsL_law := List.mem_of_getElem? (i := 265) (by decide +kernel)
theorem mST_yX5_isBlock : Cond.static yX5_isBlock ∈ wsL_law := List.mem_of_getElem? (i := 266) (by decide +kernel)
theorem mCO_yX5_isBlock : Cond.code yX5_isBlock cX5_isBlock 1 (some .boolean) ∈ wsL_law := List.mem_of_getElem? (i := 267) (by decide +kernel)
theorem mML_X5_155 : Cond.methodLink RX5 155 yX5_within ∈ wsL_law := List.mem_of_getElem? (i := 268) (by decide +kernel)
theorem mML_L_40 : Cond.methodLink RL 40 yX6_shorts ∈ wsL_law := List.mem_of_getElem? (i := 269) (by decide +kernel)
theorem mIM_yX6_shorts : Cond.instanceMethod yX6_shorts ∈ wsL_law := List.mem_of_getElem? (i := 270) (by decide +kernel)
theorem mSE_yX6_shorts : Cond.selects RX6 yX6_shorts yX6_shorts ∈ wsL_law := List.mem_of_getElem? (i := 271) (by decide +kernel)
theorem mCO_yX6_shorts : Cond.code yX6_shorts cX6_shorts 5 (some .int) ∈ wsL_law := List.mem_of_getElem? (i := 272) (by decide +kernel)
theorem mML_X6_102 : Cond.methodLink RX6 102 yX6_refusesShorts ∈ wsL_law := List.mem_of_getElem? (i := 273) (by decide +kernel)
theorem mST_yX6_refusesShorts : Cond.static yX6_refusesShorts ∈ wsL_law := List.mem_of_getElem? (i := 274) (by decide +kernel)
theorem mCO_yX6_refusesShorts : Cond.code yX6_refusesShorts cX6_refusesShorts 2 (some .int) ∈ wsL_law := List.mem_of_getElem? (i := 275) (by decide +kernel)
theorem mML_L_41 : Cond.methodLink RL 41 yX5_pass ∈ wsL_law := List.mem_of_getElem? (i := 276) (by decide +kernel)
theorem mIM_yX5_pass : Cond.instanceMethod yX5_pass ∈ wsL_law := List.mem_of_getElem? (i := 277) (by decide +kernel)
theorem mSE_yX5_pass : Cond.selects RX5 yX5_pass yX5_pass ∈ wsL_law := List.mem_of_getElem? (i := 278) (by decide +kernel)
theorem mCO_yX5_pass : Cond.code yX5_pass cX5_pass 2 (some .int) ∈ wsL_law := List.mem_of_getElem? (i := 279) (by decide +kernel)
theorem mML_X5_76 : Cond.methodLink RX5 76 yX1_takeTicks ∈ wsL_law := List.mem_of_getElem? (i := 280) (by decide +kernel)
theorem mIM_yX1_takeTicks : Cond.instanceMethod yX1_takeTicks ∈ wsL_law := List.mem_of_getElem? (i := 281) (by decide +kernel)
theorem mSE_yX1_takeTicks : Cond.selects RX1 yX1_takeTicks yX1_takeTicks ∈ wsL_law := List.mem_of_getElem? (i := 282) (by decide +kernel)
theorem mCO_yX1_takeTicks : Cond.code yX1_takeTicks cX1_takeTicks 4 (some .int) ∈ wsL_law := List.mem_of_getElem? (i := 283) (by decide +kernel)
theorem mCN_X1_98 : Cond.constant RX1 98 (99999) ∈ wsL_law := List.mem_of_getElem? (i := 284) (by decide +kernel)
theorem mML_X1_99 : Cond.methodLink RX1 99 yX1_tick ∈ wsL_law := List.mem_of_getElem? (i := 285) (by decide +kernel)
theorem mIM_yX1_tick : Cond.instanceMethod yX1_tick ∈ wsL_law := List.mem_of_getElem? (i := 286) (by decide +kernel)
theorem mSE_yX1_tick : Cond.selects RX1 yX1_tick yX1_tick ∈ wsL_law := List.mem_of_getElem? (i := 287) (by decide +kernel)
theorem mCO_yX1_tick : Cond.code yX1_tick cX1_tick 4 (some .int) ∈ wsL_law := List.mem_of_getElem? (i := 288) (by decide +kernel)
theorem mFL_X1_105 : Cond.fieldLink RX1 105 "LocoFrames$Loco" "speed" "I" ∈ wsL_law := List.mem_of_getElem? (i := 289) (by decide +kernel)
theorem mML_X1_114 : Cond.methodLink RX1 114 Lib.Math.max.name ∈ wsL_law := List.mem_of_getElem? (i := 290) (by decide +kernel)
theorem mST_LMmax : Cond.static Lib.Math.max.name ∈ wsL_law := List.mem_of_getElem? (i := 291) (by decide +kernel)
theorem mIN_java_lang_Math : Cond.initialized "java/lang/Math" ∈ wsL_law := List.mem_of_getElem? (i := 292) (by decide +kernel)
theorem mCO_LMmax : Cond.code Lib.Math.max.name Lib.Math.max.code 2 (some .int) ∈ wsL_law := List.mem_of_getElem? (i := 293) (by decide +kernel)
theorem mML_X1_102 : Cond.methodLink RX1 102 yX1_sendFirst ∈ wsL_law := List.mem_of_getElem? (i := 294) (by decide +kernel)
theorem mIM_yX1_sendFirst : Cond.instanceMethod yX1_sendFirst ∈ wsL_law := List.mem_of_getElem? (i := 295) (by decide +kernel)
theorem mSE_yX1_sendFirst : Cond.selects RX1 yX1_sendFirst yX1_sendFirst ∈ wsL_law := List.mem_of_getElem? (i := 296) (by decide +kernel)
theorem mCO_yX1_sendFirst : Cond.code yX1_sendFirst cX1_sendFirst 4 (some .int) ∈ wsL_law := List.mem_of_getElem? (i := 297) (by decide +kernel)
theorem mFL_X1_120 : Cond.fieldLink RX1 120 "LocoFrames$Station" "held" "I" ∈ wsL_law := List.mem_of_getElem? (i := 298) (by decide +kernel)
theorem mFL_X1_123 : Cond.fieldLink RX1 123 "LocoFrames$Station" "addresses" "[I" ∈ wsL_law := List.mem_of_getElem? (i := 299) (by decide +kernel)
theorem mFL_X1_126 : Cond.fieldLink RX1 126 "LocoFrames$Station" "data" "[I" ∈ wsL_law := List.mem_of_getElem? (i := 300) (by decide +kernel)
theorem mML_X1_129 : Cond.methodLink RX1 129 yX4_dropFirst ∈ wsL_law := List.mem_of_getElem? (i := 301) (by decide +kernel)
theorem mIM_yX4_dropFirst : Cond.instanceMethod yX4_dropFirst ∈ wsL_law := List.mem_of_getElem? (i := 302) (by decide +kernel)
theorem mSE_yX4_dropFirst : Cond.selects RX4 yX4_dropFirst yX4_dropFirst ∈ wsL_law := List.mem_of_getElem? (i := 303) (by decide +kernel)
theorem mCO_yX4_dropFirst : Cond.code yX4_dropFirst cX4_dropFirst 2 none ∈ wsL_law := List.mem_of_getElem? (i := 304) (by decide +kernel)
theorem mML_X4_39 : Cond.methodLink RX4 39 Lib.Math.max.name ∈ wsL_law := List.mem_of_getElem? (i := 305) (by decide +kernel)
theorem mML_X1_132 : Cond.methodLink RX1 132 yX1_takeFrame ∈ wsL_law := List.mem_of_getElem? (i := 306) (by decide +kernel)
theorem mML_X1_108 : Cond.methodLink RX1 108 yX2_changeSpeed ∈ wsL_law := List.mem_of_getElem? (i := 307) (by decide +kernel)
theorem mIM_yX2_changeSpeed : Cond.instanceMethod yX2_changeSpeed ∈ wsL_law := List.mem_of_getElem? (i := 308) (by decide +kernel)
theorem mSE_yX2_changeSpeed : Cond.selects RX2 yX2_changeSpeed yX2_changeSpeed ∈ wsL_law := List.mem_of_getElem? (i := 309) (by decide +kernel)
theorem mCO_yX2_changeSpeed : Cond.code yX2_changeSpeed cX2_changeSpeed 2 none ∈ wsL_law := List.mem_of_getElem? (i := 310) (by decide +kernel)
theorem mML_X2_62 : Cond.methodLink RX2 62 Lib.Math.min.name ∈ wsL_law := List.mem_of_getElem? (i := 311) (by decide +kernel)
theorem mST_LMmin : Cond.static Lib.Math.min.name ∈ wsL_law := List.mem_of_getElem? (i := 312) (by decide +kernel)
theorem mCO_LMmin : Cond.code Lib.Math.min.name Lib.Math.min.code 2 (some .int) ∈ wsL_law := List.mem_of_getElem? (i := 313) (by decide +kernel)
theorem mML_X2_65 : Cond.methodLink RX2 65 Lib.Math.max.name ∈ wsL_law := List.mem_of_getElem? (i := 314) (by decide +kernel)
theorem mML_X2_49 : Cond.methodLink RX2 49 yX2_mostGain ∈ wsL_law := List.mem_of_getElem? (i := 315) (by decide +kernel)
theorem mIM_yX2_mostGain : Cond.instanceMethod yX2_mostGain ∈ wsL_law := List.mem_of_getElem? (i := 316) (by decide +kernel)
theorem mSE_yX2_mostGain : Cond.selects RX2 yX2_mostGain yX2_mostGain ∈ wsL_law := List.mem_of_getElem? (i := 317) (by decide +kernel)
theorem mCO_yX2_mostGain : Cond.code yX2_mostGain cX2_mostGain 1 (some .int) ∈ wsL_law := List.mem_of_getElem? (i := 318) (by decide +kernel)
theorem mML_X2_53 : Cond.methodLink RX2 53 yX2_goal ∈ wsL_law := List.mem_of_getElem? (i := 319) (by decide +kernel)
theorem mIM_yX2_goal : Cond.instanceMethod yX2_goal ∈ wsL_law := List.mem_of_getElem? (i := 320) (by decide +kernel)
theorem mSE_yX2_goal : Cond.selects RX2 yX2_goal yX2_goal ∈ wsL_law := List.mem_of_getElem? (i := 321) (by decide +kernel)
theorem mCO_yX2_goal : Cond.code yX2_goal cX2_goal 2 (some .int) ∈ wsL_law := List.mem_of_getElem? (i := 322) (by decide +kernel)
theorem mST_yX5_curveSpeed : Cond.static yX5_curveSpeed ∈ wsL_law := List.mem_of_getElem? (i := 323) (by decide +kernel)
theorem mCO_yX5_curveSpeed : Cond.code yX5_curveSpeed cX5_curveSpeed 3 (some .int) ∈ wsL_law := List.mem_of_getElem? (i := 324) (by decide +kernel)
theorem mML_X1_111 : Cond.methodLink RX1 111 yX2_roll ∈ wsL_law := List.mem_of_getElem? (i := 325) (by decide +kernel)
theorem mIM_yX2_roll : Cond.instanceMethod yX2_roll ∈ wsL_law := List.mem_of_getElem? (i := 326) (by decide +kernel)
theorem mSE_yX2_roll : Cond.selects RX2 yX2_roll yX2_roll ∈ wsL_law := List.mem_of_getElem? (i := 327) (by decide +kernel)
theorem mCO_yX2_roll : Cond.code yX2_roll cX2_roll 3 none ∈ wsL_law := List.mem_of_getElem? (i := 328) (by decide +kernel)
theorem mML_X2_68 : Cond.methodLink RX2 68 yJ9_floorDiv_7cf53 ∈ wsL_law := List.mem_of_getElem? (i := 329) (by decide +kernel)
theorem mST_yJ9_floorDiv_7cf53 : Cond.static yJ9_floorDiv_7cf53 ∈ wsL_law := List.mem_of_getElem? (i := 330) (by decide +kernel)
theorem mIN_RJ9 : Cond.initialized RJ9 ∈ wsL_law := List.mem_of_getElem? (i := 331) (by decide +kernel)
theorem mCO_yJ9_floorDiv_7cf53 : Cond.code yJ9_floorDiv_7cf53 cJ9_floorDiv_7cf53 3 (some .int) ∈ wsL_law := List.mem_of_getElem? (i := 332) (by decide +kernel)
theorem mML_X2_71 : Cond.methodLink RX2 71 yJ9_floorMod_7cf53 ∈ wsL_law := List.mem_of_getElem? (i := 333) (by decide +kernel)
theorem mST_yJ9_floorMod_7cf53 : Cond.static yJ9_floorMod_7cf53 ∈ wsL_law := List.mem_of_getElem? (i := 334) (by decide +kernel)
theorem mCO_yJ9_floorMod_7cf53 : Cond.code yJ9_floorMod_7cf53 cJ9_floorMod_7cf53 3 (some .int) ∈ wsL_law := List.mem_of_getElem? (i := 335) (by decide +kernel)
theorem mML_L_44 : Cond.methodLink RL 44 yX6_pass ∈ wsL_law := List.mem_of_getElem? (i := 336) (by decide +kernel)
theorem mIM_yX6_pass : Cond.instanceMethod yX6_pass ∈ wsL_law := List.mem_of_getElem? (i := 337) (by decide +kernel)
theorem mSE_yX6_pass : Cond.selects RX6 yX6_pass yX6_pass ∈ wsL_law := List.mem_of_getElem? (i := 338) (by decide +kernel)
theorem mCO_yX6_pass : Cond.code yX6_pass cX6_pass 3 (some .int) ∈ wsL_law := List.mem_of_getElem? (i := 339) (by decide +kernel)
theorem mML_X6_106 : Cond.methodLink RX6 106 yX6_refusesPass ∈ wsL_law := List.mem_of_getElem? (i := 340) (by decide +kernel)
theorem mIM_yX6_refusesPass : Cond.instanceMethod yX6_refusesPass ∈ wsL_law := List.mem_of_getElem? (i := 341) (by decide +kernel)
theorem mSE_yX6_refusesPass : Cond.selects RX6 yX6_refusesPass yX6_refusesPass ∈ wsL_law := List.mem_of_getElem? (i := 342) (by decide +kernel)
theorem mCO_yX6_refusesPass : Cond.code yX6_refusesPass cX6_refusesPass 2 (some .int) ∈ wsL_law := List.mem_of_getElem? (i := 343) (by decide +kernel)
theorem mCN_X6_105 : Cond.constant RX6 105 (99999) ∈ wsL_law := List.mem_of_getElem? (i := 344) (by decide +kernel)
theorem mML_X6_109 : Cond.methodLink RX6 109 yX6_ticks ∈ wsL_law := List.mem_of_getElem? (i := 345) (by decide +kernel)
theorem mIM_yX6_ticks : Cond.instanceMethod yX6_ticks ∈ wsL_law := List.mem_of_getElem? (i := 346) (by decide +kernel)
theorem mSE_yX6_ticks : Cond.selects RX6 yX6_ticks yX6_ticks ∈ wsL_law := List.mem_of_getElem? (i := 347) (by decide +kernel)
theorem mCO_yX6_ticks : Cond.code yX6_ticks cX6_ticks 4 (some .int) ∈ wsL_law := List.mem_of_getElem? (i := 348) (by decide +kernel)
theorem mML_X6_84 : Cond.methodLink RX6 84 yX6_tick ∈ wsL_law := List.mem_of_getElem? (i := 349) (by decide +kernel)
theorem mIM_yX6_tick : Cond.instanceMethod yX6_tick ∈ wsL_law := List.mem_of_getElem? (i := 350) (by decide +kernel)
theorem mSE_yX6_tick : Cond.selects RX6 yX6_tick yX6_tick ∈ wsL_law := List.mem_of_getElem? (i := 351) (by decide +kernel)
theorem mCO_yX6_tick : Cond.code yX6_tick cX6_tick 3 (some .int) ∈ wsL_law := List.mem_of_getElem? (i := 352) (by decide +kernel)
theorem mML_X6_73 : Cond.methodLink RX6 73 yX6_sends ∈ wsL_law := List.mem_of_getElem? (i := 353) (by decide +kernel)
theorem mIM_yX6_sends : Cond.instanceMethod yX6_sends ∈ wsL_law := List.mem_of_getElem? (i := 354) (by decide +kernel)
theorem mSE_yX6_sends : Cond.selects RX6 yX6_sends yX6_sends ∈ wsL_law := List.mem_of_getElem? (i := 355) (by decide +kernel)
theorem mCO_yX6_sends : Cond.code yX6_sends cX6_sends 5 (some .int) ∈ wsL_law := List.mem_of_getElem? (i := 356) (by decide +kernel)
theorem mML_X6_77 : Cond.methodLink RX6 77 yX6_speeds ∈ wsL_law := List.mem_of_getElem? (i := 357) (by decide +kernel)
theorem mIM_yX6_speeds : Cond.instanceMethod yX6_speeds ∈ wsL_law := List.mem_of_getElem? (i := 358) (by decide +kernel)
theorem mSE_yX6_speeds : Cond.selects RX6 yX6_speeds yX6_speeds ∈ wsL_law := List.mem_of_getElem? (i := 359) (by decide +kernel)
theorem mCO_yX6_speeds : Cond.code yX6_speeds cX6_speeds 6 none ∈ wsL_law := List.mem_of_getElem? (i := 360) (by decide +kernel)
theorem mML_X6_70 : Cond.methodLink RX6 70 yX6_due ∈ wsL_law := List.mem_of_getElem? (i := 361) (by decide +kernel)
theorem mIM_yX6_due : Cond.instanceMethod yX6_due ∈ wsL_law := List.mem_of_getElem? (i := 362) (by decide +kernel)
theorem mSE_yX6_due : Cond.selects RX6 yX6_due yX6_due ∈ wsL_law := List.mem_of_getElem? (i := 363) (by decide +kernel)
theorem mCO_yX6_due : Cond.code yX6_due cX6_due 3 (some .int) ∈ wsL_law := List.mem_of_getElem? (i := 364) (by decide +kernel)
theorem mML_X6_47 : Cond.methodLink RX6 47 yX6_byCurve ∈ wsL_law := List.mem_of_getElem? (i := 365) (by decide +kernel)
theorem mST_yX6_byCurve : Cond.static yX6_byCurve ∈ wsL_law := List.mem_of_getElem? (i := 366) (by decide +kernel)
theorem mCO_yX6_byCurve : Cond.code yX6_byCurve cX6_byCurve 3 (some .int) ∈ wsL_law := List.mem_of_getElem? (i := 367) (by decide +kernel)
theorem mML_X6_81 : Cond.methodLink RX6 81 yX6_goes ∈ wsL_law := List.mem_of_getElem? (i := 368) (by decide +kernel)
theorem mIM_yX6_goes : Cond.instanceMethod yX6_goes ∈ wsL_law := List.mem_of_getElem? (i := 369) (by decide +kernel)
theorem mSE_yX6_goes : Cond.selects RX6 yX6_goes yX6_goes ∈ wsL_law := List.mem_of_getElem? (i := 370) (by decide +kernel)
theorem mCO_yX6_goes : Cond.code yX6_goes cX6_goes 4 none ∈ wsL_law := List.mem_of_getElem? (i := 371) (by decide +kernel)
theorem mML_L_45 : Cond.methodLink RL 45 yX5_of ∈ wsL_law := List.mem_of_getElem? (i := 372) (by decide +kernel)
theorem mIM_yX5_of : Cond.instanceMethod yX5_of ∈ wsL_law := List.mem_of_getElem? (i := 373) (by decide +kernel)
theorem mSE_yX5_of : Cond.selects RX5 yX5_of yX5_of ∈ wsL_law := List.mem_of_getElem? (i := 374) (by decide +kernel)
theorem mCO_yX5_of : Cond.code yX5_of cX5_of 4 (some .int) ∈ wsL_law := List.mem_of_getElem? (i := 375) (by decide +kernel)
theorem mML_X5_79 : Cond.methodLink RX5 79 yX1_locoWith ∈ wsL_law := List.mem_of_getElem? (i := 376) (by decide +kernel)
theorem mIM_yX1_locoWith : Cond.instanceMethod yX1_locoWith ∈ wsL_law := List.mem_of_getElem? (i := 377) (by decide +kernel)
theorem mSE_yX1_locoWith : Cond.selects RX1 yX1_locoWith yX1_locoWith ∈ wsL_law := List.mem_of_getElem? (i := 378) (by decide +kernel)
theorem mCO_yX1_locoWith : Cond.code yX1_locoWith cX1_locoWith 2 (some (.object "LocoFrames$Loco")) ∈ wsL_law := List.mem_of_getElem? (i := 379) (by decide +kernel)
theorem mML_X1_72 : Cond.methodLink RX1 72 yX1_locoAt ∈ wsL_law := List.mem_of_getElem? (i := 380) (by decide +kernel)
theorem mIM_yX1_locoAt : Cond.instanceMethod yX1_locoAt ∈ wsL_law := List.mem_of_getElem? (i := 381) (by decide +kernel)
theorem mSE_yX1_locoAt : Cond.selects RX1 yX1_locoAt yX1_locoAt ∈ wsL_law := List.mem_of_getElem? (i := 382) (by decide +kernel)
theorem mCO_yX1_locoAt : Cond.code yX1_locoAt cX1_locoAt 2 (some (.object "LocoFrames$Loco")) ∈ wsL_law := List.mem_of_getElem? (i := 383) (by decide +kernel)
theorem mML_X5_83 : Cond.methodLink RX5 83 yX2_told ∈ wsL_law := List.mem_of_getElem? (i := 384) (by decide +kernel)
theorem mIM_yX2_told : Cond.instanceMethod yX2_told ∈ wsL_law := List.mem_of_getElem? (i := 385) (by decide +kernel)
theorem mSE_yX2_told : Cond.selects RX2 yX2_told yX2_told ∈ wsL_law := List.mem_of_getElem? (i := 386) (by decide +kernel)
theorem mCO_yX2_told : Cond.code yX2_told cX2_told 2 (some .int) ∈ wsL_law := List.mem_of_getElem? (i := 387) (by decide +kernel)
theorem mML_X2_74 : Cond.methodLink RX2 74 yX2_blockNumber ∈ wsL_law := List.mem_of_getElem? (i := 388) (by decide +kernel)
theorem mML_L_48 : Cond.methodLink RL 48 yX6_of ∈ wsL_law := List.mem_of_getElem? (i := 389) (by decide +kernel)
theorem mIM_yX6_of : Cond.instanceMethod yX6_of ∈ wsL_law := List.mem_of_getElem? (i := 390) (by decide +kernel)
theorem mSE_yX6_of : Cond.selects RX6 yX6_of yX6_of ∈ wsL_law := List.mem_of_getElem? (i := 391) (by decide +kernel)
theorem mCO_yX6_of : Cond.code yX6_of cX6_of 4 (some .int) ∈ wsL_law := List.mem_of_getElem? (i := 392) (by decide +kernel)
theorem mML_L_49 : Cond.methodLink RL 49 yX5_address ∈ wsL_law := List.mem_of_getElem? (i := 393) (by decide +kernel)
theorem mIM_yX5_address : Cond.instanceMethod yX5_address ∈ wsL_law := List.mem_of_getElem? (i := 394) (by decide +kernel)
theorem mSE_yX5_address : Cond.selects RX5 yX5_address yX5_address ∈ wsL_law := List.mem_of_getElem? (i := 395) (by decide +kernel)
theorem mCO_yX5_address : Cond.code yX5_address cX5_address 3 (some .int) ∈ wsL_law := List.mem_of_getElem? (i := 396) (by decide +kernel)
theorem mFL_X5_91 : Cond.fieldLink RX5 91 "LocoFrames$Loco" "address" "I" ∈ wsL_law := List.mem_of_getElem? (i := 397) (by decide +kernel)
theorem mML_X5_88 : Cond.methodLink RX5 88 yX1_locoAt ∈ wsL_law := List.mem_of_getElem? (i := 398) (by decide +kernel)
theorem mML_L_52 : Cond.methodLink RL 52 yX6_address ∈ wsL_law := List.mem_of_getElem? (i := 399) (by decide +kernel)
theorem mIM_yX6_address : Cond.instanceMethod yX6_address ∈ wsL_law := List.mem_of_getElem? (i := 400) (by decide +kernel)
theorem mSE_yX6_address : Cond.selects RX6 yX6_address yX6_address ∈ wsL_law := List.mem_of_getElem? (i := 401) (by decide +kernel)
theorem mCO_yX6_address : Cond.code yX6_address cX6_address 2 (some .int) ∈ wsL_law := List.mem_of_getElem? (i := 402) (by decide +kernel)
theorem mML_L_53 : Cond.methodLink RL 53 yX5_waiting ∈ wsL_law := List.mem_of_getElem? (i := 403) (by decide +kernel)
theorem mIM_yX5_waiting : Cond.instanceMethod yX5_waiting ∈ wsL_law := List.mem_of_getElem? (i := 404) (by decide +kernel)
theorem mSE_yX5_waiting : Cond.selects RX5 yX5_waiting yX5_waiting ∈ wsL_law := List.mem_of_getElem? (i := 405) (by decide +kernel)
theorem mCO_yX5_waiting : Cond.code yX5_waiting cX5_waiting 3 (some .int) ∈ wsL_law := List.mem_of_getElem? (i := 406) (by decide +kernel)
theorem mML_X5_95 : Cond.methodLink RX5 95 yX4_told ∈ wsL_law := List.mem_of_getElem? (i := 407) (by decide +kernel)
theorem mIM_yX4_told : Cond.instanceMethod yX4_told ∈ wsL_law := List.mem_of_getElem? (i := 408) (by decide +kernel)
theorem mSE_yX4_told : Cond.selects RX4 yX4_told yX4_told ∈ wsL_law := List.mem_of_getElem? (i := 409) (by decide +kernel)
theorem mCO_yX4_told : Cond.code yX4_told cX4_told 3 (some .int) ∈ wsL_law := List.mem_of_getElem? (i := 410) (by decide +kernel)
theorem mML_L_56 : Cond.methodLink RL 56 yX6_waiting ∈ wsL_law := List.mem_of_getElem? (i := 411) (by decide +kernel)
theorem mIM_yX6_waiting : Cond.instanceMethod yX6_waiting ∈ wsL_law := List.mem_of_getElem? (i := 412) (by decide +kernel)
theorem mSE_yX6_waiting : Cond.selects RX6 yX6_waiting yX6_waiting ∈ wsL_law := List.mem_of_getElem? (i := 413) (by decide +kernel)
theorem mCO_yX6_waiting : Cond.code yX6_waiting cX6_waiting 3 (some .int) ∈ wsL_law := List.mem_of_getElem? (i := 414) (by decide +kernel)
theorem mML_L_57 : Cond.methodLink RL 57 yX5_block ∈ wsL_law := List.mem_of_getElem? (i := 415) (by decide +kernel)
theorem mIM_yX5_block : Cond.instanceMethod yX5_block ∈ wsL_law := List.mem_of_getElem? (i := 416) (by decide +kernel)
theorem mSE_yX5_block : Cond.selects RX5 yX5_block yX5_block ∈ wsL_law := List.mem_of_getElem? (i := 417) (by decide +kernel)
theorem mCO_yX5_block : Cond.code yX5_block cX5_block 3 (some .int) ∈ wsL_law := List.mem_of_getElem? (i := 418) (by decide +kernel)
theorem mFL_X5_101 : Cond.fieldLink RX5 101 "LocoFrames$Layout" "shortTicks" "[I" ∈ wsL_law := List.mem_of_getElem? (i := 419) (by decide +kernel)
theorem mML_X5_97 : Cond.methodLink RX5 97 yX5_isBlock ∈ wsL_law := List.mem_of_getElem? (i := 420) (by decide +kernel)
theorem mML_X5_105 : Cond.methodLink RX5 105 yX1_locosIn ∈ wsL_law := List.mem_of_getElem? (i := 421) (by decide +kernel)
theorem mIM_yX1_locosIn : Cond.instanceMethod yX1_locosIn ∈ wsL_law := List.mem_of_getElem? (i := 422) (by decide +kernel)
theorem mSE_yX1_locosIn : Cond.selects RX1 yX1_locosIn yX1_locosIn ∈ wsL_law := List.mem_of_getElem? (i := 423) (by decide +kernel)
theorem mCO_yX1_locosIn : Cond.code yX1_locosIn cX1_locosIn 4 (some .int) ∈ wsL_law := List.mem_of_getElem? (i := 424) (by decide +kernel)
theorem mML_L_60 : Cond.methodLink RL 60 yX6_block ∈ wsL_law := List.mem_of_getElem? (i := 425) (by decide +kernel)
theorem mIM_yX6_block : Cond.instanceMethod yX6_block ∈ wsL_law := List.mem_of_getElem? (i := 426) (by decide +kernel)
theorem mSE_yX6_block : Cond.selects RX6 yX6_block yX6_block ∈ wsL_law := List.mem_of_getElem? (i := 427) (by decide +kernel)
theorem mCO_yX6_block : Cond.code yX6_block cX6_block 3 (some .int) ∈ wsL_law := List.mem_of_getElem? (i := 428) (by decide +kernel)
theorem mML_X6_112 : Cond.methodLink RX6 112 yX6_locosIn ∈ wsL_law := List.mem_of_getElem? (i := 429) (by decide +kernel)
theorem mIM_yX6_locosIn : Cond.instanceMethod yX6_locosIn ∈ wsL_law := List.mem_of_getElem? (i := 430) (by decide +kernel)
theorem mSE_yX6_locosIn : Cond.selects RX6 yX6_locosIn yX6_locosIn ∈ wsL_law := List.mem_of_getElem? (i := 431) (by decide +kernel)
theorem mCO_yX6_locosIn : Cond.code yX6_locosIn cX6_locosIn 4 (some .int) ∈ wsL_law := List.mem_of_getElem? (i := 432) (by decide +kernel)
theorem mML_L_61 : Cond.methodLink RL 61 yX5_count ∈ wsL_law := List.mem_of_getElem? (i := 433) (by decide +kernel)
theorem mIM_yX5_count : Cond.instanceMethod yX5_count ∈ wsL_law := List.mem_of_getElem? (i := 434) (by decide +kernel)
theorem mSE_yX5_count : Cond.selects RX5 yX5_count yX5_count ∈ wsL_law := List.mem_of_getElem? (i := 435) (by decide +kernel)
theorem mCO_yX5_count : Cond.code yX5_count cX5_count 2 (some .int) ∈ wsL_law := List.mem_of_getElem? (i := 436) (by decide +kernel)
theorem mFL_X5_108 : Cond.fieldLink RX5 108 "LocoFrames$Layout" "ticks" "I" ∈ wsL_law := List.mem_of_getElem? (i := 437) (by decide +kernel)
theorem mFL_X5_111 : Cond.fieldLink RX5 111 "LocoFrames$Layout" "locoCount" "I" ∈ wsL_law := List.mem_of_getElem? (i := 438) (by decide +kernel)
theorem mFL_X5_114 : Cond.fieldLink RX5 114 "LocoFrames$Station" "held" "I" ∈ wsL_law := List.mem_of_getElem? (i := 439) (by decide +kernel)
theorem mFL_X5_117 : Cond.fieldLink RX5 117 "LocoFrames$Layout" "noiseTicks" "I" ∈ wsL_law := List.mem_of_getElem? (i := 440) (by decide +kernel)
theorem mFL_X5_120 : Cond.fieldLink RX5 120 "LocoFrames$Layout" "frames" "I" ∈ wsL_law := List.mem_of_getElem? (i := 441) (by decide +kernel)
theorem mFL_X5_123 : Cond.fieldLink RX5 123 "LocoFrames$Layout" "broken" "I" ∈ wsL_law := List.mem_of_getElem? (i := 442) (by decide +kernel)
theorem mFL_X5_126 : Cond.fieldLink RX5 126 "LocoFrames$Layout" "spoiled" "I" ∈ wsL_law := List.mem_of_getElem? (i := 443) (by decide +kernel)
theorem mFL_X5_139 : Cond.fieldLink RX5 139 "LocoFrames$Pad" "length" "I" ∈ wsL_law := List.mem_of_getElem? (i := 444) (by decide +kernel)
theorem mFL_X5_142 : Cond.fieldLink RX5 142 "LocoFrames$History" "held" "I" ∈ wsL_law := List.mem_of_getElem? (i := 445) (by decide +kernel)
theorem mML_X5_129 : Cond.methodLink RX5 129 yX1_blocksWithShort ∈ wsL_law := List.mem_of_getElem? (i := 446) (by decide +kernel)
theorem mIM_yX1_blocksWithShort : Cond.instanceMethod yX1_blocksWithShort ∈ wsL_law := List.mem_of_getElem? (i := 447) (by decide +kernel)
theorem mSE_yX1_blocksWithShort : Cond.selects RX1 yX1_blocksWithShort yX1_blocksWithShort ∈ wsL_law := List.mem_of_getElem? (i := 448) (by decide +kernel)
theorem mCO_yX1_blocksWithShort : Cond.code yX1_blocksWithShort cX1_blocksWithShort 3 (some .int) ∈ wsL_law := List.mem_of_getElem? (i := 449) (by decide +kernel)
theorem mML_X5_133 : Cond.methodLink RX5 133 yX1_crowdedBlocks ∈ wsL_law := List.mem_of_getElem? (i := 450) (by decide +kernel)
theorem mIM_yX1_crowdedBlocks : Cond.instanceMethod yX1_crowdedBlocks ∈ wsL_law := List.mem_of_getElem? (i := 451) (by decide +kernel)
theorem mSE_yX1_crowdedBlocks : Cond.selects RX1 yX1_crowdedBlocks yX1_crowdedBlocks ∈ wsL_law := List.mem_of_getElem? (i := 452) (by decide +kernel)
theorem mCO_yX1_crowdedBlocks : Cond.code yX1_crowdedBlocks cX1_crowdedBlocks 3 (some .int) ∈ wsL_law := List.mem_of_getElem? (i := 453) (by decide +kernel)
theorem mML_X1_136 : Cond.methodLink RX1 136 yX1_locosIn ∈ wsL_law := List.mem_of_getElem? (i := 454) (by decide +kernel)
theorem mML_X5_136 : Cond.methodLink RX5 136 yX1_speedSum ∈ wsL_law := List.mem_of_getElem? (i := 455) (by decide +kernel)
theorem mIM_yX1_speedSum : Cond.instanceMethod yX1_speedSum ∈ wsL_law := List.mem_of_getElem? (i := 456) (by decide +kernel)
theorem mSE_yX1_speedSum : Cond.selects RX1 yX1_speedSum yX1_speedSum ∈ wsL_law := List.mem_of_getElem? (i := 457) (by decide +kernel)
theorem mCO_yX1_speedSum : Cond.code yX1_speedSum cX1_speedSum 3 (some .int) ∈ wsL_law := List.mem_of_getElem? (i := 458) (by decide +kernel)
theorem mML_L_64 : Cond.methodLink RL 64 yX6_count ∈ wsL_law := List.mem_of_getElem? (i := 459) (by decide +kernel)
theorem mIM_yX6_count : Cond.instanceMethod yX6_count ∈ wsL_law := List.mem_of_getElem? (i := 460) (by decide +kernel)
theorem mSE_yX6_count : Cond.selects RX6 yX6_count yX6_count ∈ wsL_law := List.mem_of_getElem? (i := 461) (by decide +kernel)
theorem mCO_yX6_count : Cond.code yX6_count cX6_count 2 (some .int) ∈ wsL_law := List.mem_of_getElem? (i := 462) (by decide +kernel)
theorem mFL_X6_121 : Cond.fieldLink RX6 121 "LocoFramesModel" "length" "I" ∈ wsL_law := List.mem_of_getElem? (i := 463) (by decide +kernel)
theorem mML_X6_115 : Cond.methodLink RX6 115 yX6_overBlocks ∈ wsL_law := List.mem_of_getElem? (i := 464) (by decide +kernel)
theorem mIM_yX6_overBlocks : Cond.instanceMethod yX6_overBlocks ∈ wsL_law := List.mem_of_getElem? (i := 465) (by decide +kernel)
theorem mSE_yX6_overBlocks : Cond.selects RX6 yX6_overBlocks yX6_overBlocks ∈ wsL_law := List.mem_of_getElem? (i := 466) (by decide +kernel)
theorem mCO_yX6_overBlocks : Cond.code yX6_overBlocks cX6_overBlocks 4 (some .int) ∈ wsL_law := List.mem_of_getElem? (i := 467) (by decide +kernel)
theorem mML_X6_118 : Cond.methodLink RX6 118 yX6_allSpeeds ∈ wsL_law := List.mem_of_getElem? (i := 468) (by decide +kernel)
theorem mIM_yX6_allSpeeds : Cond.instanceMethod yX6_allSpeeds ∈ wsL_law := List.mem_of_getElem? (i := 469) (by decide +kernel)
theorem mSE_yX6_allSpeeds : Cond.selects RX6 yX6_allSpeeds yX6_allSpeeds ∈ wsL_law := List.mem_of_getElem? (i := 470) (by decide +kernel)
theorem mCO_yX6_allSpeeds : Cond.code yX6_allSpeeds cX6_allSpeeds 3 (some .int) ∈ wsL_law := List.mem_of_getElem? (i := 471) (by decide +kernel)
theorem mML_L_65 : Cond.methodLink RL 65 yX5_reaches ∈ wsL_law := List.mem_of_getElem? (i := 472) (by decide +kernel)
theorem mIM_yX5_reaches : Cond.instanceMethod yX5_reaches ∈ wsL_law := List.mem_of_getElem? (i := 473) (by decide +kernel)
theorem mSE_yX5_reaches : Cond.selects RX5 yX5_reaches yX5_reaches ∈ wsL_law := List.mem_of_getElem? (i := 474) (by decide +kernel)
theorem mCO_yX5_reaches : Cond.code yX5_reaches cX5_reaches 5 (some .int) ∈ wsL_law := List.mem_of_getElem? (i := 475) (by decide +kernel)
theorem mML_X5_143 : Cond.methodLink RX5 143 yX1_copyFrom ∈ wsL_law := List.mem_of_getElem? (i := 476) (by decide +kernel)
theorem mML_X5_146 : Cond.methodLink RX5 146 yX2_blockNumber ∈ wsL_law := List.mem_of_getElem? (i := 477) (by decide +kernel)
theorem mML_X5_149 : Cond.methodLink RX5 149 yX1_tick ∈ wsL_law := List.mem_of_getElem? (i := 478) (by decide +kernel)
theorem mML_L_68 : Cond.methodLink RL 68 yX6_reaches ∈ wsL_law := List.mem_of_getElem? (i := 479) (by decide +kernel)
theorem mIM_yX6_reaches : Cond.instanceMethod yX6_reaches ∈ wsL_law := List.mem_of_getElem? (i := 480) (by decide +kernel)
theorem mSE_yX6_reaches : Cond.selects RX6 yX6_reaches yX6_reaches ∈ wsL_law := List.mem_of_getElem? (i := 481) (by decide +kernel)
theorem mCO_yX6_reaches : Cond.code yX6_reaches cX6_reaches 5 (some .int) ∈ wsL_law := List.mem_of_getElem? (i := 482) (by decide +kernel)
theorem mML_X6_124 : Cond.methodLink RX6 124 yX6_putAside ∈ wsL_law := List.mem_of_getElem? (i := 483) (by decide +kernel)
theorem mIM_yX6_putAside : Cond.instanceMethod yX6_putAside ∈ wsL_law := List.mem_of_getElem? (i := 484) (by decide +kernel)
theorem mSE_yX6_putAside : Cond.selects RX6 yX6_putAside yX6_putAside ∈ wsL_law := List.mem_of_getElem? (i := 485) (by decide +kernel)
theorem mCO_yX6_putAside : Cond.code yX6_putAside cX6_putAside 2 none ∈ wsL_law := List.mem_of_getElem? (i := 486) (by decide +kernel)
theorem mML_X6_127 : Cond.methodLink RX6 127 yX6_takeBack ∈ wsL_law := List.mem_of_getElem? (i := 487) (by decide +kernel)
theorem mIM_yX6_takeBack : Cond.instanceMethod yX6_takeBack ∈ wsL_law := List.mem_of_getElem? (i := 488) (by decide +kernel)
theorem mSE_yX6_takeBack : Cond.selects RX6 yX6_takeBack yX6_takeBack ∈ wsL_law := List.mem_of_getElem? (i := 489) (by decide +kernel)
theorem mCO_yX6_takeBack : Cond.code yX6_takeBack cX6_takeBack 2 none ∈ wsL_law := List.mem_of_getElem? (i := 490) (by decide +kernel)
theorem mML_L_69 : Cond.methodLink RL 69 yX5_settles ∈ wsL_law := List.mem_of_getElem? (i := 491) (by decide +kernel)
theorem mIM_yX5_settles : Cond.instanceMethod yX5_settles ∈ wsL_law := List.mem_of_getElem? (i := 492) (by decide +kernel)
theorem mSE_yX5_settles : Cond.selects RX5 yX5_settles yX5_settles ∈ wsL_law := List.mem_of_getElem? (i := 493) (by decide +kernel)
theorem mCO_yX5_settles : Cond.code yX5_settles cX5_settles 3 (some .int) ∈ wsL_law := List.mem_of_getElem? (i := 494) (by decide +kernel)
theorem mML_X5_152 : Cond.methodLink RX5 152 yX2_ticksToGoal ∈ wsL_law := List.mem_of_getElem? (i := 495) (by decide +kernel)
theorem mIM_yX2_ticksToGoal : Cond.instanceMethod yX2_ticksToGoal ∈ wsL_law := List.mem_of_getElem? (i := 496) (by decide +kernel)
theorem mSE_yX2_ticksToGoal : Cond.selects RX2 yX2_ticksToGoal yX2_ticksToGoal ∈ wsL_law := List.mem_of_getElem? (i := 497) (by decide +kernel)
theorem mCO_yX2_ticksToGoal : Cond.code yX2_ticksToGoal cX2_ticksToGoal 3 (some .int) ∈ wsL_law := List.mem_of_getElem? (i := 498) (by decide +kernel)
theorem mML_X2_56 : Cond.methodLink RX2 56 Lib.Math.abs.name ∈ wsL_law := List.mem_of_getElem? (i := 499) (by decide +kernel)
theorem mST_LMabs : Cond.static Lib.Math.abs.name ∈ wsL_law := List.mem_of_getElem? (i := 500) (by decide +kernel)
theorem mCO_LMabs : Cond.code Lib.Math.abs.name Lib.Math.abs.code 1 (some .int) ∈ wsL_law := List.mem_of_getElem? (i := 501) (by decide +kernel)
theorem mML_L_72 : Cond.methodLink RL 72 yX6_settles ∈ wsL_law := List.mem_of_getElem? (i := 502) (by decide +kernel)
theorem mIM_yX6_settles : Cond.instanceMethod yX6_settles ∈ wsL_law := List.mem_of_getElem? (i := 503) (by decide +kernel)
theorem mSE_yX6_settles : Cond.selects RX6 yX6_settles yX6_settles ∈ wsL_law := List.mem_of_getElem? (i := 504) (by decide +kernel)
theorem mCO_yX6_settles : Cond.code yX6_settles cX6_settles 5 (some .int) ∈ wsL_law := List.mem_of_getElem? (i := 505) (by decide +kernel)
theorem mML_L_73 : Cond.methodLink RL 73 yX5_meets ∈ wsL_law := List.mem_of_getElem? (i := 506) (by decide +kernel)
theorem mIM_yX5_meets : Cond.instanceMethod yX5_meets ∈ wsL_law := List.mem_of_getElem? (i := 507) (by decide +kernel)
theorem mSE_yX5_meets : Cond.selects RX5 yX5_meets yX5_meets ∈ wsL_law := List.mem_of_getElem? (i := 508) (by decide +kernel)
theorem mCO_yX5_meets : Cond.code yX5_meets cX5_meets 6 (some .int) ∈ wsL_law := List.mem_of_getElem? (i := 509) (by decide +kernel)
theorem mML_L_76 : Cond.methodLink RL 76 yX6_meets ∈ wsL_law := List.mem_of_getElem? (i := 510) (by decide +kernel)
theorem mIM_yX6_meets : Cond.instanceMethod yX6_meets ∈ wsL_law := List.mem_of_getElem? (i := 511) (by decide +kernel)
theorem mSE_yX6_meets : Cond.selects RX6 yX6_meets yX6_meets ∈ wsL_law := List.mem_of_getElem? (i := 512) (by decide +kernel)
theorem mCO_yX6_meets : Cond.code yX6_meets cX6_meets 6 (some .int) ∈ wsL_law := List.mem_of_getElem? (i := 513) (by decide +kernel)
theorem mML_L_77 : Cond.methodLink RL 77 yX5_stepFor ∈ wsL_law := List.mem_of_getElem? (i := 514) (by decide +kernel)
theorem mIM_yX5_stepFor : Cond.instanceMethod yX5_stepFor ∈ wsL_law := List.mem_of_getElem? (i := 515) (by decide +kernel)
theorem mSE_yX5_stepFor : Cond.selects RX5 yX5_stepFor yX5_stepFor ∈ wsL_law := List.mem_of_getElem? (i := 516) (by decide +kernel)
theorem mCO_yX5_stepFor : Cond.code yX5_stepFor cX5_stepFor 5 (some .int) ∈ wsL_law := List.mem_of_getElem? (i := 517) (by decide +kernel)
theorem mFL_X5_159 : Cond.fieldLink RX5 159 "LocoFrames$Loco" "curve" "I" ∈ wsL_law := List.mem_of_getElem? (i := 518) (by decide +kernel)
theorem mML_X5_162 : Cond.methodLink RX5 162 yX5_curveSpeed ∈ wsL_law := List.mem_of_getElem? (i := 519) (by decide +kernel)
theorem mML_L_80 : Cond.methodLink RL 80 yX6_stepFor ∈ wsL_law := List.mem_of_getElem? (i := 520) (by decide +kernel)
theorem mIM_yX6_stepFor : Cond.instanceMethod yX6_stepFor ∈ wsL_law := List.mem_of_getElem? (i := 521) (by decide +kernel)
theorem mSE_yX6_stepFor : Cond.selects RX6 yX6_stepFor yX6_stepFor ∈ wsL_law := List.mem_of_getElem? (i := 522) (by decide +kernel)
theorem mCO_yX6_stepFor : Cond.code yX6_stepFor cX6_stepFor 5 (some .int) ∈ wsL_law := List.mem_of_getElem? (i := 523) (by decide +kernel)
theorem mML_L_83 : Cond.methodLink RL 83 yX5_put ∈ wsL_law := List.mem_of_getElem? (i := 524) (by decide +kernel)
theorem mIM_yX5_put : Cond.instanceMethod yX5_put ∈ wsL_law := List.mem_of_getElem? (i := 525) (by decide +kernel)
theorem mSE_yX5_put : Cond.selects RX5 yX5_put yX5_put ∈ wsL_law := List.mem_of_getElem? (i := 526) (by decide +kernel)
theorem mCO_yX5_put : Cond.code yX5_put cX5_put 3 (some .int) ∈ wsL_law := List.mem_of_getElem? (i := 527) (by decide +kernel)
theorem mML_X5_165 : Cond.methodLink RX5 165 yX3_append ∈ wsL_law := List.mem_of_getElem? (i := 528) (by decide +kernel)
theorem mIM_yX3_append : Cond.instanceMethod yX3_append ∈ wsL_law := List.mem_of_getElem? (i := 529) (by decide +kernel)
theorem mSE_yX3_append : Cond.selects RX3 yX3_append yX3_append ∈ wsL_law := List.mem_of_getElem? (i := 530) (by decide +kernel)
theorem mCO_yX3_append : Cond.code yX3_append cX3_append 5 (some .int) ∈ wsL_law := List.mem_of_getElem? (i := 531) (by decide +kernel)
theorem mFL_X3_23 : Cond.fieldLink RX3 23 "LocoFrames$Pad" "length" "I" ∈ wsL_law := List.mem_of_getElem? (i := 532) (by decide +kernel)
theorem mML_X3_19 : Cond.methodLink RX3 19 yX3_countOf ∈ wsL_law := List.mem_of_getElem? (i := 533) (by decide +kernel)
theorem mST_yX3_countOf : Cond.static yX3_countOf ∈ wsL_law := List.mem_of_getElem? (i := 534) (by decide +kernel)
theorem mCO_yX3_countOf : Cond.code yX3_countOf cX3_countOf 4 (some .int) ∈ wsL_law := List.mem_of_getElem? (i := 535) (by decide +kernel)
theorem mML_X3_27 : Cond.methodLink RX3 27 yX3_codeAt ∈ wsL_law := List.mem_of_getElem? (i := 536) (by decide +kernel)
theorem mST_yX3_codeAt : Cond.static yX3_codeAt ∈ wsL_law := List.mem_of_getElem? (i := 537) (by decide +kernel)
theorem mCO_yX3_codeAt : Cond.code yX3_codeAt cX3_codeAt 3 (some .int) ∈ wsL_law := List.mem_of_getElem? (i := 538) (by decide +kernel)
theorem mML_L_87 : Cond.methodLink RL 87 yX6_put ∈ wsL_law := List.mem_of_getElem? (i := 539) (by decide +kernel)
theorem mIM_yX6_put : Cond.instanceMethod yX6_put ∈ wsL_law := List.mem_of_getElem? (i := 540) (by decide +kernel)
theorem mSE_yX6_put : Cond.selects RX6 yX6_put yX6_put ∈ wsL_law := List.mem_of_getElem? (i := 541) (by decide +kernel)
theorem mCO_yX6_put : Cond.code yX6_put cX6_put 8 (some .int) ∈ wsL_law := List.mem_of_getElem? (i := 542) (by decide +kernel)
theorem mCN_X6_130 : Cond.constantLong RX6 130 (255) ∈ wsL_law := List.mem_of_getElem? (i := 543) (by decide +kernel)
theorem mML_L_88 : Cond.methodLink RL 88 yX5_wipe ∈ wsL_law := List.mem_of_getElem? (i := 544) (by decide +kernel)
theorem mIM_yX5_wipe : Cond.instanceMethod yX5_wipe ∈ wsL_law := List.mem_of_getElem? (i := 545) (by decide +kernel)
theorem mSE_yX5_wipe : Cond.selects RX5 yX5_wipe yX5_wipe ∈ wsL_law := List.mem_of_getElem? (i := 546) (by decide +kernel)
theorem mCO_yX5_wipe : Cond.code yX5_wipe cX5_wipe 1 (some .int) ∈ wsL_law := List.mem_of_getElem? (i := 547) (by decide +kernel)
theorem mML_X5_169 : Cond.methodLink RX5 169 yX3_clear ∈ wsL_law := List.mem_of_getElem? (i := 548) (by decide +kernel)
theorem mIM_yX3_clear : Cond.instanceMethod yX3_clear ∈ wsL_law := List.mem_of_getElem? (i := 549) (by decide +kernel)
theorem mSE_yX3_clear : Cond.selects RX3 yX3_clear yX3_clear ∈ wsL_law := List.mem_of_getElem? (i := 550) (by decide +kernel)
theorem mCO_yX3_clear : Cond.code yX3_clear cX3_clear 2 (some .int) ∈ wsL_law := List.mem_of_getElem? (i := 551) (by decide +kernel)
theorem mML_L_92 : Cond.methodLink RL 92 yX6_wipe ∈ wsL_law := List.mem_of_getElem? (i := 552) (by decide +kernel)
theorem mIM_yX6_wipe : Cond.instanceMethod yX6_wipe ∈ wsL_law := List.mem_of_getElem? (i := 553) (by decide +kernel)
theorem mSE_yX6_wipe : Cond.selects RX6 yX6_wipe yX6_wipe ∈ wsL_law := List.mem_of_getElem? (i := 554) (by decide +kernel)
theorem mCO_yX6_wipe : Cond.code yX6_wipe cX6_wipe 2 (some .int) ∈ wsL_law := List.mem_of_getElem? (i := 555) (by decide +kernel)
theorem mML_L_93 : Cond.methodLink RL 93 yX5_fault ∈ wsL_law := List.mem_of_getElem? (i := 556) (by decide +kernel)
theorem mIM_yX5_fault : Cond.instanceMethod yX5_fault ∈ wsL_law := List.mem_of_getElem? (i := 557) (by decide +kernel)
theorem mSE_yX5_fault : Cond.selects RX5 yX5_fault yX5_fault ∈ wsL_law := List.mem_of_getElem? (i := 558) (by decide +kernel)
theorem mCO_yX5_fault : Cond.code yX5_fault cX5_fault 1 (some .int) ∈ wsL_law := List.mem_of_getElem? (i := 559) (by decide +kernel)
theorem mML_X5_172 : Cond.methodLink RX5 172 yX3_firstFault ∈ wsL_law := List.mem_of_getElem? (i := 560) (by decide +kernel)
theorem mIM_yX3_firstFault : Cond.instanceMethod yX3_firstFault ∈ wsL_law := List.mem_of_getElem? (i := 561) (by decide +kernel)
theorem mSE_yX3_firstFault : Cond.selects RX3 yX3_firstFault yX3_firstFault ∈ wsL_law := List.mem_of_getElem? (i := 562) (by decide +kernel)
theorem mCO_yX3_firstFault : Cond.code yX3_firstFault cX3_firstFault 2 (some .int) ∈ wsL_law := List.mem_of_getElem? (i := 563) (by decide +kernel)
theorem mFL_X3_35 : Cond.fieldLink RX3 35 "LocoFrames$Pad" "at" "I" ∈ wsL_law := List.mem_of_getElem? (i := 564) (by decide +kernel)
theorem mML_X3_38 : Cond.methodLink RX3 38 yX3_rewind ∈ wsL_law := List.mem_of_getElem? (i := 565) (by decide +kernel)
theorem mIM_yX3_rewind : Cond.instanceMethod yX3_rewind ∈ wsL_law := List.mem_of_getElem? (i := 566) (by decide +kernel)
theorem mSE_yX3_rewind : Cond.selects RX3 yX3_rewind yX3_rewind ∈ wsL_law := List.mem_of_getElem? (i := 567) (by decide +kernel)
theorem mCO_yX3_rewind : Cond.code yX3_rewind cX3_rewind 1 none ∈ wsL_law := List.mem_of_getElem? (i := 568) (by decide +kernel)
theorem mML_X3_41 : Cond.methodLink RX3 41 yX3_readsOrder ∈ wsL_law := List.mem_of_getElem? (i := 569) (by decide +kernel)
theorem mIM_yX3_readsOrder : Cond.instanceMethod yX3_readsOrder ∈ wsL_law := List.mem_of_getElem? (i := 570) (by decide +kernel)
theorem mSE_yX3_readsOrder : Cond.selects RX3 yX3_readsOrder yX3_readsOrder ∈ wsL_law := List.mem_of_getElem? (i := 571) (by decide +kernel)
theorem mCO_yX3_readsOrder : Cond.code yX3_readsOrder cX3_readsOrder 1 (some .boolean) ∈ wsL_law := List.mem_of_getElem? (i := 572) (by decide +kernel)
theorem mFL_X3_53 : Cond.fieldLink RX3 53 "LocoFrames$Pad" "kind" "I" ∈ wsL_law := List.mem_of_getElem? (i := 573) (by decide +kernel)
theorem mFL_X3_56 : Cond.fieldLink RX3 56 "LocoFrames$Pad" "numbersRead" "I" ∈ wsL_law := List.mem_of_getElem? (i := 574) (by decide +kernel)
theorem mML_X3_49 : Cond.methodLink RX3 49 yX3_here ∈ wsL_law := List.mem_of_getElem? (i := 575) (by decide +kernel)
theorem mIM_yX3_here : Cond.instanceMethod yX3_here ∈ wsL_law := List.mem_of_getElem? (i := 576) (by decide +kernel)
theorem mSE_yX3_here : Cond.selects RX3 yX3_here yX3_here ∈ wsL_law := List.mem_of_getElem? (i := 577) (by decide +kernel)
theorem mCO_yX3_here : Cond.code yX3_here cX3_here 1 (some .int) ∈ wsL_law := List.mem_of_getElem? (i := 578) (by decide +kernel)
theorem mML_X3_59 : Cond.methodLink RX3 59 yX3_readsNumber ∈ wsL_law := List.mem_of_getElem? (i := 579) (by decide +kernel)
theorem mIM_yX3_readsNumber : Cond.instanceMethod yX3_readsNumber ∈ wsL_law := List.mem_of_getElem? (i := 580) (by decide +kernel)
theorem mSE_yX3_readsNumber : Cond.selects RX3 yX3_readsNumber yX3_readsNumber ∈ wsL_law := List.mem_of_getElem? (i := 581) (by decide +kernel)
theorem mCO_yX3_readsNumber : Cond.code yX3_readsNumber cX3_readsNumber 3 (some .boolean) ∈ wsL_law := List.mem_of_getElem? (i := 582) (by decide +kernel)
theorem mML_X3_65 : Cond.methodLink RX3 65 yX3_hold ∈ wsL_law := List.mem_of_getElem? (i := 583) (by decide +kernel)
theorem mIM_yX3_hold : Cond.instanceMethod yX3_hold ∈ wsL_law := List.mem_of_getElem? (i := 584) (by decide +kernel)
theorem mSE_yX3_hold : Cond.selects RX3 yX3_hold yX3_hold ∈ wsL_law := List.mem_of_getElem? (i := 585) (by decide +kernel)
theorem mCO_yX3_hold : Cond.code yX3_hold cX3_hold 2 none ∈ wsL_law := List.mem_of_getElem? (i := 586) (by decide +kernel)
theorem mML_X3_45 : Cond.methodLink RX3 45 yX3_reads ∈ wsL_law := List.mem_of_getElem? (i := 587) (by decide +kernel)
theorem mIM_yX3_reads : Cond.instanceMethod yX3_reads ∈ wsL_law := List.mem_of_getElem? (i := 588) (by decide +kernel)
theorem mSE_yX3_reads : Cond.selects RX3 yX3_reads yX3_reads ∈ wsL_law := List.mem_of_getElem? (i := 589) (by decide +kernel)
theorem mCO_yX3_reads : Cond.code yX3_reads cX3_reads 2 (some .boolean) ∈ wsL_law := List.mem_of_getElem? (i := 590) (by decide +kernel)
theorem mML_X3_62 : Cond.methodLink RX3 62 yX3_readsDigit ∈ wsL_law := List.mem_of_getElem? (i := 591) (by decide +kernel)
theorem mIM_yX3_readsDigit : Cond.instanceMethod yX3_readsDigit ∈ wsL_law := List.mem_of_getElem? (i := 592) (by decide +kernel)
theorem mSE_yX3_readsDigit : Cond.selects RX3 yX3_readsDigit yX3_readsDigit ∈ wsL_law := List.mem_of_getElem? (i := 593) (by decide +kernel)
theorem mCO_yX3_readsDigit : Cond.code yX3_readsDigit cX3_readsDigit 2 (some .boolean) ∈ wsL_law := List.mem_of_getElem? (i := 594) (by decide +kernel)
theorem mML_L_96 : Cond.methodLink RL 96 yX6_fault ∈ wsL_law := List.mem_of_getElem? (i := 595) (by decide +kernel)
theorem mIM_yX6_fault : Cond.instanceMethod yX6_fault ∈ wsL_law := List.mem_of_getElem? (i := 596) (by decide +kernel)
theorem mSE_yX6_fault : Cond.selects RX6 yX6_fault yX6_fault ∈ wsL_law := List.mem_of_getElem? (i := 597) (by decide +kernel)
theorem mCO_yX6_fault : Cond.code yX6_fault cX6_fault 1 (some .int) ∈ wsL_law := List.mem_of_getElem? (i := 598) (by decide +kernel)
theorem mML_X6_157 : Cond.methodLink RX6 157 yX6_reads ∈ wsL_law := List.mem_of_getElem? (i := 599) (by decide +kernel)
theorem mIM_yX6_reads : Cond.instanceMethod yX6_reads ∈ wsL_law := List.mem_of_getElem? (i := 600) (by decide +kernel)
theorem mSE_yX6_reads : Cond.selects RX6 yX6_reads yX6_reads ∈ wsL_law := List.mem_of_getElem? (i := 601) (by decide +kernel)
theorem mCO_yX6_reads : Cond.code yX6_reads cX6_reads 1 (some .int) ∈ wsL_law := List.mem_of_getElem? (i := 602) (by decide +kernel)
theorem mFL_X6_132 : Cond.fieldLink RX6 132 "LocoFramesModel" "at" "I" ∈ wsL_law := List.mem_of_getElem? (i := 603) (by decide +kernel)
theorem mFL_X6_135 : Cond.fieldLink RX6 135 "LocoFramesModel" "isWell" "Z" ∈ wsL_law := List.mem_of_getElem? (i := 604) (by decide +kernel)
theorem mFL_X6_145 : Cond.fieldLink RX6 145 "LocoFramesModel" "toldMany" "I" ∈ wsL_law := List.mem_of_getElem? (i := 605) (by decide +kernel)
theorem mML_X6_154 : Cond.methodLink RX6 154 yX6_readsOrder ∈ wsL_law := List.mem_of_getElem? (i := 606) (by decide +kernel)
theorem mIM_yX6_readsOrder : Cond.instanceMethod yX6_readsOrder ∈ wsL_law := List.mem_of_getElem? (i := 607) (by decide +kernel)
theorem mSE_yX6_readsOrder : Cond.selects RX6 yX6_readsOrder yX6_readsOrder ∈ wsL_law := List.mem_of_getElem? (i := 608) (by decide +kernel)
theorem mCO_yX6_readsOrder : Cond.code yX6_readsOrder cX6_readsOrder 3 none ∈ wsL_law := List.mem_of_getElem? (i := 609) (by decide +kernel)
theorem mML_X6_139 : Cond.methodLink RX6 139 yX6_sign ∈ wsL_law := List.mem_of_getElem? (i := 610) (by decide +kernel)
theorem mIM_yX6_sign : Cond.instanceMethod yX6_sign ∈ wsL_law := List.mem_of_getElem? (i := 611) (by decide +kernel)
theorem mSE_yX6_sign : Cond.selects RX6 yX6_sign yX6_sign ∈ wsL_law := List.mem_of_getElem? (i := 612) (by decide +kernel)
theorem mCO_yX6_sign : Cond.code yX6_sign cX6_sign 1 (some .int) ∈ wsL_law := List.mem_of_getElem? (i := 613) (by decide +kernel)
theorem mML_X6_142 : Cond.methodLink RX6 142 yX6_digit ∈ wsL_law := List.mem_of_getElem? (i := 614) (by decide +kernel)
theorem mIM_yX6_digit : Cond.instanceMethod yX6_digit ∈ wsL_law := List.mem_of_getElem? (i := 615) (by decide +kernel)
theorem mSE_yX6_digit : Cond.selects RX6 yX6_digit yX6_digit ∈ wsL_law := List.mem_of_getElem? (i := 616) (by decide +kernel)
theorem mCO_yX6_digit : Cond.code yX6_digit cX6_digit 3 (some .int) ∈ wsL_law := List.mem_of_getElem? (i := 617) (by decide +kernel)
theorem mML_X6_148 : Cond.methodLink RX6 148 yX6_number ∈ wsL_law := List.mem_of_getElem? (i := 618) (by decide +kernel)
theorem mIM_yX6_number : Cond.instanceMethod yX6_number ∈ wsL_law := List.mem_of_getElem? (i := 619) (by decide +kernel)
theorem mSE_yX6_number : Cond.selects RX6 yX6_number yX6_number ∈ wsL_law := List.mem_of_getElem? (i := 620) (by decide +kernel)
theorem mCO_yX6_number : Cond.code yX6_number cX6_number 3 (some .int) ∈ wsL_law := List.mem_of_getElem? (i := 621) (by decide +kernel)
theorem mML_X6_151 : Cond.methodLink RX6 151 yX6_wants ∈ wsL_law := List.mem_of_getElem? (i := 622) (by decide +kernel)
theorem mIM_yX6_wants : Cond.instanceMethod yX6_wants ∈ wsL_law := List.mem_of_getElem? (i := 623) (by decide +kernel)
theorem mSE_yX6_wants : Cond.selects RX6 yX6_wants yX6_wants ∈ wsL_law := List.mem_of_getElem? (i := 624) (by decide +kernel)
theorem mCO_yX6_wants : Cond.code yX6_wants cX6_wants 2 none ∈ wsL_law := List.mem_of_getElem? (i := 625) (by decide +kernel)
theorem mML_L_97 : Cond.methodLink RL 97 yX5_carryOut ∈ wsL_law := List.mem_of_getElem? (i := 626) (by decide +kernel)
theorem mIM_yX5_carryOut : Cond.instanceMethod yX5_carryOut ∈ wsL_law := List.mem_of_getElem? (i := 627) (by decide +kernel)
theorem mSE_yX5_carryOut : Cond.selects RX5 yX5_carryOut yX5_carryOut ∈ wsL_law := List.mem_of_getElem? (i := 628) (by decide +kernel)
theorem mCO_yX5_carryOut : Cond.code yX5_carryOut cX5_carryOut 3 (some .int) ∈ wsL_law := List.mem_of_getElem? (i := 629) (by decide +kernel)
theorem mML_X5_175 : Cond.methodLink RX5 175 yX3_rewind ∈ wsL_law := List.mem_of_getElem? (i := 630) (by decide +kernel)
theorem mML_X5_178 : Cond.methodLink RX5 178 yX3_readsOrder ∈ wsL_law := List.mem_of_getElem? (i := 631) (by decide +kernel)
theorem mML_X5_182 : Cond.methodLink RX5 182 yX5_carriesOne ∈ wsL_law := List.mem_of_getElem? (i := 632) (by decide +kernel)
theorem mIM_yX5_carriesOne : Cond.instanceMethod yX5_carriesOne ∈ wsL_law := List.mem_of_getElem? (i := 633) (by decide +kernel)
theorem mSE_yX5_carriesOne : Cond.selects RX5 yX5_carriesOne yX5_carriesOne ∈ wsL_law := List.mem_of_getElem? (i := 634) (by decide +kernel)
theorem mCO_yX5_carriesOne : Cond.code yX5_carriesOne cX5_carriesOne 2 (some .boolean) ∈ wsL_law := List.mem_of_getElem? (i := 635) (by decide +kernel)
theorem mFL_X5_192 : Cond.fieldLink RX5 192 "LocoFrames$Pad" "kind" "I" ∈ wsL_law := List.mem_of_getElem? (i := 636) (by decide +kernel)
theorem mFL_X5_195 : Cond.fieldLink RX5 195 "LocoFrames$Pad" "numbers" "[I" ∈ wsL_law := List.mem_of_getElem? (i := 637) (by decide +kernel)
theorem mML_X5_185 : Cond.methodLink RX5 185 yX3_reads ∈ wsL_law := List.mem_of_getElem? (i := 638) (by decide +kernel)
theorem mML_L_100 : Cond.methodLink RL 100 yX6_carryOut ∈ wsL_law := List.mem_of_getElem? (i := 639) (by decide +kernel)
theorem mIM_yX6_carryOut : Cond.instanceMethod yX6_carryOut ∈ wsL_law := List.mem_of_getElem? (i := 640) (by decide +kernel)
theorem mSE_yX6_carryOut : Cond.selects RX6 yX6_carryOut yX6_carryOut ∈ wsL_law := List.mem_of_getElem? (i := 641) (by decide +kernel)
theorem mCO_yX6_carryOut : Cond.code yX6_carryOut cX6_carryOut 2 (some .int) ∈ wsL_law := List.mem_of_getElem? (i := 642) (by decide +kernel)
theorem mML_X6_160 : Cond.methodLink RX6 160 yX6_refuses ∈ wsL_law := List.mem_of_getElem? (i := 643) (by decide +kernel)
theorem mIM_yX6_refuses : Cond.instanceMethod yX6_refuses ∈ wsL_law := List.mem_of_getElem? (i := 644) (by decide +kernel)
theorem mSE_yX6_refuses : Cond.selects RX6 yX6_refuses yX6_refuses ∈ wsL_law := List.mem_of_getElem? (i := 645) (by decide +kernel)
theorem mCO_yX6_refuses : Cond.code yX6_refuses cX6_refuses 2 (some .int) ∈ wsL_law := List.mem_of_getElem? (i := 646) (by decide +kernel)
theorem mML_X6_163 : Cond.methodLink RX6 163 yX6_does ∈ wsL_law := List.mem_of_getElem? (i := 647) (by decide +kernel)
theorem mIM_yX6_does : Cond.instanceMethod yX6_does ∈ wsL_law := List.mem_of_getElem? (i := 648) (by decide +kernel)
theorem mSE_yX6_does : Cond.selects RX6 yX6_does yX6_does ∈ wsL_law := List.mem_of_getElem? (i := 649) (by decide +kernel)
theorem mCO_yX6_does : Cond.code yX6_does cX6_does 2 none ∈ wsL_law := List.mem_of_getElem? (i := 650) (by decide +kernel)
theorem mML_L_101 : Cond.methodLink RL 101 yX5_undo ∈ wsL_law := List.mem_of_getElem? (i := 651) (by decide +kernel)
theorem mIM_yX5_undo : Cond.instanceMethod yX5_undo ∈ wsL_law := List.mem_of_getElem? (i := 652) (by decide +kernel)
theorem mSE_yX5_undo : Cond.selects RX5 yX5_undo yX5_undo ∈ wsL_law := List.mem_of_getElem? (i := 653) (by decide +kernel)
theorem mCO_yX5_undo : Cond.code yX5_undo cX5_undo 1 (some .int) ∈ wsL_law := List.mem_of_getElem? (i := 654) (by decide +kernel)
theorem mML_X5_188 : Cond.methodLink RX5 188 yX0_takeBack ∈ wsL_law := List.mem_of_getElem? (i := 655) (by decide +kernel)
theorem mIM_yX0_takeBack : Cond.instanceMethod yX0_takeBack ∈ wsL_law := List.mem_of_getElem? (i := 656) (by decide +kernel)
theorem mSE_yX0_takeBack : Cond.selects RX0 yX0_takeBack yX0_takeBack ∈ wsL_law := List.mem_of_getElem? (i := 657) (by decide +kernel)
theorem mCO_yX0_takeBack : Cond.code yX0_takeBack cX0_takeBack 2 (some .int) ∈ wsL_law := List.mem_of_getElem? (i := 658) (by decide +kernel)
theorem mML_L_104 : Cond.methodLink RL 104 yX6_undo ∈ wsL_law := List.mem_of_getElem? (i := 659) (by decide +kernel)
theorem mIM_yX6_undo : Cond.instanceMethod yX6_undo ∈ wsL_law := List.mem_of_getElem? (i := 660) (by decide +kernel)
theorem mSE_yX6_undo : Cond.selects RX6 yX6_undo yX6_undo ∈ wsL_law := List.mem_of_getElem? (i := 661) (by decide +kernel)
theorem mCO_yX6_undo : Cond.code yX6_undo cX6_undo 2 (some .int) ∈ wsL_law := List.mem_of_getElem? (i := 662) (by decide +kernel)
theorem mML_L_105 : Cond.methodLink RL 105 yX5_save ∈ wsL_law := List.mem_of_getElem? (i := 663) (by decide +kernel)
theorem mIM_yX5_save : Cond.instanceMethod yX5_save ∈ wsL_law := List.mem_of_getElem? (i := 664) (by decide +kernel)
theorem mSE_yX5_save : Cond.selects RX5 yX5_save yX5_save ∈ wsL_law := List.mem_of_getElem? (i := 665) (by decide +kernel)
theorem mCO_yX5_save : Cond.code yX5_save cX5_save 2 (some .int) ∈ wsL_law := List.mem_of_getElem? (i := 666) (by decide +kernel)
theorem mML_L_108 : Cond.methodLink RL 108 yX6_save ∈ wsL_law := List.mem_of_getElem? (i := 667) (by decide +kernel)
theorem mIM_yX6_save : Cond.instanceMethod yX6_save ∈ wsL_law := List.mem_of_getElem? (i := 668) (by decide +kernel)
theorem mSE_yX6_save : Cond.selects RX6 yX6_save yX6_save ∈ wsL_law := List.mem_of_getElem? (i := 669) (by decide +kernel)
theorem mCO_yX6_save : Cond.code yX6_save cX6_save 3 (some .int) ∈ wsL_law := List.mem_of_getElem? (i := 670) (by decide +kernel)
theorem mML_L_109 : Cond.methodLink RL 109 yX5_restore ∈ wsL_law := List.mem_of_getElem? (i := 671) (by decide +kernel)
theorem mIM_yX5_restore : Cond.instanceMethod yX5_restore ∈ wsL_law := List.mem_of_getElem? (i := 672) (by decide +kernel)
theorem mSE_yX5_restore : Cond.selects RX5 yX5_restore yX5_restore ∈ wsL_law := List.mem_of_getElem? (i := 673) (by decide +kernel)
theorem mCO_yX5_restore : Cond.code yX5_restore cX5_restore 2 (some .int) ∈ wsL_law := List.mem_of_getElem? (i := 674) (by decide +kernel)
theorem mML_L_112 : Cond.methodLink RL 112 yX6_restore ∈ wsL_law := List.mem_of_getElem? (i := 675) (by decide +kernel)
theorem mIM_yX6_restore : Cond.instanceMethod yX6_restore ∈ wsL_law := List.mem_of_getElem? (i := 676) (by decide +kernel)
theorem mSE_yX6_restore : Cond.selects RX6 yX6_restore yX6_restore ∈ wsL_law := List.mem_of_getElem? (i := 677) (by decide +kernel)
theorem mCO_yX6_restore : Cond.code yX6_restore cX6_restore 3 (some .int) ∈ wsL_law := List.mem_of_getElem? (i := 678) (by decide +kernel)
set_option maxRecDepth 100000 in
theorem gAll : GoodIn wsL_law wsL_law := goodIn_sub (fun _ h => h) (by decide +kernel)
theorem gw {y : MethodName} {b : ByteArray} {n : Nat} {r : Option FieldType} (hc : Cond.code y b n r ∈ wsL_law) : GoodIn wsL_law (wz y b n r) := fun w h => by
  rcases List.mem_cons.mp h with rfl | h
  · exact gAll _ hc
  · exact gAll w h
theorem gV {own C : String} {idx : Nat} {y : MethodName} {b : ByteArray} {n : Nat} {r : Option FieldType} (h1 : Cond.methodLink own idx y ∈ wsL_law) (h2 : Cond.instanceMethod y ∈ wsL_law) (h3 : Cond.selects C y y ∈ wsL_law) (h4 : Cond.initialized C ∈ wsL_law) (hc : Cond.code y b n r ∈ wsL_law) : GoodIn wsL_law (wsV own idx C y (wz y b n r)) := fun w h => by
  rcases List.mem_append.mp h with h | h
  · simp only [List.mem_cons, List.not_mem_nil, or_false] at h
    rcases h with rfl | rfl | rfl | rfl
    · exact gAll _ h1
    · exact gAll _ h2
    · exact gAll _ h3
    · exact gAll _ h4
  · exact gw hc w h
theorem gS {own : String} {idx : Nat} {y : MethodName} {b : ByteArray} {n : Nat} {r : Option FieldType} (h1 : Cond.methodLink own idx y ∈ wsL_law) (h2 : Cond.static y ∈ wsL_law) (h4 : Cond.initialized y.cls ∈ wsL_law) (hc : Cond.code y b n r ∈ wsL_law) : GoodIn wsL_law (va_wsS own idx y (wz y b n r)) := fun w h => by
  rcases List.mem_append.mp h with h | h
  · simp only [List.mem_cons, List.not_mem_nil, or_false] at h
    rcases h with rfl | rfl | rfl
    · exact gAll _ h1
    · exact gAll _ h2
    · exact gAll _ h4
  · exact gw hc w h
theorem lk_L_100 : GoodIn wsL_law (wsV RL 100 RX6 yX6_carryOut (wz yX6_carryOut cX6_carryOut 2 (some .int))) := gV mML_L_100 mIM_yX6_carryOut mSE_yX6_carryOut mIN_RX6 mCO_yX6_carryOut
theorem lk_L_101 : GoodIn wsL_law (wsV RL 101 RX5 yX5_undo (wz yX5_undo cX5_undo 1 (some .int))) := gV mML_L_101 mIM_yX5_undo mSE_yX5_undo mIN_RX5 mCO_yX5_undo
theorem lk_L_104 : GoodIn wsL_law (wsV RL 104 RX6 yX6_undo (wz yX6_undo cX6_undo 2 (some .int))) := gV mML_L_104 mIM_yX6_undo mSE_yX6_undo mIN_RX6 mCO_yX6_undo
theorem lk_L_105 : GoodIn wsL_law (wsV RL 105 RX5 yX5_save (wz yX5_save cX5_save 2 (some .int))) := gV mML_L_105 mIM_yX5_save mSE_yX5_save mIN_RX5 mCO_yX5_save
theorem lk_L_108 : GoodIn wsL_law (wsV RL 108 RX6 yX6_save (wz yX6_save cX6_save 3 (some .int))) := gV mML_L_108 mIM_yX6_save mSE_yX6_save mIN_RX6 mCO_yX6_save
theorem lk_L_109 : GoodIn wsL_law (wsV RL 109 RX5 yX5_restore (wz yX5_restore cX5_restore 2 (some .int))) := gV mML_L_109 mIM_yX5_restore mSE_yX5_restore mIN_RX5 mCO_yX5_restore
theorem lk_L_112 : GoodIn wsL_law (wsV RL 112 RX6 yX6_restore (wz yX6_restore cX6_restore 3 (some .int))) := gV mML_L_112 mIM_yX6_restore mSE_yX6_restore mIN_RX6 mCO_yX6_restore
theorem lk_L_13 : GoodIn wsL_law (wsV RL 13 RX5 yX5_loco (wz yX5_loco cX5_loco 5 (some .int))) := gV mML_L_13 mIM_yX5_loco mSE_yX5_loco mIN_RX5 mCO_yX5_loco
theorem lk_L_17 : GoodIn wsL_law (wsV RL 17 RX6 yX6_loco (wz yX6_loco cX6_loco 7 (some .int))) := gV mML_L_17 mIM_yX6_loco mSE_yX6_loco mIN_RX6 mCO_yX6_loco
theorem lk_L_18 : GoodIn wsL_law (wsV RL 18 RX5 yX5_lift (wz yX5_lift cX5_lift 2 (some .int))) := gV mML_L_18 mIM_yX5_lift mSE_yX5_lift mIN_RX5 mCO_yX5_lift
theorem lk_L_22 : GoodIn wsL_law (wsV RL 22 RX6 yX6_lift (wz yX6_lift cX6_lift 4 (some .int))) := gV mML_L_22 mIM_yX6_lift mSE_yX6_lift mIN_RX6 mCO_yX6_lift
theorem lk_L_23 : GoodIn wsL_law (wsV RL 23 RX5 yX5_noise (wz yX5_noise cX5_noise 2 (some .int))) := gV mML_L_23 mIM_yX5_noise mSE_yX5_noise mIN_RX5 mCO_yX5_noise
theorem lk_L_26 : GoodIn wsL_law (wsV RL 26 RX6 yX6_noise (wz yX6_noise cX6_noise 3 (some .int))) := gV mML_L_26 mIM_yX6_noise mSE_yX6_noise mIN_RX6 mCO_yX6_noise
theorem lk_L_27 : GoodIn wsL_law (wsV RL 27 RX5 yX5_order (wz yX5_order cX5_order 4 (some .int))) := gV mML_L_27 mIM_yX5_order mSE_yX5_order mIN_RX5 mCO_yX5_order
theorem lk_L_31 : GoodIn wsL_law (wsV RL 31 RX6 yX6_order (wz yX6_order cX6_order 5 (some .int))) := gV mML_L_31 mIM_yX6_order mSE_yX6_order mIN_RX6 mCO_yX6_order
theorem lk_L_32 : GoodIn wsL_law (wsV RL 32 RX5 yX5_frame (wz yX5_frame cX5_frame 4 (some .int))) := gV mML_L_32 mIM_yX5_frame mSE_yX5_frame mIN_RX5 mCO_yX5_frame
theorem lk_L_35 : GoodIn wsL_law (wsV RL 35 RX6 yX6_frame (wz yX6_frame cX6_frame 5 (some .int))) := gV mML_L_35 mIM_yX6_frame mSE_yX6_frame mIN_RX6 mCO_yX6_frame
theorem lk_L_36 : GoodIn wsL_law (wsV RL 36 RX5 yX5_shorts (wz yX5_shorts cX5_shorts 3 (some .int))) := gV mML_L_36 mIM_yX5_shorts mSE_yX5_shorts mIN_RX5 mCO_yX5_shorts
theorem lk_L_40 : GoodIn wsL_law (wsV RL 40 RX6 yX6_shorts (wz yX6_shorts cX6_shorts 5 (some .int))) := gV mML_L_40 mIM_yX6_shorts mSE_yX6_shorts mIN_RX6 mCO_yX6_shorts
theorem lk_L_41 : GoodIn wsL_law (wsV RL 41 RX5 yX5_pass (wz yX5_pass cX5_pass 2 (some .int))) := gV mML_L_41 mIM_yX5_pass mSE_yX5_pass mIN_RX5 mCO_yX5_pass
theorem lk_L_44 : GoodIn wsL_law (wsV RL 44 RX6 yX6_pass (wz yX6_pass cX6_pass 3 (some .int))) := gV mML_L_44 mIM_yX6_pass mSE_yX6_pass mIN_RX6 mCO_yX6_pass
theorem lk_L_45 : GoodIn wsL_law (wsV RL 45 RX5 yX5_of (wz yX5_of cX5_of 4 (some .int))) := gV mML_L_45 mIM_yX5_of mSE_yX5_of mIN_RX5 mCO_yX5_of
theorem lk_L_48 : GoodIn wsL_law (wsV RL 48 RX6 yX6_of (wz yX6_of cX6_of 4 (some .int))) := gV mML_L_48 mIM_yX6_of mSE_yX6_of mIN_RX6 mCO_yX6_of
theorem lk_L_49 : GoodIn wsL_law (wsV RL 49 RX5 yX5_address (wz yX5_address cX5_address 3 (some .int))) := gV mML_L_49 mIM_yX5_address mSE_yX5_address mIN_RX5 mCO_yX5_address
theorem lk_L_52 : GoodIn wsL_law (wsV RL 52 RX6 yX6_address (wz yX6_address cX6_address 2 (some .int))) := gV mML_L_52 mIM_yX6_address mSE_yX6_address mIN_RX6 mCO_yX6_address
theorem lk_L_53 : GoodIn wsL_law (wsV RL 53 RX5 yX5_waiting (wz yX5_waiting cX5_waiting 3 (some .int))) := gV mML_L_53 mIM_yX5_waiting mSE_yX5_waiting mIN_RX5 mCO_yX5_waiting
theorem lk_L_56 : GoodIn wsL_law (wsV RL 56 RX6 yX6_waiting (wz yX6_waiting cX6_waiting 3 (some .int))) := gV mML_L_56 mIM_yX6_waiting mSE_yX6_waiting mIN_RX6 mCO_yX6_waiting
theorem lk_L_57 : GoodIn wsL_law (wsV RL 57 RX5 yX5_block (wz yX5_block cX5_block 3 (some .int))) := gV mML_L_57 mIM_yX5_block mSE_yX5_block mIN_RX5 mCO_yX5_block
theorem lk_L_60 : GoodIn wsL_law (wsV RL 60 RX6 yX6_block (wz yX6_block cX6_block 3 (some .int))) := gV mML_L_60 mIM_yX6_block mSE_yX6_block mIN_RX6 mCO_yX6_block
theorem lk_L_61 : GoodIn wsL_law (wsV RL 61 RX5 yX5_count (wz yX5_count cX5_count 2 (some .int))) := gV mML_L_61 mIM_yX5_count mSE_yX5_count mIN_RX5 mCO_yX5_count
theorem lk_L_64 : GoodIn wsL_law (wsV RL 64 RX6 yX6_count (wz yX6_count cX6_count 2 (some .int))) := gV mML_L_64 mIM_yX6_count mSE_yX6_count mIN_RX6 mCO_yX6_count
theorem lk_L_65 : GoodIn wsL_law (wsV RL 65 RX5 yX5_reaches (wz yX5_reaches cX5_reaches 5 (some .int))) := gV mML_L_65 mIM_yX5_reaches mSE_yX5_reaches mIN_RX5 mCO_yX5_reaches
theorem lk_L_68 : GoodIn wsL_law (wsV RL 68 RX6 yX6_reaches (wz yX6_reaches cX6_reaches 5 (some .int))) := gV mML_L_68 mIM_yX6_reaches mSE_yX6_reaches mIN_RX6 mCO_yX6_reaches
theorem lk_L_69 : GoodIn wsL_law (wsV RL 69 RX5 yX5_settles (wz yX5_settles cX5_settles 3 (some .int))) := gV mML_L_69 mIM_yX5_settles mSE_yX5_settles mIN_RX5 mCO_yX5_settles
theorem lk_L_72 : GoodIn wsL_law (wsV RL 72 RX6 yX6_settles (wz yX6_settles cX6_settles 5 (some .int))) := gV mML_L_72 mIM_yX6_settles mSE_yX6_settles mIN_RX6 mCO_yX6_settles
theorem lk_L_73 : GoodIn wsL_law (wsV RL 73 RX5 yX5_meets (wz yX5_meets cX5_meets 6 (some .int))) := gV mML_L_73 mIM_yX5_meets mSE_yX5_meets mIN_RX5 mCO_yX5_meets
theorem lk_L_76 : GoodIn wsL_law (wsV RL 76 RX6 yX6_meets (wz yX6_meets cX6_meets 6 (some .int))) := gV mML_L_76 mIM_yX6_meets mSE_yX6_meets mIN_RX6 mCO_yX6_meets
theorem lk_L_77 : GoodIn wsL_law (wsV RL 77 RX5 yX5_stepFor (wz yX5_stepFor cX5_stepFor 5 (some .int))) := gV mML_L_77 mIM_yX5_stepFor mSE_yX5_stepFor mIN_RX5 mCO_yX5_stepFor
theorem lk_L_80 : GoodIn wsL_law (wsV RL 80 RX6 yX6_stepFor (wz yX6_stepFor cX6_stepFor 5 (some .int))) := gV mML_L_80 mIM_yX6_stepFor mSE_yX6_stepFor mIN_RX6 mCO_yX6_stepFor
theorem lk_L_83 : GoodIn wsL_law (wsV RL 83 RX5 yX5_put (wz yX5_put cX5_put 3 (some .int))) := gV mML_L_83 mIM_yX5_put mSE_yX5_put mIN_RX5 mCO_yX5_put
theorem lk_L_87 : GoodIn wsL_law (wsV RL 87 RX6 yX6_put (wz yX6_put cX6_put 8 (some .int))) := gV mML_L_87 mIM_yX6_put mSE_yX6_put mIN_RX6 mCO_yX6_put
theorem lk_L_88 : GoodIn wsL_law (wsV RL 88 RX5 yX5_wipe (wz yX5_wipe cX5_wipe 1 (some .int))) := gV mML_L_88 mIM_yX5_wipe mSE_yX5_wipe mIN_RX5 mCO_yX5_wipe
theorem lk_L_92 : GoodIn wsL_law (wsV RL 92 RX6 yX6_wipe (wz yX6_wipe cX6_wipe 2 (some .int))) := gV mML_L_92 mIM_yX6_wipe mSE_yX6_wipe mIN_RX6 mCO_yX6_wipe
theorem lk_L_93 : GoodIn wsL_law (wsV RL 93 RX5 yX5_fault (wz yX5_fault cX5_fault 1 (some .int))) := gV mML_L_93 mIM_yX5_fault mSE_yX5_fault mIN_RX5 mCO_yX5_fault
theorem lk_L_96 : GoodIn wsL_law (wsV RL 96 RX6 yX6_fault (wz yX6_fault cX6_fault 1 (some .int))) := gV mML_L_96 mIM_yX6_fault mSE_yX6_fault mIN_RX6 mCO_yX6_fault
theorem lk_L_97 : GoodIn wsL_law (wsV RL 97 RX5 yX5_carryOut (wz yX5_carryOut cX5_carryOut 3 (some .int))) := gV mML_L_97 mIM_yX5_carryOut mSE_yX5_carryOut mIN_RX5 mCO_yX5_carryOut
theorem lk_X0_25 : GoodIn wsL_law (wsV RX0 25 RX1 yX1_copyFrom (wz yX1_copyFrom cX1_copyFrom 3 none)) := gV mML_X0_25 mIM_yX1_copyFrom mSE_yX1_copyFrom mIN_RX1 mCO_yX1_copyFrom
theorem lk_X1_102 : GoodIn wsL_law (wsV RX1 102 RX1 yX1_sendFirst (wz yX1_sendFirst cX1_sendFirst 4 (some .int))) := gV mML_X1_102 mIM_yX1_sendFirst mSE_yX1_sendFirst mIN_RX1 mCO_yX1_sendFirst
theorem lk_X1_108 : GoodIn wsL_law (wsV RX1 108 RX2 yX2_changeSpeed (wz yX2_changeSpeed cX2_changeSpeed 2 none)) := gV mML_X1_108 mIM_yX2_changeSpeed mSE_yX2_changeSpeed mIN_RX2 mCO_yX2_changeSpeed
theorem lk_X1_111 : GoodIn wsL_law (wsV RX1 111 RX2 yX2_roll (wz yX2_roll cX2_roll 3 none)) := gV mML_X1_111 mIM_yX2_roll mSE_yX2_roll mIN_RX2 mCO_yX2_roll
theorem lk_X1_129 : GoodIn wsL_law (wsV RX1 129 RX4 yX4_dropFirst (wz yX4_dropFirst cX4_dropFirst 2 none)) := gV mML_X1_129 mIM_yX4_dropFirst mSE_yX4_dropFirst mIN_RX4 mCO_yX4_dropFirst
theorem lk_X1_132 : GoodIn wsL_law (wsV RX1 132 RX1 yX1_takeFrame (wz yX1_takeFrame cX1_takeFrame 7 (some .int))) := gV mML_X1_132 mIM_yX1_takeFrame mSE_yX1_takeFrame mIN_RX1 mCO_yX1_takeFrame
theorem lk_X1_136 : GoodIn wsL_law (wsV RX1 136 RX1 yX1_locosIn (wz yX1_locosIn cX1_locosIn 4 (some .int))) := gV mML_X1_136 mIM_yX1_locosIn mSE_yX1_locosIn mIN_RX1 mCO_yX1_locosIn
theorem lk_X1_33 : GoodIn wsL_law (wsV RX1 33 RX2 yX2_copyFrom (wz yX2_copyFrom cX2_copyFrom 2 none)) := gV mML_X1_33 mIM_yX2_copyFrom mSE_yX2_copyFrom mIN_RX2 mCO_yX2_copyFrom
theorem lk_X1_37 : GoodIn wsL_law (wsV RX1 37 RX4 yX4_copyFrom (wz yX4_copyFrom cX4_copyFrom 2 none)) := gV mML_X1_37 mIM_yX4_copyFrom mSE_yX4_copyFrom mIN_RX4 mCO_yX4_copyFrom
theorem lk_X1_68 : GoodIn wsL_law (wsV RX1 68 RX1 yX1_rankOf (wz yX1_rankOf cX1_rankOf 3 (some .int))) := gV mML_X1_68 mIM_yX1_rankOf mSE_yX1_rankOf mIN_RX1 mCO_yX1_rankOf
theorem lk_X1_72 : GoodIn wsL_law (wsV RX1 72 RX1 yX1_locoAt (wz yX1_locoAt cX1_locoAt 2 (some (.object "LocoFrames$Loco")))) := gV mML_X1_72 mIM_yX1_locoAt mSE_yX1_locoAt mIN_RX1 mCO_yX1_locoAt
theorem lk_X1_79 : GoodIn wsL_law (wsV RX1 79 RX2 yX2_begin (wz yX2_begin cX2_begin 5 none)) := gV mML_X1_79 mIM_yX2_begin mSE_yX2_begin mIN_RX2 mCO_yX2_begin
theorem lk_X1_87 : GoodIn wsL_law (wsV RX1 87 RX2 yX2_blockNumber (wz yX2_blockNumber cX2_blockNumber 1 (some .int))) := gV mML_X1_87 mIM_yX2_blockNumber mSE_yX2_blockNumber mIN_RX2 mCO_yX2_blockNumber
theorem lk_X1_91 : GoodIn wsL_law (wsV RX1 91 RX1 yX1_isShorted (wz yX1_isShorted cX1_isShorted 2 (some .boolean))) := gV mML_X1_91 mIM_yX1_isShorted mSE_yX1_isShorted mIN_RX1 mCO_yX1_isShorted
theorem lk_X1_94 : GoodIn wsL_law (wsV RX1 94 RX2 yX2_hear (wz yX2_hear cX2_hear 3 none)) := gV mML_X1_94 mIM_yX2_hear mSE_yX2_hear mIN_RX2 mCO_yX2_hear
theorem lk_X1_99 : GoodIn wsL_law (wsV RX1 99 RX1 yX1_tick (wz yX1_tick cX1_tick 4 (some .int))) := gV mML_X1_99 mIM_yX1_tick mSE_yX1_tick mIN_RX1 mCO_yX1_tick
theorem lk_X2_49 : GoodIn wsL_law (wsV RX2 49 RX2 yX2_mostGain (wz yX2_mostGain cX2_mostGain 1 (some .int))) := gV mML_X2_49 mIM_yX2_mostGain mSE_yX2_mostGain mIN_RX2 mCO_yX2_mostGain
theorem lk_X2_53 : GoodIn wsL_law (wsV RX2 53 RX2 yX2_goal (wz yX2_goal cX2_goal 2 (some .int))) := gV mML_X2_53 mIM_yX2_goal mSE_yX2_goal mIN_RX2 mCO_yX2_goal
theorem lk_X2_68 : GoodIn wsL_law (va_wsS RX2 68 yJ9_floorDiv_7cf53 (wz yJ9_floorDiv_7cf53 cJ9_floorDiv_7cf53 3 (some .int))) := gS mML_X2_68 mST_yJ9_floorDiv_7cf53 mIN_RJ9 mCO_yJ9_floorDiv_7cf53
theorem lk_X2_71 : GoodIn wsL_law (va_wsS RX2 71 yJ9_floorMod_7cf53 (wz yJ9_floorMod_7cf53 cJ9_floorMod_7cf53 3 (some .int))) := gS mML_X2_71 mST_yJ9_floorMod_7cf53 mIN_RJ9 mCO_yJ9_floorMod_7cf53
theorem lk_X2_74 : GoodIn wsL_law (wsV RX2 74 RX2 yX2_blockNumber (wz yX2_blockNumber cX2_blockNumber 1 (some .int))) := gV mML_X2_74 mIM_yX2_blockNumber mSE_yX2_blockNumber mIN_RX2 mCO_yX2_blockNumber
theorem lk_X3_19 : GoodIn wsL_law (va_wsS RX3 19 yX3_countOf (wz yX3_countOf cX3_countOf 4 (some .int))) := gS mML_X3_19 mST_yX3_countOf mIN_RX3 mCO_yX3_countOf
theorem lk_X3_27 : GoodIn wsL_law (va_wsS RX3 27 yX3_codeAt (wz yX3_codeAt cX3_codeAt 3 (some .int))) := gS mML_X3_27 mST_yX3_codeAt mIN_RX3 mCO_yX3_codeAt
theorem lk_X3_38 : GoodIn wsL_law (wsV RX3 38 RX3 yX3_rewind (wz yX3_rewind cX3_rewind 1 none)) := gV mML_X3_38 mIM_yX3_rewind mSE_yX3_rewind mIN_RX3 mCO_yX3_rewind
theorem lk_X3_41 : GoodIn wsL_law (wsV RX3 41 RX3 yX3_readsOrder (wz yX3_readsOrder cX3_readsOrder 1 (some .boolean))) := gV mML_X3_41 mIM_yX3_readsOrder mSE_yX3_readsOrder mIN_RX3 mCO_yX3_readsOrder
theorem lk_X3_45 : GoodIn wsL_law (wsV RX3 45 RX3 yX3_reads (wz yX3_reads cX3_reads 2 (some .boolean))) := gV mML_X3_45 mIM_yX3_reads mSE_yX3_reads mIN_RX3 mCO_yX3_reads
theorem lk_X3_49 : GoodIn wsL_law (wsV RX3 49 RX3 yX3_here (wz yX3_here cX3_here 1 (some .int))) := gV mML_X3_49 mIM_yX3_here mSE_yX3_here mIN_RX3 mCO_yX3_here
theorem lk_X3_59 : GoodIn wsL_law (wsV RX3 59 RX3 yX3_readsNumber (wz yX3_readsNumber cX3_readsNumber 3 (some .boolean))) := gV mML_X3_59 mIM_yX3_readsNumber mSE_yX3_readsNumber mIN_RX3 mCO_yX3_readsNumber
theorem lk_X3_62 : GoodIn wsL_law (wsV RX3 62 RX3 yX3_readsDigit (wz yX3_readsDigit cX3_readsDigit 2 (some .boolean))) := gV mML_X3_62 mIM_yX3_readsDigit mSE_yX3_readsDigit mIN_RX3 mCO_yX3_readsDigit
theorem lk_X3_65 : GoodIn wsL_law (wsV RX3 65 RX3 yX3_hold (wz yX3_hold cX3_hold 2 none)) := gV mML_X3_65 mIM_yX3_hold mSE_yX3_hold mIN_RX3 mCO_yX3_hold
theorem lk_X4_35 : GoodIn wsL_law (wsV RX4 35 RX4 yX4_setRow (wz yX4_setRow cX4_setRow 5 none)) := gV mML_X4_35 mIM_yX4_setRow mSE_yX4_setRow mIN_RX4 mCO_yX4_setRow
theorem lk_X5_105 : GoodIn wsL_law (wsV RX5 105 RX1 yX1_locosIn (wz yX1_locosIn cX1_locosIn 4 (some .int))) := gV mML_X5_105 mIM_yX1_locosIn mSE_yX1_locosIn mIN_RX1 mCO_yX1_locosIn
theorem lk_X5_129 : GoodIn wsL_law (wsV RX5 129 RX1 yX1_blocksWithShort (wz yX1_blocksWithShort cX1_blocksWithShort 3 (some .int))) := gV mML_X5_129 mIM_yX1_blocksWithShort mSE_yX1_blocksWithShort mIN_RX1 mCO_yX1_blocksWithShort
theorem lk_X5_133 : GoodIn wsL_law (wsV RX5 133 RX1 yX1_crowdedBlocks (wz yX1_crowdedBlocks cX1_crowdedBlocks 3 (some .int))) := gV mML_X5_133 mIM_yX1_crowdedBlocks mSE_yX1_crowdedBlocks mIN_RX1 mCO_yX1_crowdedBlocks
theorem lk_X5_136 : GoodIn wsL_law (wsV RX5 136 RX1 yX1_speedSum (wz yX1_speedSum cX1_speedSum 3 (some .int))) := gV mML_X5_136 mIM_yX1_speedSum mSE_yX1_speedSum mIN_RX1 mCO_yX1_speedSum
theorem lk_X5_143 : GoodIn wsL_law (wsV RX5 143 RX1 yX1_copyFrom (wz yX1_copyFrom cX1_copyFrom 3 none)) := gV mML_X5_143 mIM_yX1_copyFrom mSE_yX1_copyFrom mIN_RX1 mCO_yX1_copyFrom
theorem lk_X5_146 : GoodIn wsL_law (wsV RX5 146 RX2 yX2_blockNumber (wz yX2_blockNumber cX2_blockNumber 1 (some .int))) := gV mML_X5_146 mIM_yX2_blockNumber mSE_yX2_blockNumber mIN_RX2 mCO_yX2_blockNumber
theorem lk_X5_149 : GoodIn wsL_law (wsV RX5 149 RX1 yX1_tick (wz yX1_tick cX1_tick 4 (some .int))) := gV mML_X5_149 mIM_yX1_tick mSE_yX1_tick mIN_RX1 mCO_yX1_tick
theorem lk_X5_152 : GoodIn wsL_law (wsV RX5 152 RX2 yX2_ticksToGoal (wz yX2_ticksToGoal cX2_ticksToGoal 3 (some .int))) := gV mML_X5_152 mIM_yX2_ticksToGoal mSE_yX2_ticksToGoal mIN_RX2 mCO_yX2_ticksToGoal
theorem lk_X5_155 : GoodIn wsL_law (va_wsS RX5 155 yX5_within (wz yX5_within cX5_within 3 (some .boolean))) := gS mML_X5_155 mST_yX5_within mIN_RX5 mCO_yX5_within
theorem lk_X5_162 : GoodIn wsL_law (va_wsS RX5 162 yX5_curveSpeed (wz yX5_curveSpeed cX5_curveSpeed 3 (some .int))) := gS mML_X5_162 mST_yX5_curveSpeed mIN_RX5 mCO_yX5_curveSpeed
theorem lk_X5_165 : GoodIn wsL_law (wsV RX5 165 RX3 yX3_append (wz yX3_append cX3_append 5 (some .int))) := gV mML_X5_165 mIM_yX3_append mSE_yX3_append mIN_RX3 mCO_yX3_append
theorem lk_X5_169 : GoodIn wsL_law (wsV RX5 169 RX3 yX3_clear (wz yX3_clear cX3_clear 2 (some .int))) := gV mML_X5_169 mIM_yX3_clear mSE_yX3_clear mIN_RX3 mCO_yX3_clear
theorem lk_X5_172 : GoodIn wsL_law (wsV RX5 172 RX3 yX3_firstFault (wz yX3_firstFault cX3_firstFault 2 (some .int))) := gV mML_X5_172 mIM_yX3_firstFault mSE_yX3_firstFault mIN_RX3 mCO_yX3_firstFault
theorem lk_X5_175 : GoodIn wsL_law (wsV RX5 175 RX3 yX3_rewind (wz yX3_rewind cX3_rewind 1 none)) := gV mML_X5_175 mIM_yX3_rewind mSE_yX3_rewind mIN_RX3 mCO_yX3_rewind
theorem lk_X5_178 : GoodIn wsL_law (wsV RX5 178 RX3 yX3_readsOrder (wz yX3_readsOrder cX3_readsOrder 1 (some .boolean))) := gV mML_X5_178 mIM_yX3_readsOrder mSE_yX3_readsOrder mIN_RX3 mCO_yX3_readsOrder
theorem lk_X5_182 : GoodIn wsL_law (wsV RX5 182 RX5 yX5_carriesOne (wz yX5_carriesOne cX5_carriesOne 2 (some .boolean))) := gV mML_X5_182 mIM_yX5_carriesOne mSE_yX5_carriesOne mIN_RX5 mCO_yX5_carriesOne
theorem lk_X5_185 : GoodIn wsL_law (wsV RX5 185 RX3 yX3_reads (wz yX3_reads cX3_reads 2 (some .boolean))) := gV mML_X5_185 mIM_yX3_reads mSE_yX3_reads mIN_RX3 mCO_yX3_reads
theorem lk_X5_188 : GoodIn wsL_law (wsV RX5 188 RX0 yX0_takeBack (wz yX0_takeBack cX0_takeBack 2 (some .int))) := gV mML_X5_188 mIM_yX0_takeBack mSE_yX0_takeBack mIN_RX0 mCO_yX0_takeBack
theorem lk_X5_41 : GoodIn wsL_law (wsV RX5 41 RX0 yX0_draft (wz yX0_draft cX0_draft 2 none)) := gV mML_X5_41 mIM_yX0_draft mSE_yX0_draft mIN_RX0 mCO_yX0_draft
theorem lk_X5_45 : GoodIn wsL_law (wsV RX5 45 RX1 yX1_addLoco (wz yX1_addLoco cX1_addLoco 7 (some .int))) := gV mML_X5_45 mIM_yX1_addLoco mSE_yX1_addLoco mIN_RX1 mCO_yX1_addLoco
theorem lk_X5_49 : GoodIn wsL_law (wsV RX5 49 RX0 yX0_kept (wz yX0_kept cX0_kept 2 (some .int))) := gV mML_X5_49 mIM_yX0_kept mSE_yX0_kept mIN_RX0 mCO_yX0_kept
theorem lk_X5_53 : GoodIn wsL_law (wsV RX5 53 RX1 yX1_removeLoco (wz yX1_removeLoco cX1_removeLoco 5 (some .int))) := gV mML_X5_53 mIM_yX1_removeLoco mSE_yX1_removeLoco mIN_RX1 mCO_yX1_removeLoco
theorem lk_X5_56 : GoodIn wsL_law (wsV RX5 56 RX1 yX1_changeNoise (wz yX1_changeNoise cX1_changeNoise 3 (some .int))) := gV mML_X5_56 mIM_yX1_changeNoise mSE_yX1_changeNoise mIN_RX1 mCO_yX1_changeNoise
theorem lk_X5_63 : GoodIn wsL_law (wsV RX5 63 RX4 yX4_take (wz yX4_take cX4_take 5 (some .int))) := gV mML_X5_63 mIM_yX4_take mSE_yX4_take mIN_RX4 mCO_yX4_take
theorem lk_X5_69 : GoodIn wsL_law (wsV RX5 69 RX1 yX1_takeFrame (wz yX1_takeFrame cX1_takeFrame 7 (some .int))) := gV mML_X5_69 mIM_yX1_takeFrame mSE_yX1_takeFrame mIN_RX1 mCO_yX1_takeFrame
theorem lk_X5_72 : GoodIn wsL_law (wsV RX5 72 RX1 yX1_changeShort (wz yX1_changeShort cX1_changeShort 4 (some .int))) := gV mML_X5_72 mIM_yX1_changeShort mSE_yX1_changeShort mIN_RX1 mCO_yX1_changeShort
theorem lk_X5_76 : GoodIn wsL_law (wsV RX5 76 RX1 yX1_takeTicks (wz yX1_takeTicks cX1_takeTicks 4 (some .int))) := gV mML_X5_76 mIM_yX1_takeTicks mSE_yX1_takeTicks mIN_RX1 mCO_yX1_takeTicks
theorem lk_X5_79 : GoodIn wsL_law (wsV RX5 79 RX1 yX1_locoWith (wz yX1_locoWith cX1_locoWith 2 (some (.object "LocoFrames$Loco")))) := gV mML_X5_79 mIM_yX1_locoWith mSE_yX1_locoWith mIN_RX1 mCO_yX1_locoWith
theorem lk_X5_83 : GoodIn wsL_law (wsV RX5 83 RX2 yX2_told (wz yX2_told cX2_told 2 (some .int))) := gV mML_X5_83 mIM_yX2_told mSE_yX2_told mIN_RX2 mCO_yX2_told
theorem lk_X5_88 : GoodIn wsL_law (wsV RX5 88 RX1 yX1_locoAt (wz yX1_locoAt cX1_locoAt 2 (some (.object "LocoFrames$Loco")))) := gV mML_X5_88 mIM_yX1_locoAt mSE_yX1_locoAt mIN_RX1 mCO_yX1_locoAt
theorem lk_X5_95 : GoodIn wsL_law (wsV RX5 95 RX4 yX4_told (wz yX4_told cX4_told 3 (some .int))) := gV mML_X5_95 mIM_yX4_told mSE_yX4_told mIN_RX4 mCO_yX4_told
theorem lk_X5_97 : GoodIn wsL_law (va_wsS RX5 97 yX5_isBlock (wz yX5_isBlock cX5_isBlock 1 (some .boolean))) := gS mML_X5_97 mST_yX5_isBlock mIN_RX5 mCO_yX5_isBlock
theorem lk_X6_102 : GoodIn wsL_law (va_wsS RX6 102 yX6_refusesShorts (wz yX6_refusesShorts cX6_refusesShorts 2 (some .int))) := gS mML_X6_102 mST_yX6_refusesShorts mIN_RX6 mCO_yX6_refusesShorts
theorem lk_X6_106 : GoodIn wsL_law (wsV RX6 106 RX6 yX6_refusesPass (wz yX6_refusesPass cX6_refusesPass 2 (some .int))) := gV mML_X6_106 mIM_yX6_refusesPass mSE_yX6_refusesPass mIN_RX6 mCO_yX6_refusesPass
theorem lk_X6_109 : GoodIn wsL_law (wsV RX6 109 RX6 yX6_ticks (wz yX6_ticks cX6_ticks 4 (some .int))) := gV mML_X6_109 mIM_yX6_ticks mSE_yX6_ticks mIN_RX6 mCO_yX6_ticks
theorem lk_X6_112 : GoodIn wsL_law (wsV RX6 112 RX6 yX6_locosIn (wz yX6_locosIn cX6_locosIn 4 (some .int))) := gV mML_X6_112 mIM_yX6_locosIn mSE_yX6_locosIn mIN_RX6 mCO_yX6_locosIn
theorem lk_X6_115 : GoodIn wsL_law (wsV RX6 115 RX6 yX6_overBlocks (wz yX6_overBlocks cX6_overBlocks 4 (some .int))) := gV mML_X6_115 mIM_yX6_overBlocks mSE_yX6_overBlocks mIN_RX6 mCO_yX6_overBlocks
theorem lk_X6_118 : GoodIn wsL_law (wsV RX6 118 RX6 yX6_allSpeeds (wz yX6_allSpeeds cX6_allSpeeds 3 (some .int))) := gV mML_X6_118 mIM_yX6_allSpeeds mSE_yX6_allSpeeds mIN_RX6 mCO_yX6_allSpeeds
theorem lk_X6_124 : GoodIn wsL_law (wsV RX6 124 RX6 yX6_putAside (wz yX6_putAside cX6_putAside 2 none)) := gV mML_X6_124 mIM_yX6_putAside mSE_yX6_putAside mIN_RX6 mCO_yX6_putAside
theorem lk_X6_127 : GoodIn wsL_law (wsV RX6 127 RX6 yX6_takeBack (wz yX6_takeBack cX6_takeBack 2 none)) := gV mML_X6_127 mIM_yX6_takeBack mSE_yX6_takeBack mIN_RX6 mCO_yX6_takeBack
theorem lk_X6_139 : GoodIn wsL_law (wsV RX6 139 RX6 yX6_sign (wz yX6_sign cX6_sign 1 (some .int))) := gV mML_X6_139 mIM_yX6_sign mSE_yX6_sign mIN_RX6 mCO_yX6_sign
theorem lk_X6_142 : GoodIn wsL_law (wsV RX6 142 RX6 yX6_digit (wz yX6_digit cX6_digit 3 (some .int))) := gV mML_X6_142 mIM_yX6_digit mSE_yX6_digit mIN_RX6 mCO_yX6_digit
theorem lk_X6_148 : GoodIn wsL_law (wsV RX6 148 RX6 yX6_number (wz yX6_number cX6_number 3 (some .int))) := gV mML_X6_148 mIM_yX6_number mSE_yX6_number mIN_RX6 mCO_yX6_number
theorem lk_X6_151 : GoodIn wsL_law (wsV RX6 151 RX6 yX6_wants (wz yX6_wants cX6_wants 2 none)) := gV mML_X6_151 mIM_yX6_wants mSE_yX6_wants mIN_RX6 mCO_yX6_wants
theorem lk_X6_154 : GoodIn wsL_law (wsV RX6 154 RX6 yX6_readsOrder (wz yX6_readsOrder cX6_readsOrder 3 none)) := gV mML_X6_154 mIM_yX6_readsOrder mSE_yX6_readsOrder mIN_RX6 mCO_yX6_readsOrder
theorem lk_X6_157 : GoodIn wsL_law (wsV RX6 157 RX6 yX6_reads (wz yX6_reads cX6_reads 1 (some .int))) := gV mML_X6_157 mIM_yX6_reads mSE_yX6_reads mIN_RX6 mCO_yX6_reads
theorem lk_X6_160 : GoodIn wsL_law (wsV RX6 160 RX6 yX6_refuses (wz yX6_refuses cX6_refuses 2 (some .int))) := gV mML_X6_160 mIM_yX6_refuses mSE_yX6_refuses mIN_RX6 mCO_yX6_refuses
theorem lk_X6_163 : GoodIn wsL_law (wsV RX6 163 RX6 yX6_does (wz yX6_does cX6_does 2 none)) := gV mML_X6_163 mIM_yX6_does mSE_yX6_does mIN_RX6 mCO_yX6_does
theorem lk_X6_36 : GoodIn wsL_law (wsV RX6 36 RX6 yX6_get (wz yX6_get cX6_get 3 (some .int))) := gV mML_X6_36 mIM_yX6_get mSE_yX6_get mIN_RX6 mCO_yX6_get
theorem lk_X6_43 : GoodIn wsL_law (wsV RX6 43 RX6 yX6_blockOf (wz yX6_blockOf cX6_blockOf 2 (some .int))) := gV mML_X6_43 mIM_yX6_blockOf mSE_yX6_blockOf mIN_RX6 mCO_yX6_blockOf
theorem lk_X6_47 : GoodIn wsL_law (va_wsS RX6 47 yX6_byCurve (wz yX6_byCurve cX6_byCurve 3 (some .int))) := gS mML_X6_47 mST_yX6_byCurve mIN_RX6 mCO_yX6_byCurve
theorem lk_X6_50 : GoodIn wsL_law (wsV RX6 50 RX6 yX6_lay (wz yX6_lay cX6_lay 4 none)) := gV mML_X6_50 mIM_yX6_lay mSE_yX6_lay mIN_RX6 mCO_yX6_lay
theorem lk_X6_54 : GoodIn wsL_law (va_wsS RX6 54 yX6_in (wz yX6_in cX6_in 3 (some .boolean))) := gS mML_X6_54 mST_yX6_in mIN_RX6 mCO_yX6_in
theorem lk_X6_58 : GoodIn wsL_law (wsV RX6 58 RX6 yX6_isShort (wz yX6_isShort cX6_isShort 2 (some .boolean))) := gV mML_X6_58 mIM_yX6_isShort mSE_yX6_isShort mIN_RX6 mCO_yX6_isShort
theorem lk_X6_62 : GoodIn wsL_law (wsV RX6 62 RX6 yX6_hears (wz yX6_hears cX6_hears 3 none)) := gV mML_X6_62 mIM_yX6_hears mSE_yX6_hears mIN_RX6 mCO_yX6_hears
theorem lk_X6_66 : GoodIn wsL_law (wsV RX6 66 RX6 yX6_comes (wz yX6_comes cX6_comes 6 (some .int))) := gV mML_X6_66 mIM_yX6_comes mSE_yX6_comes mIN_RX6 mCO_yX6_comes
theorem lk_X6_70 : GoodIn wsL_law (wsV RX6 70 RX6 yX6_due (wz yX6_due cX6_due 3 (some .int))) := gV mML_X6_70 mIM_yX6_due mSE_yX6_due mIN_RX6 mCO_yX6_due
theorem lk_X6_73 : GoodIn wsL_law (wsV RX6 73 RX6 yX6_sends (wz yX6_sends cX6_sends 5 (some .int))) := gV mML_X6_73 mIM_yX6_sends mSE_yX6_sends mIN_RX6 mCO_yX6_sends
theorem lk_X6_77 : GoodIn wsL_law (wsV RX6 77 RX6 yX6_speeds (wz yX6_speeds cX6_speeds 6 none)) := gV mML_X6_77 mIM_yX6_speeds mSE_yX6_speeds mIN_RX6 mCO_yX6_speeds
theorem lk_X6_81 : GoodIn wsL_law (wsV RX6 81 RX6 yX6_goes (wz yX6_goes cX6_goes 4 none)) := gV mML_X6_81 mIM_yX6_goes mSE_yX6_goes mIN_RX6 mCO_yX6_goes
theorem lk_X6_84 : GoodIn wsL_law (wsV RX6 84 RX6 yX6_tick (wz yX6_tick cX6_tick 3 (some .int))) := gV mML_X6_84 mIM_yX6_tick mSE_yX6_tick mIN_RX6 mCO_yX6_tick
theorem lk_X6_87 : GoodIn wsL_law (wsV RX6 87 RX6 yX6_locoOf (wz yX6_locoOf cX6_locoOf 3 (some .int))) := gV mML_X6_87 mIM_yX6_locoOf mSE_yX6_locoOf mIN_RX6 mCO_yX6_locoOf
theorem lk_X6_90 : GoodIn wsL_law (wsV RX6 90 RX6 yX6_records (wz yX6_records cX6_records 2 none)) := gV mML_X6_90 mIM_yX6_records mSE_yX6_records mIN_RX6 mCO_yX6_records
theorem lk_X6_93 : GoodIn wsL_law (wsV RX6 93 RX6 yX6_refusesOrder (wz yX6_refusesOrder cX6_refusesOrder 4 (some .int))) := gV mML_X6_93 mIM_yX6_refusesOrder mSE_yX6_refusesOrder mIN_RX6 mCO_yX6_refusesOrder
theorem lk_X6_96 : GoodIn wsL_law (wsV RX6 96 RX6 yX6_laysOrder (wz yX6_laysOrder cX6_laysOrder 6 (some .int))) := gV mML_X6_96 mIM_yX6_laysOrder mSE_yX6_laysOrder mIN_RX6 mCO_yX6_laysOrder
theorem lk_X6_99 : GoodIn wsL_law (va_wsS RX6 99 yX6_refusesFrame (wz yX6_refusesFrame cX6_refusesFrame 3 (some .int))) := gS mML_X6_99 mST_yX6_refusesFrame mIN_RX6 mCO_yX6_refusesFrame
end
section
section FIELDS
variable {p : Program} {l : Launch} {e : Env} {R : Room} {s : State} {m : MethodId} {args : Array Value} {below : List Frame} {meth : Method} {c : Code} {G : Gm} {A : Nat → Prop} {nL ce sl : Nat} {Q : State → Prop} {I : Ii} {pm : Pm} {L : List (Nat × Value)} {pc : Nat} {st rest : List Value} {cc : ByteArray} {own : String} {index i j : Nat} {x z : Int32}
theorem gf_0_0 (F : FX p s m args c cc nL own G A) (hi : i < 11) (hw : Cond.fieldLink own index "LocoFrames$Layout" "locos" "[LLocoFrames$Loco;" ∈ wsL_law) (hd : decode cc pc = .ok (.getfield index, 3)) (kk : GG p l e R s m args below meth c G A nL ce sl Q I pm L (pc + 3) (.ref (G.2.2 1 i) :: rest)) : GG p l e R s m args below meth c G A nL ce sl Q I pm L pc (.ref (G.2.2 0 i) :: rest) := g_get F (C := RX1) (T := TX1) (N := 10) (ci := 1) inlX1 rfl hi rfl 0 (by decide) hw rfl hd kk
theorem gf_0_1 (F : FX p s m args c cc nL own G A) (hi : i < 11) (hw : Cond.fieldLink own index "LocoFrames$Layout" "station" "LLocoFrames$Station;" ∈ wsL_law) (hd : decode cc pc = .ok (.getfield index, 3)) (kk : GG p l e R s m args below meth c G A nL ce sl Q I pm L (pc + 3) (.ref (G.2.2 2 i) :: rest)) : GG p l e R s m args below meth c G A nL ce sl Q I pm L pc (.ref (G.2.2 0 i) :: rest) := g_get F (C := RX1) (T := TX1) (N := 10) (ci := 1) inlX1 rfl hi rfl 1 (by decide) hw rfl hd kk
theorem gf_0_2 (F : FX p s m args c cc nL own G A) (hi : i < 11) (hw : Cond.fieldLink own index "LocoFrames$Layout" "shortTicks" "[I" ∈ wsL_law) (hd : decode cc pc = .ok (.getfield index, 3)) (kk : GG p l e R s m args below meth c G A nL ce sl Q I pm L (pc + 3) (.ref (G.2.2 6 i) :: rest)) : GG p l e R s m args below meth c G A nL ce sl Q I pm L pc (.ref (G.2.2 0 i) :: rest) := g_get F (C := RX1) (T := TX1) (N := 10) (ci := 1) inlX1 rfl hi rfl 2 (by decide) hw rfl hd kk
theorem gf_0_3 (F : FX p s m args c cc nL own G A) (hi : i < 11) (hw : Cond.fieldLink own index "LocoFrames$Layout" "locoCount" "I" ∈ wsL_law) (hd : decode cc pc = .ok (.getfield index, 3)) (kk : GG p l e R s m args below meth c G A nL ce sl Q I pm L (pc + 3) (.int (I 0 i 3) :: rest)) : GG p l e R s m args below meth c G A nL ce sl Q I pm L pc (.ref (G.2.2 0 i) :: rest) := g_get F (C := RX1) (T := TX1) (N := 10) (ci := 1) inlX1 rfl hi rfl 3 (by decide) hw rfl hd kk
theorem gp_0_3 (F : FX p s m args c cc nL own G A) (hi : i < 11) (hw : Cond.fieldLink own index "LocoFrames$Layout" "locoCount" "I" ∈ wsL_law) (hd : decode cc pc = .ok (.putfield index, 3)) (kk : GG p l e R s m args below meth c G A nL ce sl Q (up3 I 0 i 3 x) pm L (pc + 3) rest) : GG p l e R s m args below meth c G A nL ce sl Q I pm L pc (.int x :: .ref (G.2.2 0 i) :: rest) := g_put F (C := RX1) (T := TX1) (N := 10) (ci := 1) (ty := .int) inlX1 tyX1 tyX1_ok nmX1 rfl hi rfl 3 (by decide) hw rfl (by decide +kernel) rfl rfl (Nat.le_of_ble_eq_true rfl) (by simp [cvv, up3]) hd kk
theorem gf_0_4 (F : FX p s m args c cc nL own G A) (hi : i < 11) (hw : Cond.fieldLink own index "LocoFrames$Layout" "ticks" "I" ∈ wsL_law) (hd : decode cc pc = .ok (.getfield index, 3)) (kk : GG p l e R s m args below meth c G A nL ce sl Q I pm L (pc + 3) (.int (I 0 i 4) :: rest)) : GG p l e R s m args below meth c G A nL ce sl Q I pm L pc (.ref (G.2.2 0 i) :: rest) := g_get F (C := RX1) (T := TX1) (N := 10) (ci := 1) inlX1 rfl hi rfl 4 (by decide) hw rfl hd kk
theorem gp_0_4 (F : FX p s m args c cc nL own G A) (hi : i < 11) (hw : Cond.fieldLink own index "LocoFrames$Layout" "ticks" "I" ∈ wsL_law) (hd : decode cc pc = .ok (.putfield index, 3)) (kk : GG p l e R s m args below meth c G A nL ce sl Q (up3 I 0 i 4 x) pm L (pc + 3) rest) : GG p l e R s m args below meth c G A nL ce sl Q I pm L pc (.int x :: .ref (G.2.2 0 i) :: rest) := g_put F (C := RX1) (T := TX1) (N := 10) (ci := 1) (ty := .int) inlX1 tyX1 tyX1_ok nmX1 rfl hi rfl 4 (by decide) hw rfl (by decide +kernel) rfl rfl (Nat.le_of_ble_eq_true rfl) (by simp [cvv, up3]) hd kk
theorem gf_0_5 (F : FX p s m args c cc nL own G A) (hi : i < 11) (hw : Cond.fieldLink own index "LocoFrames$Layout" "noiseTicks" "I" ∈ wsL_law) (hd : decode cc pc = .ok (.getfield index, 3)) (kk : GG p l e R s m args below meth c G A nL ce sl Q I pm L (pc + 3) (.int (I 0 i 5) :: rest)) : GG p l e R s m args below meth c G A nL ce sl Q I pm L pc (.ref (G.2.2 0 i) :: rest) := g_get F (C := RX1) (T := TX1) (N := 10) (ci := 1) inlX1 rfl hi rfl 5 (by decide) hw rfl hd kk
theorem gp_0_5 (F : FX p s m args c cc nL own G A) (hi : i < 11) (hw : Cond.fieldLink own index "LocoFrames$Layout" "noiseTicks" "I" ∈ wsL_law) (hd : decode cc pc = .ok (.putfield index, 3)) (kk : GG p l e R s m args below meth c G A nL ce sl Q (up3 I 0 i 5 x) pm L (pc + 3) rest) : GG p l e R s m args below meth c G A nL ce sl Q I pm L pc (.int x :: .ref (G.2.2 0 i) :: rest) := g_put F (C := RX1) (T := TX1) (N := 10) (ci := 1) (ty := .int) inlX1 tyX1 tyX1_ok nmX1 rfl hi rfl 5 (by decide) hw rfl (by decide +kernel) rfl rfl (Nat.le_of_ble_eq_true rfl) (by simp [cvv, up3]) hd kk
theorem gf_0_6 (F : FX p s m args c cc nL own G A) (hi : i < 11) (hw : Cond.fieldLink own index "LocoFrames$Layout" "spoiledAt" "I" ∈ wsL_law) (hd : decode cc pc = .ok (.getfield index, 3)) (kk : GG p l e R s m args below meth c G A nL ce sl Q I pm L (pc + 3) (.int (I 0 i 6) :: rest)) : GG p l e R s m args below meth c G A nL ce sl Q I pm L pc (.ref (G.2.2 0 i) :: rest) := g_get F (C := RX1) (T := TX1) (N := 10) (ci := 1) inlX1 rfl hi rfl 6 (by decide) hw rfl hd kk
theorem gp_0_6 (F : FX p s m args c cc nL own G A) (hi : i < 11) (hw : Cond.fieldLink own index "LocoFrames$Layout" "spoiledAt" "I" ∈ wsL_law) (hd : decode cc pc = .ok (.putfield index, 3)) (kk : GG p l e R s m args below meth c G A nL ce sl Q (up3 I 0 i 6 x) pm L (pc + 3) rest) : GG p l e R s m args below meth c G A nL ce sl Q I pm L pc (.int x :: .ref (G.2.2 0 i) :: rest) := g_put F (C := RX1) (T := TX1) (N := 10) (ci := 1) (ty := .int) inlX1 tyX1 tyX1_ok nmX1 rfl hi rfl 6 (by decide) hw rfl (by decide +kernel) rfl rfl (Nat.le_of_ble_eq_true rfl) (by simp [cvv, up3]) hd kk
theorem gf_0_7 (F : FX p s m args c cc nL own G A) (hi : i < 11) (hw : Cond.fieldLink own index "LocoFrames$Layout" "frames" "I" ∈ wsL_law) (hd : decode cc pc = .ok (.getfield index, 3)) (kk : GG p l e R s m args below meth c G A nL ce sl Q I pm L (pc + 3) (.int (I 0 i 7) :: rest)) : GG p l e R s m args below meth c G A nL ce sl Q I pm L pc (.ref (G.2.2 0 i) :: rest) := g_get F (C := RX1) (T := TX1) (N := 10) (ci := 1) inlX1 rfl hi rfl 7 (by decide) hw rfl hd kk
theorem gp_0_7 (F : FX p s m args c cc nL own G A) (hi : i < 11) (hw : Cond.fieldLink own index "LocoFrames$Layout" "frames" "I" ∈ wsL_law) (hd : decode cc pc = .ok (.putfield index, 3)) (kk : GG p l e R s m args below meth c G A nL ce sl Q (up3 I 0 i 7 x) pm L (pc + 3) rest) : GG p l e R s m args below meth c G A nL ce sl Q I pm L pc (.int x :: .ref (G.2.2 0 i) :: rest) := g_put F (C := RX1) (T := TX1) (N := 10) (ci := 1) (ty := .int) inlX1 tyX1 tyX1_ok nmX1 rfl hi rfl 7 (by decide) hw rfl (by decide +kernel) rfl rfl (Nat.le_of_ble_eq_true rfl) (by simp [cvv, up3]) hd kk
theorem gf_0_8 (F : FX p s m args c cc nL own G A) (hi : i < 11) (hw : Cond.fieldLink own index "LocoFrames$Layout" "broken" "I" ∈ wsL_law) (hd : decode cc pc = .ok (.getfield index, 3)) (kk : GG p l e R s m args below meth c G A nL ce sl Q I pm L (pc + 3) (.int (I 0 i 8) :: rest)) : GG p l e R s m args below meth c G A nL ce sl Q I pm L pc (.ref (G.2.2 0 i) :: rest) := g_get F (C := RX1) (T := TX1) (N := 10) (ci := 1) inlX1 rfl hi rfl 8 (by decide) hw rfl hd kk
theorem gp_0_8 (F : FX p s m args c cc nL own G A) (hi : i < 11) (hw : Cond.fieldLink own index "LocoFrames$Layout" "broken" "I" ∈ wsL_law) (hd : decode cc pc = .ok (.putfield index, 3)) (kk : GG p l e R s m args below meth c G A nL ce sl Q (up3 I 0 i 8 x) pm L (pc + 3) rest) : GG p l e R s m args below meth c G A nL ce sl Q I pm L pc (.int x :: .ref (G.2.2 0 i) :: rest) := g_put F (C := RX1) (T := TX1) (N := 10) (ci := 1) (ty := .int) inlX1 tyX1 tyX1_ok nmX1 rfl hi rfl 8 (by decide) hw rfl (by decide +kernel) rfl rfl (Nat.le_of_ble_eq_true rfl) (by simp [cvv, up3]) hd kk
theorem gf_0_9 (F : FX p s m args c cc nL own G A) (hi : i < 11) (hw : Cond.fieldLink own index "LocoFrames$Layout" "spoiled" "I" ∈ wsL_law) (hd : decode cc pc = .ok (.getfield index, 3)) (kk : GG p l e R s m args below meth c G A nL ce sl Q I pm L (pc + 3) (.int (I 0 i 9) :: rest)) : GG p l e R s m args below meth c G A nL ce sl Q I pm L pc (.ref (G.2.2 0 i) :: rest) := g_get F (C := RX1) (T := TX1) (N := 10) (ci := 1) inlX1 rfl hi rfl 9 (by decide) hw rfl hd kk
theorem gp_0_9 (F : FX p s m args c cc nL own G A) (hi : i < 11) (hw : Cond.fieldLink own index "LocoFrames$Layout" "spoiled" "I" ∈ wsL_law) (hd : decode cc pc = .ok (.putfield index, 3)) (kk : GG p l e R s m args below meth c G A nL ce sl Q (up3 I 0 i 9 x) pm L (pc + 3) rest) : GG p l e R s m args below meth c G A nL ce sl Q I pm L pc (.int x :: .ref (G.2.2 0 i) :: rest) := g_put F (C := RX1) (T := TX1) (N := 10) (ci := 1) (ty := .int) inlX1 tyX1 tyX1_ok nmX1 rfl hi rfl 9 (by decide) hw rfl (by decide +kernel) rfl rfl (Nat.le_of_ble_eq_true rfl) (by simp [cvv, up3]) hd kk
theorem gf_2_0 (F : FX p s m args c cc nL own G A) (hi : i < 11) (hw : Cond.fieldLink own index "LocoFrames$Station" "addresses" "[I" ∈ wsL_law) (hd : decode cc pc = .ok (.getfield index, 3)) (kk : GG p l e R s m args below meth c G A nL ce sl Q I pm L (pc + 3) (.ref (G.2.2 3 i) :: rest)) : GG p l e R s m args below meth c G A nL ce sl Q I pm L pc (.ref (G.2.2 2 i) :: rest) := g_get F (C := RX4) (T := TX4) (N := 4) (ci := 4) inlX4 rfl hi rfl 0 (by decide) hw rfl hd kk
theorem gf_2_1 (F : FX p s m args c cc nL own G A) (hi : i < 11) (hw : Cond.fieldLink own index "LocoFrames$Station" "data" "[I" ∈ wsL_law) (hd : decode cc pc = .ok (.getfield index, 3)) (kk : GG p l e R s m args below meth c G A nL ce sl Q I pm L (pc + 3) (.ref (G.2.2 4 i) :: rest)) : GG p l e R s m args below meth c G A nL ce sl Q I pm L pc (.ref (G.2.2 2 i) :: rest) := g_get F (C := RX4) (T := TX4) (N := 4) (ci := 4) inlX4 rfl hi rfl 1 (by decide) hw rfl hd kk
theorem gf_2_2 (F : FX p s m args c cc nL own G A) (hi : i < 11) (hw : Cond.fieldLink own index "LocoFrames$Station" "urgencies" "[I" ∈ wsL_law) (hd : decode cc pc = .ok (.getfield index, 3)) (kk : GG p l e R s m args below meth c G A nL ce sl Q I pm L (pc + 3) (.ref (G.2.2 5 i) :: rest)) : GG p l e R s m args below meth c G A nL ce sl Q I pm L pc (.ref (G.2.2 2 i) :: rest) := g_get F (C := RX4) (T := TX4) (N := 4) (ci := 4) inlX4 rfl hi rfl 2 (by decide) hw rfl hd kk
theorem gf_2_3 (F : FX p s m args c cc nL own G A) (hi : i < 11) (hw : Cond.fieldLink own index "LocoFrames$Station" "held" "I" ∈ wsL_law) (hd : decode cc pc = .ok (.getfield index, 3)) (kk : GG p l e R s m args below meth c G A nL ce sl Q I pm L (pc + 3) (.int (I 2 i 3) :: rest)) : GG p l e R s m args below meth c G A nL ce sl Q I pm L pc (.ref (G.2.2 2 i) :: rest) := g_get F (C := RX4) (T := TX4) (N := 4) (ci := 4) inlX4 rfl hi rfl 3 (by decide) hw rfl hd kk
theorem gp_2_3 (F : FX p s m args c cc nL own G A) (hi : i < 11) (hw : Cond.fieldLink own index "LocoFrames$Station" "held" "I" ∈ wsL_law) (hd : decode cc pc = .ok (.putfield index, 3)) (kk : GG p l e R s m args below meth c G A nL ce sl Q (up3 I 2 i 3 x) pm L (pc + 3) rest) : GG p l e R s m args below meth c G A nL ce sl Q I pm L pc (.int x :: .ref (G.2.2 2 i) :: rest) := g_put F (C := RX4) (T := TX4) (N := 4) (ci := 4) (ty := .int) inlX4 tyX4 tyX4_ok nmX4 rfl hi rfl 3 (by decide) hw rfl (by decide +kernel) rfl rfl (Nat.le_of_ble_eq_true rfl) (by simp [cvv, up3]) hd kk
theorem gf_7_0 (F : FX p s m args c cc nL own G A) (hi : i < 88) (hw : Cond.fieldLink own index "LocoFrames$Loco" "address" "I" ∈ wsL_law) (hd : decode cc pc = .ok (.getfield index, 3)) (kk : GG p l e R s m args below meth c G A nL ce sl Q I pm L (pc + 3) (.int (I 7 i 0) :: rest)) : GG p l e R s m args below meth c G A nL ce sl Q I pm L pc (.ref (G.2.2 7 i) :: rest) := g_get F (C := RX2) (T := TX2) (N := 11) (ci := 2) inlX2 rfl hi rfl 0 (by decide) hw rfl hd kk
theorem gp_7_0 (F : FX p s m args c cc nL own G A) (hi : i < 88) (hw : Cond.fieldLink own index "LocoFrames$Loco" "address" "I" ∈ wsL_law) (hd : decode cc pc = .ok (.putfield index, 3)) (kk : GG p l e R s m args below meth c G A nL ce sl Q (up3 I 7 i 0 x) pm L (pc + 3) rest) : GG p l e R s m args below meth c G A nL ce sl Q I pm L pc (.int x :: .ref (G.2.2 7 i) :: rest) := g_put F (C := RX2) (T := TX2) (N := 11) (ci := 2) (ty := .int) inlX2 tyX2 tyX2_ok nmX2 rfl hi rfl 0 (by decide) hw rfl (by decide +kernel) rfl rfl (Nat.le_of_ble_eq_true rfl) (by simp [cvv, up3]) hd kk
theorem gf_7_1 (F : FX p s m args c cc nL own G A) (hi : i < 88) (hw : Cond.fieldLink own index "LocoFrames$Loco" "mass" "I" ∈ wsL_law) (hd : decode cc pc = .ok (.getfield index, 3)) (kk : GG p l e R s m args below meth c G A nL ce sl Q I pm L (pc + 3) (.int (I 7 i 1) :: rest)) : GG p l e R s m args below meth c G A nL ce sl Q I pm L pc (.ref (G.2.2 7 i) :: rest) := g_get F (C := RX2) (T := TX2) (N := 11) (ci := 2) inlX2 rfl hi rfl 1 (by decide) hw rfl hd kk
theorem gp_7_1 (F : FX p s m args c cc nL own G A) (hi : i < 88) (hw : Cond.fieldLink own index "LocoFrames$Loco" "mass" "I" ∈ wsL_law) (hd : decode cc pc = .ok (.putfield index, 3)) (kk : GG p l e R s m args below meth c G A nL ce sl Q (up3 I 7 i 1 x) pm L (pc + 3) rest) : GG p l e R s m args below meth c G A nL ce sl Q I pm L pc (.int x :: .ref (G.2.2 7 i) :: rest) := g_put F (C := RX2) (T := TX2) (N := 11) (ci := 2) (ty := .int) inlX2 tyX2 tyX2_ok nmX2 rfl hi rfl 1 (by decide) hw rfl (by decide +kernel) rfl rfl (Nat.le_of_ble_eq_true rfl) (by simp [cvv, up3]) hd kk
theorem gf_7_2 (F : FX p s m args c cc nL own G A) (hi : i < 88) (hw : Cond.fieldLink own index "LocoFrames$Loco" "curve" "I" ∈ wsL_law) (hd : decode cc pc = .ok (.getfield index, 3)) (kk : GG p l e R s m args below meth c G A nL ce sl Q I pm L (pc + 3) (.int (I 7 i 2) :: rest)) : GG p l e R s m args below meth c G A nL ce sl Q I pm L pc (.ref (G.2.2 7 i) :: rest) := g_get F (C := RX2) (T := TX2) (N := 11) (ci := 2) inlX2 rfl hi rfl 2 (by decide) hw rfl hd kk
theorem gp_7_2 (F : FX p s m args c cc nL own G A) (hi : i < 88) (hw : Cond.fieldLink own index "LocoFrames$Loco" "curve" "I" ∈ wsL_law) (hd : decode cc pc = .ok (.putfield index, 3)) (kk : GG p l e R s m args below meth c G A nL ce sl Q (up3 I 7 i 2 x) pm L (pc + 3) rest) : GG p l e R s m args below meth c G A nL ce sl Q I pm L pc (.int x :: .ref (G.2.2 7 i) :: rest) := g_put F (C := RX2) (T := TX2) (N := 11) (ci := 2) (ty := .int) inlX2 tyX2 tyX2_ok nmX2 rfl hi rfl 2 (by decide) hw rfl (by decide +kernel) rfl rfl (Nat.le_of_ble_eq_true rfl) (by simp [cvv, up3]) hd kk
theorem gf_7_3 (F : FX p s m args c cc nL own G A) (hi : i < 88) (hw : Cond.fieldLink own index "LocoFrames$Loco" "place" "I" ∈ wsL_law) (hd : decode cc pc = .ok (.getfield index, 3)) (kk : GG p l e R s m args below meth c G A nL ce sl Q I pm L (pc + 3) (.int (I 7 i 3) :: rest)) : GG p l e R s m args below meth c G A nL ce sl Q I pm L pc (.ref (G.2.2 7 i) :: rest) := g_get F (C := RX2) (T := TX2) (N := 11) (ci := 2) inlX2 rfl hi rfl 3 (by decide) hw rfl hd kk
theorem gp_7_3 (F : FX p s m args c cc nL own G A) (hi : i < 88) (hw : Cond.fieldLink own index "LocoFrames$Loco" "place" "I" ∈ wsL_law) (hd : decode cc pc = .ok (.putfield index, 3)) (kk : GG p l e R s m args below meth c G A nL ce sl Q (up3 I 7 i 3 x) pm L (pc + 3) rest) : GG p l e R s m args below meth c G A nL ce sl Q I pm L pc (.int x :: .ref (G.2.2 7 i) :: rest) := g_put F (C := RX2) (T := TX2) (N := 11) (ci := 2) (ty := .int) inlX2 tyX2 tyX2_ok nmX2 rfl hi rfl 3 (by decide) hw rfl (by decide +kernel) rfl rfl (Nat.le_of_ble_eq_true rfl) (by simp [cvv, up3]) hd kk
theorem gf_7_4 (F : FX p s m args c cc nL own G A) (hi : i < 88) (hw : Cond.fieldLink own index "LocoFrames$Loco" "tenths" "I" ∈ wsL_law) (hd : decode cc pc = .ok (.getfield index, 3)) (kk : GG p l e R s m args below meth c G A nL ce sl Q I pm L (pc + 3) (.int (I 7 i 4) :: rest)) : GG p l e R s m args below meth c G A nL ce sl Q I pm L pc (.ref (G.2.2 7 i) :: rest) := g_get F (C := RX2) (T := TX2) (N := 11) (ci := 2) inlX2 rfl hi rfl 4 (by decide) hw rfl hd kk
theorem gp_7_4 (F : FX p s m args c cc nL own G A) (hi : i < 88) (hw : Cond.fieldLink own index "LocoFrames$Loco" "tenths" "I" ∈ wsL_law) (hd : decode cc pc = .ok (.putfield index, 3)) (kk : GG p l e R s m args below meth c G A nL ce sl Q (up3 I 7 i 4 x) pm L (pc + 3) rest) : GG p l e R s m args below meth c G A nL ce sl Q I pm L pc (.int x :: .ref (G.2.2 7 i) :: rest) := g_put F (C := RX2) (T := TX2) (N := 11) (ci := 2) (ty := .int) inlX2 tyX2 tyX2_ok nmX2 rfl hi rfl 4 (by decide) hw rfl (by decide +kernel) rfl rfl (Nat.le_of_ble_eq_true rfl) (by simp [cvv, up3]) hd kk
theorem gf_7_5 (F : FX p s m args c cc nL own G A) (hi : i < 88) (hw : Cond.fieldLink own index "LocoFrames$Loco" "speed" "I" ∈ wsL_law) (hd : decode cc pc = .ok (.getfield index, 3)) (kk : GG p l e R s m args below meth c G A nL ce sl Q I pm L (pc + 3) (.int (I 7 i 5) :: rest)) : GG p l e R s m args below meth c G A nL ce sl Q I pm L pc (.ref (G.2.2 7 i) :: rest) := g_get F (C := RX2) (T := TX2) (N := 11) (ci := 2) inlX2 rfl hi rfl 5 (by decide) hw rfl hd kk
theorem gp_7_5 (F : FX p s m args c cc nL own G A) (hi : i < 88) (hw : Cond.fieldLink own index "LocoFrames$Loco" "speed" "I" ∈ wsL_law) (hd : decode cc pc = .ok (.putfield index, 3)) (kk : GG p l e R s m args below meth c G A nL ce sl Q (up3 I 7 i 5 x) pm L (pc + 3) rest) : GG p l e R s m args below meth c G A nL ce sl Q I pm L pc (.int x :: .ref (G.2.2 7 i) :: rest) := g_put F (C := RX2) (T := TX2) (N := 11) (ci := 2) (ty := .int) inlX2 tyX2 tyX2_ok nmX2 rfl hi rfl 5 (by decide) hw rfl (by decide +kernel) rfl rfl (Nat.le_of_ble_eq_true rfl) (by simp [cvv, up3]) hd kk
theorem gf_7_6 (F : FX p s m args c cc nL own G A) (hi : i < 88) (hw : Cond.fieldLink own index "LocoFrames$Loco" "rounds" "I" ∈ wsL_law) (hd : decode cc pc = .ok (.getfield index, 3)) (kk : GG p l e R s m args below meth c G A nL ce sl Q I pm L (pc + 3) (.int (I 7 i 6) :: rest)) : GG p l e R s m args below meth c G A nL ce sl Q I pm L pc (.ref (G.2.2 7 i) :: rest) := g_get F (C := RX2) (T := TX2) (N := 11) (ci := 2) inlX2 rfl hi rfl 6 (by decide) hw rfl hd kk
theorem gp_7_6 (F : FX p s m args c cc nL own G A) (hi : i < 88) (hw : Cond.fieldLink own index "LocoFrames$Loco" "rounds" "I" ∈ wsL_law) (hd : decode cc pc = .ok (.putfield index, 3)) (kk : GG p l e R s m args below meth c G A nL ce sl Q (up3 I 7 i 6 x) pm L (pc + 3) rest) : GG p l e R s m args below meth c G A nL ce sl Q I pm L pc (.int x :: .ref (G.2.2 7 i) :: rest) := g_put F (C := RX2) (T := TX2) (N := 11) (ci := 2) (ty := .int) inlX2 tyX2 tyX2_ok nmX2 rfl hi rfl 6 (by decide) hw rfl (by decide +kernel) rfl rfl (Nat.le_of_ble_eq_true rfl) (by simp [cvv, up3]) hd kk
theorem gf_7_7 (F : FX p s m args c cc nL own G A) (hi : i < 88) (hw : Cond.fieldLink own index "LocoFrames$Loco" "step" "I" ∈ wsL_law) (hd : decode cc pc = .ok (.getfield index, 3)) (kk : GG p l e R s m args below meth c G A nL ce sl Q I pm L (pc + 3) (.int (I 7 i 7) :: rest)) : GG p l e R s m args below meth c G A nL ce sl Q I pm L pc (.ref (G.2.2 7 i) :: rest) := g_get F (C := RX2) (T := TX2) (N := 11) (ci := 2) inlX2 rfl hi rfl 7 (by decide) hw rfl hd kk
theorem gp_7_7 (F : FX p s m args c cc nL own G A) (hi : i < 88) (hw : Cond.fieldLink own index "LocoFrames$Loco" "step" "I" ∈ wsL_law) (hd : decode cc pc = .ok (.putfield index, 3)) (kk : GG p l e R s m args below meth c G A nL ce sl Q (up3 I 7 i 7 x) pm L (pc + 3) rest) : GG p l e R s m args below meth c G A nL ce sl Q I pm L pc (.int x :: .ref (G.2.2 7 i) :: rest) := g_put F (C := RX2) (T := TX2) (N := 11) (ci := 2) (ty := .int) inlX2 tyX2 tyX2_ok nmX2 rfl hi rfl 7 (by decide) hw rfl (by decide +kernel) rfl rfl (Nat.le_of_ble_eq_true rfl) (by simp [cvv, up3]) hd kk
theorem gf_7_8 (F : FX p s m args c cc nL own G A) (hi : i < 88) (hw : Cond.fieldLink own index "LocoFrames$Loco" "way" "I" ∈ wsL_law) (hd : decode cc pc = .ok (.getfield index, 3)) (kk : GG p l e R s m args below meth c G A nL ce sl Q I pm L (pc + 3) (.int (I 7 i 8) :: rest)) : GG p l e R s m args below meth c G A nL ce sl Q I pm L pc (.ref (G.2.2 7 i) :: rest) := g_get F (C := RX2) (T := TX2) (N := 11) (ci := 2) inlX2 rfl hi rfl 8 (by decide) hw rfl hd kk
theorem gp_7_8 (F : FX p s m args c cc nL own G A) (hi : i < 88) (hw : Cond.fieldLink own index "LocoFrames$Loco" "way" "I" ∈ wsL_law) (hd : decode cc pc = .ok (.putfield index, 3)) (kk : GG p l e R s m args below meth c G A nL ce sl Q (up3 I 7 i 8 x) pm L (pc + 3) rest) : GG p l e R s m args below meth c G A nL ce sl Q I pm L pc (.int x :: .ref (G.2.2 7 i) :: rest) := g_put F (C := RX2) (T := TX2) (N := 11) (ci := 2) (ty := .int) inlX2 tyX2 tyX2_ok nmX2 rfl hi rfl 8 (by decide) hw rfl (by decide +kernel) rfl rfl (Nat.le_of_ble_eq_true rfl) (by simp [cvv, up3]) hd kk
theorem gf_7_9 (F : FX p s m args c cc nL own G A) (hi : i < 88) (hw : Cond.fieldLink own index "LocoFrames$Loco" "lights" "I" ∈ wsL_law) (hd : decode cc pc = .ok (.getfield index, 3)) (kk : GG p l e R s m args below meth c G A nL ce sl Q I pm L (pc + 3) (.int (I 7 i 9) :: rest)) : GG p l e R s m args below meth c G A nL ce sl Q I pm L pc (.ref (G.2.2 7 i) :: rest) := g_get F (C := RX2) (T := TX2) (N := 11) (ci := 2) inlX2 rfl hi rfl 9 (by decide) hw rfl hd kk
theorem gp_7_9 (F : FX p s m args c cc nL own G A) (hi : i < 88) (hw : Cond.fieldLink own index "LocoFrames$Loco" "lights" "I" ∈ wsL_law) (hd : decode cc pc = .ok (.putfield index, 3)) (kk : GG p l e R s m args below meth c G A nL ce sl Q (up3 I 7 i 9 x) pm L (pc + 3) rest) : GG p l e R s m args below meth c G A nL ce sl Q I pm L pc (.int x :: .ref (G.2.2 7 i) :: rest) := g_put F (C := RX2) (T := TX2) (N := 11) (ci := 2) (ty := .int) inlX2 tyX2 tyX2_ok nmX2 rfl hi rfl 9 (by decide) hw rfl (by decide +kernel) rfl rfl (Nat.le_of_ble_eq_true rfl) (by simp [cvv, up3]) hd kk
theorem gf_7_10 (F : FX p s m args c cc nL own G A) (hi : i < 88) (hw : Cond.fieldLink own index "LocoFrames$Loco" "heard" "I" ∈ wsL_law) (hd : decode cc pc = .ok (.getfield index, 3)) (kk : GG p l e R s m args below meth c G A nL ce sl Q I pm L (pc + 3) (.int (I 7 i 10) :: rest)) : GG p l e R s m args below meth c G A nL ce sl Q I pm L pc (.ref (G.2.2 7 i) :: rest) := g_get F (C := RX2) (T := TX2) (N := 11) (ci := 2) inlX2 rfl hi rfl 10 (by decide) hw rfl hd kk
theorem gp_7_10 (F : FX p s m args c cc nL own G A) (hi : i < 88) (hw : Cond.fieldLink own index "LocoFrames$Loco" "heard" "I" ∈ wsL_law) (hd : decode cc pc = .ok (.putfield index, 3)) (kk : GG p l e R s m args below meth c G A nL ce sl Q (up3 I 7 i 10 x) pm L (pc + 3) rest) : GG p l e R s m args below meth c G A nL ce sl Q I pm L pc (.int x :: .ref (G.2.2 7 i) :: rest) := g_put F (C := RX2) (T := TX2) (N := 11) (ci := 2) (ty := .int) inlX2 tyX2 tyX2_ok nmX2 rfl hi rfl 10 (by decide) hw rfl (by decide +kernel) rfl rfl (Nat.le_of_ble_eq_true rfl) (by simp [cvv, up3]) hd kk
theorem gf_8_0 (F : FX p s m args c cc nL own G A) (hi : i < 1) (hw : Cond.fieldLink own index "LocoFrames" "now" "LLocoFrames$Layout;" ∈ wsL_law) (hd : decode cc pc = .ok (.getfield index, 3)) (kk : GG p l e R s m args below meth c G A nL ce sl Q I pm L (pc + 3) (.ref (G.2.2 0 0) :: rest)) : GG p l e R s m args below meth c G A nL ce sl Q I pm L pc (.ref (G.2.2 8 i) :: rest) := g_get F (C := RX5) (T := TX5) (N := 6) (ci := 5) inlX5 rfl hi rfl 0 (by decide) hw rfl hd kk
theorem gf_8_1 (F : FX p s m args c cc nL own G A) (hi : i < 1) (hw : Cond.fieldLink own index "LocoFrames" "foreseen" "LLocoFrames$Layout;" ∈ wsL_law) (hd : decode cc pc = .ok (.getfield index, 3)) (kk : GG p l e R s m args below meth c G A nL ce sl Q I pm L (pc + 3) (.ref (G.2.2 0 1) :: rest)) : GG p l e R s m args below meth c G A nL ce sl Q I pm L pc (.ref (G.2.2 8 i) :: rest) := g_get F (C := RX5) (T := TX5) (N := 6) (ci := 5) inlX5 rfl hi rfl 1 (by decide) hw rfl hd kk
theorem gf_8_2 (F : FX p s m args c cc nL own G A) (hi : i < 1) (hw : Cond.fieldLink own index "LocoFrames" "history" "LLocoFrames$History;" ∈ wsL_law) (hd : decode cc pc = .ok (.getfield index, 3)) (kk : GG p l e R s m args below meth c G A nL ce sl Q I pm L (pc + 3) (.ref (G.2.2 9 0) :: rest)) : GG p l e R s m args below meth c G A nL ce sl Q I pm L pc (.ref (G.2.2 8 i) :: rest) := g_get F (C := RX5) (T := TX5) (N := 6) (ci := 5) inlX5 rfl hi rfl 2 (by decide) hw rfl hd kk
theorem gf_8_3 (F : FX p s m args c cc nL own G A) (hi : i < 1) (hw : Cond.fieldLink own index "LocoFrames" "slots" "[LLocoFrames$Layout;" ∈ wsL_law) (hd : decode cc pc = .ok (.getfield index, 3)) (kk : GG p l e R s m args below meth c G A nL ce sl Q I pm L (pc + 3) (.ref (G.2.2 11 0) :: rest)) : GG p l e R s m args below meth c G A nL ce sl Q I pm L pc (.ref (G.2.2 8 i) :: rest) := g_get F (C := RX5) (T := TX5) (N := 6) (ci := 5) inlX5 rfl hi rfl 3 (by decide) hw rfl hd kk
theorem gf_8_4 (F : FX p s m args c cc nL own G A) (hi : i < 1) (hw : Cond.fieldLink own index "LocoFrames" "saved" "[Z" ∈ wsL_law) (hd : decode cc pc = .ok (.getfield index, 3)) (kk : GG p l e R s m args below meth c G A nL ce sl Q I pm L (pc + 3) (.ref (G.2.2 12 0) :: rest)) : GG p l e R s m args below meth c G A nL ce sl Q I pm L pc (.ref (G.2.2 8 i) :: rest) := g_get F (C := RX5) (T := TX5) (N := 6) (ci := 5) inlX5 rfl hi rfl 4 (by decide) hw rfl hd kk
theorem gf_8_5 (F : FX p s m args c cc nL own G A) (hi : i < 1) (hw : Cond.fieldLink own index "LocoFrames" "pad" "LLocoFrames$Pad;" ∈ wsL_law) (hd : decode cc pc = .ok (.getfield index, 3)) (kk : GG p l e R s m args below meth c G A nL ce sl Q I pm L (pc + 3) (.ref (G.2.2 13 0) :: rest)) : GG p l e R s m args below meth c G A nL ce sl Q I pm L pc (.ref (G.2.2 8 i) :: rest) := g_get F (C := RX5) (T := TX5) (N := 6) (ci := 5) inlX5 rfl hi rfl 5 (by decide) hw rfl hd kk
theorem gf_9_0 (F : FX p s m args c cc nL own G A) (hi : i < 1) (hw : Cond.fieldLink own index "LocoFrames$History" "states" "[LLocoFrames$Layout;" ∈ wsL_law) (hd : decode cc pc = .ok (.getfield index, 3)) (kk : GG p l e R s m args below meth c G A nL ce sl Q I pm L (pc + 3) (.ref (G.2.2 10 0) :: rest)) : GG p l e R s m args below meth c G A nL ce sl Q I pm L pc (.ref (G.2.2 9 i) :: rest) := g_get F (C := RX0) (T := TX0) (N := 3) (ci := 0) inlX0 rfl hi rfl 0 (by decide) hw rfl hd kk
theorem gf_9_1 (F : FX p s m args c cc nL own G A) (hi : i < 1) (hw : Cond.fieldLink own index "LocoFrames$History" "first" "I" ∈ wsL_law) (hd : decode cc pc = .ok (.getfield index, 3)) (kk : GG p l e R s m args below meth c G A nL ce sl Q I pm L (pc + 3) (.int (I 9 i 1) :: rest)) : GG p l e R s m args below meth c G A nL ce sl Q I pm L pc (.ref (G.2.2 9 i) :: rest) := g_get F (C := RX0) (T := TX0) (N := 3) (ci := 0) inlX0 rfl hi rfl 1 (by decide) hw rfl hd kk
theorem gp_9_1 (F : FX p s m args c cc nL own G A) (hi : i < 1) (hw : Cond.fieldLink own index "LocoFrames$History" "first" "I" ∈ wsL_law) (hd : decode cc pc = .ok (.putfield index, 3)) (kk : GG p l e R s m args below meth c G A nL ce sl Q (up3 I 9 i 1 x) pm L (pc + 3) rest) : GG p l e R s m args below meth c G A nL ce sl Q I pm L pc (.int x :: .ref (G.2.2 9 i) :: rest) := g_put F (C := RX0) (T := TX0) (N := 3) (ci := 0) (ty := .int) inlX0 tyX0 tyX0_ok nmX0 rfl hi rfl 1 (by decide) hw rfl (by decide +kernel) rfl rfl (Nat.le_of_ble_eq_true rfl) (by simp [cvv, up3]) hd kk
theorem gf_9_2 (F : FX p s m args c cc nL own G A) (hi : i < 1) (hw : Cond.fieldLink own index "LocoFrames$History" "held" "I" ∈ wsL_law) (hd : decode cc pc = .ok (.getfield index, 3)) (kk : GG p l e R s m args below meth c G A nL ce sl Q I pm L (pc + 3) (.int (I 9 i 2) :: rest)) : GG p l e R s m args below meth c G A nL ce sl Q I pm L pc (.ref (G.2.2 9 i) :: rest) := g_get F (C := RX0) (T := TX0) (N := 3) (ci := 0) inlX0 rfl hi rfl 2 (by decide) hw rfl hd kk
theorem gp_9_2 (F : FX p s m args c cc nL own G A) (hi : i < 1) (hw : Cond.fieldLink own index "LocoFrames$History" "held" "I" ∈ wsL_law) (hd : decode cc pc = .ok (.putfield index, 3)) (kk : GG p l e R s m args below meth c G A nL ce sl Q (up3 I 9 i 2 x) pm L (pc + 3) rest) : GG p l e R s m args below meth c G A nL ce sl Q I pm L pc (.int x :: .ref (G.2.2 9 i) :: rest) := g_put F (C := RX0) (T := TX0) (N := 3) (ci := 0) (ty := .int) inlX0 tyX0 tyX0_ok nmX0 rfl hi rfl 2 (by decide) hw rfl (by decide +kernel) rfl rfl (Nat.le_of_ble_eq_true rfl) (by simp [cvv, up3]) hd kk
theorem gf_13_0 (F : FX p s m args c cc nL own G A) (hi : i < 1) (hw : Cond.fieldLink own index "LocoFrames$Pad" "text" "[C" ∈ wsL_law) (hd : decode cc pc = .ok (.getfield index, 3)) (kk : GG p l e R s m args below meth c G A nL ce sl Q I pm L (pc + 3) (.ref (G.2.2 14 0) :: rest)) : GG p l e R s m args below meth c G A nL ce sl Q I pm L pc (.ref (G.2.2 13 i) :: rest) := g_get F (C := RX3) (T := TX3) (N := 6) (ci := 3) inlX3 rfl hi rfl 0 (by decide) hw rfl hd kk
theorem gf_13_1 (F : FX p s m args c cc nL own G A) (hi : i < 1) (hw : Cond.fieldLink own index "LocoFrames$Pad" "length" "I" ∈ wsL_law) (hd : decode cc pc = .ok (.getfield index, 3)) (kk : GG p l e R s m args below meth c G A nL ce sl Q I pm L (pc + 3) (.int (I 13 i 1) :: rest)) : GG p l e R s m args below meth c G A nL ce sl Q I pm L pc (.ref (G.2.2 13 i) :: rest) := g_get F (C := RX3) (T := TX3) (N := 6) (ci := 3) inlX3 rfl hi rfl 1 (by decide) hw rfl hd kk
theorem gp_13_1 (F : FX p s m args c cc nL own G A) (hi : i < 1) (hw : Cond.fieldLink own index "LocoFrames$Pad" "length" "I" ∈ wsL_law) (hd : decode cc pc = .ok (.putfield index, 3)) (kk : GG p l e R s m args below meth c G A nL ce sl Q (up3 I 13 i 1 x) pm L (pc + 3) rest) : GG p l e R s m args below meth c G A nL ce sl Q I pm L pc (.int x :: .ref (G.2.2 13 i) :: rest) := g_put F (C := RX3) (T := TX3) (N := 6) (ci := 3) (ty := .int) inlX3 tyX3 tyX3_ok nmX3 rfl hi rfl 1 (by decide) hw rfl (by decide +kernel) rfl rfl (Nat.le_of_ble_eq_true rfl) (by simp [cvv, up3]) hd kk
theorem gf_13_2 (F : FX p s m args c cc nL own G A) (hi : i < 1) (hw : Cond.fieldLink own index "LocoFrames$Pad" "at" "I" ∈ wsL_law) (hd : decode cc pc = .ok (.getfield index, 3)) (kk : GG p l e R s m args below meth c G A nL ce sl Q I pm L (pc + 3) (.int (I 13 i 2) :: rest)) : GG p l e R s m args below meth c G A nL ce sl Q I pm L pc (.ref (G.2.2 13 i) :: rest) := g_get F (C := RX3) (T := TX3) (N := 6) (ci := 3) inlX3 rfl hi rfl 2 (by decide) hw rfl hd kk
theorem gp_13_2 (F : FX p s m args c cc nL own G A) (hi : i < 1) (hw : Cond.fieldLink own index "LocoFrames$Pad" "at" "I" ∈ wsL_law) (hd : decode cc pc = .ok (.putfield index, 3)) (kk : GG p l e R s m args below meth c G A nL ce sl Q (up3 I 13 i 2 x) pm L (pc + 3) rest) : GG p l e R s m args below meth c G A nL ce sl Q I pm L pc (.int x :: .ref (G.2.2 13 i) :: rest) := g_put F (C := RX3) (T := TX3) (N := 6) (ci := 3) (ty := .int) inlX3 tyX3 tyX3_ok nmX3 rfl hi rfl 2 (by decide) hw rfl (by decide +kernel) rfl rfl (Nat.le_of_ble_eq_true rfl) (by simp [cvv, up3]) hd kk
theorem gf_13_3 (F : FX p s m args c cc nL own G A) (hi : i < 1) (hw : Cond.fieldLink own index "LocoFrames$Pad" "kind" "I" ∈ wsL_law) (hd : decode cc pc = .ok (.getfield index, 3)) (kk : GG p l e R s m args below meth c G A nL ce sl Q I pm L (pc + 3) (.int (I 13 i 3) :: rest)) : GG p l e R s m args below meth c G A nL ce sl Q I pm L pc (.ref (G.2.2 13 i) :: rest) := g_get F (C := RX3) (T := TX3) (N := 6) (ci := 3) inlX3 rfl hi rfl 3 (by decide) hw rfl hd kk
theorem gp_13_3 (F : FX p s m args c cc nL own G A) (hi : i < 1) (hw : Cond.fieldLink own index "LocoFrames$Pad" "kind" "I" ∈ wsL_law) (hd : decode cc pc = .ok (.putfield index, 3)) (kk : GG p l e R s m args below meth c G A nL ce sl Q (up3 I 13 i 3 x) pm L (pc + 3) rest) : GG p l e R s m args below meth c G A nL ce sl Q I pm L pc (.int x :: .ref (G.2.2 13 i) :: rest) := g_put F (C := RX3) (T := TX3) (N := 6) (ci := 3) (ty := .int) inlX3 tyX3 tyX3_ok nmX3 rfl hi rfl 3 (by decide) hw rfl (by decide +kernel) rfl rfl (Nat.le_of_ble_eq_true rfl) (by simp [cvv, up3]) hd kk
theorem gf_13_4 (F : FX p s m args c cc nL own G A) (hi : i < 1) (hw : Cond.fieldLink own index "LocoFrames$Pad" "numbers" "[I" ∈ wsL_law) (hd : decode cc pc = .ok (.getfield index, 3)) (kk : GG p l e R s m args below meth c G A nL ce sl Q I pm L (pc + 3) (.ref (G.2.2 15 0) :: rest)) : GG p l e R s m args below meth c G A nL ce sl Q I pm L pc (.ref (G.2.2 13 i) :: rest) := g_get F (C := RX3) (T := TX3) (N := 6) (ci := 3) inlX3 rfl hi rfl 4 (by decide) hw rfl hd kk
theorem gf_13_5 (F : FX p s m args c cc nL own G A) (hi : i < 1) (hw : Cond.fieldLink own index "LocoFrames$Pad" "numbersRead" "I" ∈ wsL_law) (hd : decode cc pc = .ok (.getfield index, 3)) (kk : GG p l e R s m args below meth c G A nL ce sl Q I pm L (pc + 3) (.int (I 13 i 5) :: rest)) : GG p l e R s m args below meth c G A nL ce sl Q I pm L pc (.ref (G.2.2 13 i) :: rest) := g_get F (C := RX3) (T := TX3) (N := 6) (ci := 3) inlX3 rfl hi rfl 5 (by decide) hw rfl hd kk
theorem gp_13_5 (F : FX p s m args c cc nL own G A) (hi : i < 1) (hw : Cond.fieldLink own index "LocoFrames$Pad" "numbersRead" "I" ∈ wsL_law) (hd : decode cc pc = .ok (.putfield index, 3)) (kk : GG p l e R s m args below meth c G A nL ce sl Q (up3 I 13 i 5 x) pm L (pc + 3) rest) : GG p l e R s m args below meth c G A nL ce sl Q I pm L pc (.int x :: .ref (G.2.2 13 i) :: rest) := g_put F (C := RX3) (T := TX3) (N := 6) (ci := 3) (ty := .int) inlX3 tyX3 tyX3_ok nmX3 rfl hi rfl 5 (by decide) hw rfl (by decide +kernel) rfl rfl (Nat.le_of_ble_eq_true rfl) (by simp [cvv, up3]) hd kk
theorem gf_16_0 (F : FX p s m args c cc nL own G A) (hi : i < 1) (hw : Cond.fieldLink own index "LocoFramesModel" "thrown" "I" ∈ wsL_law) (hd : decode cc pc = .ok (.getfield index, 3)) (kk : GG p l e R s m args below meth c G A nL ce sl Q I pm L (pc + 3) (.int (I 16 i 0) :: rest)) : GG p l e R s m args below meth c G A nL ce sl Q I pm L pc (.ref (G.2.2 16 i) :: rest) := g_get F (C := RX6) (T := TX6) (N := 13) (ci := 6) inlX6 rfl hi rfl 0 (by decide) hw rfl hd kk
theorem gp_16_0 (F : FX p s m args c cc nL own G A) (hi : i < 1) (hw : Cond.fieldLink own index "LocoFramesModel" "thrown" "I" ∈ wsL_law) (hd : decode cc pc = .ok (.putfield index, 3)) (kk : GG p l e R s m args below meth c G A nL ce sl Q (up3 I 16 i 0 x) pm L (pc + 3) rest) : GG p l e R s m args below meth c G A nL ce sl Q I pm L pc (.int x :: .ref (G.2.2 16 i) :: rest) := g_put F (C := RX6) (T := TX6) (N := 13) (ci := 6) (ty := .int) inlX6 tyX6 tyX6_ok nmX6 rfl hi rfl 0 (by decide) hw rfl (by decide +kernel) rfl rfl (Nat.le_of_ble_eq_true rfl) (by simp [cvv, up3]) hd kk
theorem gf_16_1 (F : FX p s m args c cc nL own G A) (hi : i < 1) (hw : Cond.fieldLink own index "LocoFramesModel" "s" "[I" ∈ wsL_law) (hd : decode cc pc = .ok (.getfield index, 3)) (kk : GG p l e R s m args below meth c G A nL ce sl Q I pm L (pc + 3) (.ref (G.2.2 17 0) :: rest)) : GG p l e R s m args below meth c G A nL ce sl Q I pm L pc (.ref (G.2.2 16 i) :: rest) := g_get F (C := RX6) (T := TX6) (N := 13) (ci := 6) inlX6 rfl hi rfl 1 (by decide) hw rfl hd kk
theorem gf_16_2 (F : FX p s m args c cc nL own G A) (hi : i < 1) (hw : Cond.fieldLink own index "LocoFramesModel" "aside" "[I" ∈ wsL_law) (hd : decode cc pc = .ok (.getfield index, 3)) (kk : GG p l e R s m args below meth c G A nL ce sl Q I pm L (pc + 3) (.ref (G.2.2 18 0) :: rest)) : GG p l e R s m args below meth c G A nL ce sl Q I pm L pc (.ref (G.2.2 16 i) :: rest) := g_get F (C := RX6) (T := TX6) (N := 13) (ci := 6) inlX6 rfl hi rfl 2 (by decide) hw rfl hd kk
theorem gf_16_3 (F : FX p s m args c cc nL own G A) (hi : i < 1) (hw : Cond.fieldLink own index "LocoFramesModel" "undos" "[I" ∈ wsL_law) (hd : decode cc pc = .ok (.getfield index, 3)) (kk : GG p l e R s m args below meth c G A nL ce sl Q I pm L (pc + 3) (.ref (G.2.2 19 0) :: rest)) : GG p l e R s m args below meth c G A nL ce sl Q I pm L pc (.ref (G.2.2 16 i) :: rest) := g_get F (C := RX6) (T := TX6) (N := 13) (ci := 6) inlX6 rfl hi rfl 3 (by decide) hw rfl hd kk
theorem gf_16_4 (F : FX p s m args c cc nL own G A) (hi : i < 1) (hw : Cond.fieldLink own index "LocoFramesModel" "undoMany" "I" ∈ wsL_law) (hd : decode cc pc = .ok (.getfield index, 3)) (kk : GG p l e R s m args below meth c G A nL ce sl Q I pm L (pc + 3) (.int (I 16 i 4) :: rest)) : GG p l e R s m args below meth c G A nL ce sl Q I pm L pc (.ref (G.2.2 16 i) :: rest) := g_get F (C := RX6) (T := TX6) (N := 13) (ci := 6) inlX6 rfl hi rfl 4 (by decide) hw rfl hd kk
theorem gp_16_4 (F : FX p s m args c cc nL own G A) (hi : i < 1) (hw : Cond.fieldLink own index "LocoFramesModel" "undoMany" "I" ∈ wsL_law) (hd : decode cc pc = .ok (.putfield index, 3)) (kk : GG p l e R s m args below meth c G A nL ce sl Q (up3 I 16 i 4 x) pm L (pc + 3) rest) : GG p l e R s m args below meth c G A nL ce sl Q I pm L pc (.int x :: .ref (G.2.2 16 i) :: rest) := g_put F (C := RX6) (T := TX6) (N := 13) (ci := 6) (ty := .int) inlX6 tyX6 tyX6_ok nmX6 rfl hi rfl 4 (by decide) hw rfl (by decide +kernel) rfl rfl (Nat.le_of_ble_eq_true rfl) (by simp [cvv, up3]) hd kk
theorem gf_16_5 (F : FX p s m args c cc nL own G A) (hi : i < 1) (hw : Cond.fieldLink own index "LocoFramesModel" "slots" "[I" ∈ wsL_law) (hd : decode cc pc = .ok (.getfield index, 3)) (kk : GG p l e R s m args below meth c G A nL ce sl Q I pm L (pc + 3) (.ref (G.2.2 20 0) :: rest)) : GG p l e R s m args below meth c G A nL ce sl Q I pm L pc (.ref (G.2.2 16 i) :: rest) := g_get F (C := RX6) (T := TX6) (N := 13) (ci := 6) inlX6 rfl hi rfl 5 (by decide) hw rfl hd kk
theorem gf_16_6 (F : FX p s m args c cc nL own G A) (hi : i < 1) (hw : Cond.fieldLink own index "LocoFramesModel" "hasSlot" "[Z" ∈ wsL_law) (hd : decode cc pc = .ok (.getfield index, 3)) (kk : GG p l e R s m args below meth c G A nL ce sl Q I pm L (pc + 3) (.ref (G.2.2 21 0) :: rest)) : GG p l e R s m args below meth c G A nL ce sl Q I pm L pc (.ref (G.2.2 16 i) :: rest) := g_get F (C := RX6) (T := TX6) (N := 13) (ci := 6) inlX6 rfl hi rfl 6 (by decide) hw rfl hd kk
theorem gf_16_7 (F : FX p s m args c cc nL own G A) (hi : i < 1) (hw : Cond.fieldLink own index "LocoFramesModel" "pad" "[I" ∈ wsL_law) (hd : decode cc pc = .ok (.getfield index, 3)) (kk : GG p l e R s m args below meth c G A nL ce sl Q I pm L (pc + 3) (.ref (G.2.2 22 0) :: rest)) : GG p l e R s m args below meth c G A nL ce sl Q I pm L pc (.ref (G.2.2 16 i) :: rest) := g_get F (C := RX6) (T := TX6) (N := 13) (ci := 6) inlX6 rfl hi rfl 7 (by decide) hw rfl hd kk
theorem gf_16_8 (F : FX p s m args c cc nL own G A) (hi : i < 1) (hw : Cond.fieldLink own index "LocoFramesModel" "length" "I" ∈ wsL_law) (hd : decode cc pc = .ok (.getfield index, 3)) (kk : GG p l e R s m args below meth c G A nL ce sl Q I pm L (pc + 3) (.int (I 16 i 8) :: rest)) : GG p l e R s m args below meth c G A nL ce sl Q I pm L pc (.ref (G.2.2 16 i) :: rest) := g_get F (C := RX6) (T := TX6) (N := 13) (ci := 6) inlX6 rfl hi rfl 8 (by decide) hw rfl hd kk
theorem gp_16_8 (F : FX p s m args c cc nL own G A) (hi : i < 1) (hw : Cond.fieldLink own index "LocoFramesModel" "length" "I" ∈ wsL_law) (hd : decode cc pc = .ok (.putfield index, 3)) (kk : GG p l e R s m args below meth c G A nL ce sl Q (up3 I 16 i 8 x) pm L (pc + 3) rest) : GG p l e R s m args below meth c G A nL ce sl Q I pm L pc (.int x :: .ref (G.2.2 16 i) :: rest) := g_put F (C := RX6) (T := TX6) (N := 13) (ci := 6) (ty := .int) inlX6 tyX6 tyX6_ok nmX6 rfl hi rfl 8 (by decide) hw rfl (by decide +kernel) rfl rfl (Nat.le_of_ble_eq_true rfl) (by simp [cvv, up3]) hd kk
theorem gf_16_9 (F : FX p s m args c cc nL own G A) (hi : i < 1) (hw : Cond.fieldLink own index "LocoFramesModel" "at" "I" ∈ wsL_law) (hd : decode cc pc = .ok (.getfield index, 3)) (kk : GG p l e R s m args below meth c G A nL ce sl Q I pm L (pc + 3) (.int (I 16 i 9) :: rest)) : GG p l e R s m args below meth c G A nL ce sl Q I pm L pc (.ref (G.2.2 16 i) :: rest) := g_get F (C := RX6) (T := TX6) (N := 13) (ci := 6) inlX6 rfl hi rfl 9 (by decide) hw rfl hd kk
theorem gp_16_9 (F : FX p s m args c cc nL own G A) (hi : i < 1) (hw : Cond.fieldLink own index "LocoFramesModel" "at" "I" ∈ wsL_law) (hd : decode cc pc = .ok (.putfield index, 3)) (kk : GG p l e R s m args below meth c G A nL ce sl Q (up3 I 16 i 9 x) pm L (pc + 3) rest) : GG p l e R s m args below meth c G A nL ce sl Q I pm L pc (.int x :: .ref (G.2.2 16 i) :: rest) := g_put F (C := RX6) (T := TX6) (N := 13) (ci := 6) (ty := .int) inlX6 tyX6 tyX6_ok nmX6 rfl hi rfl 9 (by decide) hw rfl (by decide +kernel) rfl rfl (Nat.le_of_ble_eq_true rfl) (by simp [cvv, up3]) hd kk
theorem gf_16_10 (F : FX p s m args c cc nL own G A) (hi : i < 1) (hw : Cond.fieldLink own index "LocoFramesModel" "isWell" "Z" ∈ wsL_law) (hd : decode cc pc = .ok (.getfield index, 3)) (kk : GG p l e R s m args below meth c G A nL ce sl Q I pm L (pc + 3) (.int (I 16 i 10) :: rest)) : GG p l e R s m args below meth c G A nL ce sl Q I pm L pc (.ref (G.2.2 16 i) :: rest) := g_get F (C := RX6) (T := TX6) (N := 13) (ci := 6) inlX6 rfl hi rfl 10 (by decide) hw rfl hd kk
theorem gp_16_10 (F : FX p s m args c cc nL own G A) (hi : i < 1) (hw : Cond.fieldLink own index "LocoFramesModel" "isWell" "Z" ∈ wsL_law) (hn : narrow .boolean (.int x) = .int x) (hf : fits .boolean (.int x) = true) (hd : decode cc pc = .ok (.putfield index, 3)) (kk : GG p l e R s m args below meth c G A nL ce sl Q (up3 I 16 i 10 x) pm L (pc + 3) rest) : GG p l e R s m args below meth c G A nL ce sl Q I pm L pc (.int x :: .ref (G.2.2 16 i) :: rest) := g_put F (C := RX6) (T := TX6) (N := 13) (ci := 6) (ty := .boolean) inlX6 tyX6 tyX6_ok nmX6 rfl hi rfl 10 (by decide) hw rfl (by decide +kernel) hn hf (Nat.le_of_ble_eq_true rfl) (by simp [cvv, up3]) hd kk
theorem gf_16_11 (F : FX p s m args c cc nL own G A) (hi : i < 1) (hw : Cond.fieldLink own index "LocoFramesModel" "told" "[I" ∈ wsL_law) (hd : decode cc pc = .ok (.getfield index, 3)) (kk : GG p l e R s m args below meth c G A nL ce sl Q I pm L (pc + 3) (.ref (G.2.2 23 0) :: rest)) : GG p l e R s m args below meth c G A nL ce sl Q I pm L pc (.ref (G.2.2 16 i) :: rest) := g_get F (C := RX6) (T := TX6) (N := 13) (ci := 6) inlX6 rfl hi rfl 11 (by decide) hw rfl hd kk
theorem gf_16_12 (F : FX p s m args c cc nL own G A) (hi : i < 1) (hw : Cond.fieldLink own index "LocoFramesModel" "toldMany" "I" ∈ wsL_law) (hd : decode cc pc = .ok (.getfield index, 3)) (kk : GG p l e R s m args below meth c G A nL ce sl Q I pm L (pc + 3) (.int (I 16 i 12) :: rest)) : GG p l e R s m args below meth c G A nL ce sl Q I pm L pc (.ref (G.2.2 16 i) :: rest) := g_get F (C := RX6) (T := TX6) (N := 13) (ci := 6) inlX6 rfl hi rfl 12 (by decide) hw rfl hd kk
theorem gp_16_12 (F : FX p s m args c cc nL own G A) (hi : i < 1) (hw : Cond.fieldLink own index "LocoFramesModel" "toldMany" "I" ∈ wsL_law) (hd : decode cc pc = .ok (.putfield index, 3)) (kk : GG p l e R s m args below meth c G A nL ce sl Q (up3 I 16 i 12 x) pm L (pc + 3) rest) : GG p l e R s m args below meth c G A nL ce sl Q I pm L pc (.int x :: .ref (G.2.2 16 i) :: rest) := g_put F (C := RX6) (T := TX6) (N := 13) (ci := 6) (ty := .int) inlX6 tyX6 tyX6_ok nmX6 rfl hi rfl 12 (by decide) hw rfl (by decide +kernel) rfl rfl (Nat.le_of_ble_eq_true rfl) (by simp [cvv, up3]) hd kk
theorem up3_f {I : Ii} {K i j : Nat} {v : Int32} : up3 I K i j v K i = upd (I K i) j v := by funext q; simp [up3, upd]
theorem vp_in_e {x : Int32} {j n : Nat} (ex : x = nI j) (hj : j < n) (hn : n < 2 ^ 31) : vp_in x n := by rw [ex]; exact vp_in_nI hj hn
theorem cl_e {x : Int32} {j n : Nat} (ex : x = nI j) (hj : j < n) (hn : n < 2 ^ 31) : x.toNatClampNeg = j := by rw [ex]; exact nI_clamp (Nat.lt_trans hj hn)
theorem ga_3 (F : FX p s m args c cc nL own G A) (hi : i < 11) (ex : x = nI j) (hj : j < 20) (hd : decode cc pc = .ok (.iaload, 1)) (kk : GG p l e R s m args below meth c G A nL ce sl Q I pm L (pc + 1) (.int (I 3 i j) :: rest)) : GG p l e R s m args below meth c G A nL ce sl Q I pm L pc (.int x :: .ref (G.2.2 3 i) :: rest) := g_iald F (n := 20) (f := I 3 i) hi rfl (vp_in_e ex hj (by decide)) hd (by rw [cl_e ex hj (by decide)]; exact kk)
theorem gs_3 (F : FX p s m args c cc nL own G A) (hi : i < 11) (ex : x = nI j) (hj : j < 20) (hd : decode cc pc = .ok (.iastore, 1)) (kk : GG p l e R s m args below meth c G A nL ce sl Q (up3 I 3 i j z) pm L (pc + 1) rest) : GG p l e R s m args below meth c G A nL ce sl Q I pm L pc (.int z :: .int x :: .ref (G.2.2 3 i) :: rest) := g_iast F (n := 20) (f := I 3 i) hi rfl (vp_in_e ex hj (by decide)) (by simp only [cvv, up3_f]) hd (by rw [cl_e ex hj (by decide)]; exact kk)
theorem ga_4 (F : FX p s m args c cc nL own G A) (hi : i < 11) (ex : x = nI j) (hj : j < 20) (hd : decode cc pc = .ok (.iaload, 1)) (kk : GG p l e R s m args below meth c G A nL ce sl Q I pm L (pc + 1) (.int (I 4 i j) :: rest)) : GG p l e R s m args below meth c G A nL ce sl Q I pm L pc (.int x :: .ref (G.2.2 4 i) :: rest) := g_iald F (n := 20) (f := I 4 i) hi rfl (vp_in_e ex hj (by decide)) hd (by rw [cl_e ex hj (by decide)]; exact kk)
theorem gs_4 (F : FX p s m args c cc nL own G A) (hi : i < 11) (ex : x = nI j) (hj : j < 20) (hd : decode cc pc = .ok (.iastore, 1)) (kk : GG p l e R s m args below meth c G A nL ce sl Q (up3 I 4 i j z) pm L (pc + 1) rest) : GG p l e R s m args below meth c G A nL ce sl Q I pm L pc (.int z :: .int x :: .ref (G.2.2 4 i) :: rest) := g_iast F (n := 20) (f := I 4 i) hi rfl (vp_in_e ex hj (by decide)) (by simp only [cvv, up3_f]) hd (by rw [cl_e ex hj (by decide)]; exact kk)
theorem ga_5 (F : FX p s m args c cc nL own G A) (hi : i < 11) (ex : x = nI j) (hj : j < 20) (hd : decode cc pc = .ok (.iaload, 1)) (kk : GG p l e R s m args below meth c G A nL ce sl Q I pm L (pc + 1) (.int (I 5 i j) :: rest)) : GG p l e R s m args below meth c G A nL ce sl Q I pm L pc (.int x :: .ref (G.2.2 5 i) :: rest) := g_iald F (n := 20) (f := I 5 i) hi rfl (vp_in_e ex hj (by decide)) hd (by rw [cl_e ex hj (by decide)]; exact kk)
theorem gs_5 (F : FX p s m args c cc nL own G A) (hi : i < 11) (ex : x = nI j) (hj : j < 20) (hd : decode cc pc = .ok (.iastore, 1)) (kk : GG p l e R s m args below meth c G A nL ce sl Q (up3 I 5 i j z) pm L (pc + 1) rest) : GG p l e R s m args below meth c G A nL ce sl Q I pm L pc (.int z :: .int x :: .ref (G.2.2 5 i) :: rest) := g_iast F (n := 20) (f := I 5 i) hi rfl (vp_in_e ex hj (by decide)) (by simp only [cvv, up3_f]) hd (by rw [cl_e ex hj (by decide)]; exact kk)
theorem ga_6 (F : FX p s m args c cc nL own G A) (hi : i < 11) (ex : x = nI j) (hj : j < 8) (hd : decode cc pc = .ok (.iaload, 1)) (kk : GG p l e R s m args below meth c G A nL ce sl Q I pm L (pc + 1) (.int (I 6 i j) :: rest)) : GG p l e R s m args below meth c G A nL ce sl Q I pm L pc (.int x :: .ref (G.2.2 6 i) :: rest) := g_iald F (n := 8) (f := I 6 i) hi rfl (vp_in_e ex hj (by decide)) hd (by rw [cl_e ex hj (by decide)]; exact kk)
theorem gs_6 (F : FX p s m args c cc nL own G A) (hi : i < 11) (ex : x = nI j) (hj : j < 8) (hd : decode cc pc = .ok (.iastore, 1)) (kk : GG p l e R s m args below meth c G A nL ce sl Q (up3 I 6 i j z) pm L (pc + 1) rest) : GG p l e R s m args below meth c G A nL ce sl Q I pm L pc (.int z :: .int x :: .ref (G.2.2 6 i) :: rest) := g_iast F (n := 8) (f := I 6 i) hi rfl (vp_in_e ex hj (by decide)) (by simp only [cvv, up3_f]) hd (by rw [cl_e ex hj (by decide)]; exact kk)
theorem ga_15 (F : FX p s m args c cc nL own G A) (hi : i < 1) (ex : x = nI j) (hj : j < 3) (hd : decode cc pc = .ok (.iaload, 1)) (kk : GG p l e R s m args below meth c G A nL ce sl Q I pm L (pc + 1) (.int (I 15 i j) :: rest)) : GG p l e R s m args below meth c G A nL ce sl Q I pm L pc (.int x :: .ref (G.2.2 15 i) :: rest) := g_iald F (n := 3) (f := I 15 i) hi rfl (vp_in_e ex hj (by decide)) hd (by rw [cl_e ex hj (by decide)]; exact kk)
theorem gs_15 (F : FX p s m args c cc nL own G A) (hi : i < 1) (ex : x = nI j) (hj : j < 3) (hd : decode cc pc = .ok (.iastore, 1)) (kk : GG p l e R s m args below meth c G A nL ce sl Q (up3 I 15 i j z) pm L (pc + 1) rest) : GG p l e R s m args below meth c G A nL ce sl Q I pm L pc (.int z :: .int x :: .ref (G.2.2 15 i) :: rest) := g_iast F (n := 3) (f := I 15 i) hi rfl (vp_in_e ex hj (by decide)) (by simp only [cvv, up3_f]) hd (by rw [cl_e ex hj (by decide)]; exact kk)
theorem ga_17 (F : FX p s m args c cc nL own G A) (hi : i < 1) (ex : x = nI j) (hj : j < 164) (hd : decode cc pc = .ok (.iaload, 1)) (kk : GG p l e R s m args below meth c G A nL ce sl Q I pm L (pc + 1) (.int (I 17 i j) :: rest)) : GG p l e R s m args below meth c G A nL ce sl Q I pm L pc (.int x :: .ref (G.2.2 17 i) :: rest) := g_iald F (n := 164) (f := I 17 i) hi rfl (vp_in_e ex hj (by decide)) hd (by rw [cl_e ex hj (by decide)]; exact kk)
theorem gs_17 (F : FX p s m args c cc nL own G A) (hi : i < 1) (ex : x = nI j) (hj : j < 164) (hd : decode cc pc = .ok (.iastore, 1)) (kk : GG p l e R s m args below meth c G A nL ce sl Q (up3 I 17 i j z) pm L (pc + 1) rest) : GG p l e R s m args below meth c G A nL ce sl Q I pm L pc (.int z :: .int x :: .ref (G.2.2 17 i) :: rest) := g_iast F (n := 164) (f := I 17 i) hi rfl (vp_in_e ex hj (by decide)) (by simp only [cvv, up3_f]) hd (by rw [cl_e ex hj (by decide)]; exact kk)
theorem ga_18 (F : FX p s m args c cc nL own G A) (hi : i < 1) (ex : x = nI j) (hj : j < 164) (hd : decode cc pc = .ok (.iaload, 1)) (kk : GG p l e R s m args below meth c G A nL ce sl Q I pm L (pc + 1) (.int (I 18 i j) :: rest)) : GG p l e R s m args below meth c G A nL ce sl Q I pm L pc (.int x :: .ref (G.2.2 18 i) :: rest) := g_iald F (n := 164) (f := I 18 i) hi rfl (vp_in_e ex hj (by decide)) hd (by rw [cl_e ex hj (by decide)]; exact kk)
theorem gs_18 (F : FX p s m args c cc nL own G A) (hi : i < 1) (ex : x = nI j) (hj : j < 164) (hd : decode cc pc = .ok (.iastore, 1)) (kk : GG p l e R s m args below meth c G A nL ce sl Q (up3 I 18 i j z) pm L (pc + 1) rest) : GG p l e R s m args below meth c G A nL ce sl Q I pm L pc (.int z :: .int x :: .ref (G.2.2 18 i) :: rest) := g_iast F (n := 164) (f := I 18 i) hi rfl (vp_in_e ex hj (by decide)) (by simp only [cvv, up3_f]) hd (by rw [cl_e ex hj (by decide)]; exact kk)
theorem ga_19 (F : FX p s m args c cc nL own G A) (hi : i < 1) (ex : x = nI j) (hj : j < 984) (hd : decode cc pc = .ok (.iaload, 1)) (kk : GG p l e R s m args below meth c G A nL ce sl Q I pm L (pc + 1) (.int (I 19 i j) :: rest)) : GG p l e R s m args below meth c G A nL ce sl Q I pm L pc (.int x :: .ref (G.2.2 19 i) :: rest) := g_iald F (n := 984) (f := I 19 i) hi rfl (vp_in_e ex hj (by decide)) hd (by rw [cl_e ex hj (by decide)]; exact kk)
theorem gs_19 (F : FX p s m args c cc nL own G A) (hi : i < 1) (ex : x = nI j) (hj : j < 984) (hd : decode cc pc = .ok (.iastore, 1)) (kk : GG p l e R s m args below meth c G A nL ce sl Q (up3 I 19 i j z) pm L (pc + 1) rest) : GG p l e R s m args below meth c G A nL ce sl Q I pm L pc (.int z :: .int x :: .ref (G.2.2 19 i) :: rest) := g_iast F (n := 984) (f := I 19 i) hi rfl (vp_in_e ex hj (by decide)) (by simp only [cvv, up3_f]) hd (by rw [cl_e ex hj (by decide)]; exact kk)
theorem ga_20 (F : FX p s m args c cc nL own G A) (hi : i < 1) (ex : x = nI j) (hj : j < 328) (hd : decode cc pc = .ok (.iaload, 1)) (kk : GG p l e R s m args below meth c G A nL ce sl Q I pm L (pc + 1) (.int (I 20 i j) :: rest)) : GG p l e R s m args below meth c G A nL ce sl Q I pm L pc (.int x :: .ref (G.2.2 20 i) :: rest) := g_iald F (n := 328) (f := I 20 i) hi rfl (vp_in_e ex hj (by decide)) hd (by rw [cl_e ex hj (by decide)]; exact kk)
theorem gs_20 (F : FX p s m args c cc nL own G A) (hi : i < 1) (ex : x = nI j) (hj : j < 328) (hd : decode cc pc = .ok (.iastore, 1)) (kk : GG p l e R s m args below meth c G A nL ce sl Q (up3 I 20 i j z) pm L (pc + 1) rest) : GG p l e R s m args below meth c G A nL ce sl Q I pm L pc (.int z :: .int x :: .ref (G.2.2 20 i) :: rest) := g_iast F (n := 328) (f := I 20 i) hi rfl (vp_in_e ex hj (by decide)) (by simp only [cvv, up3_f]) hd (by rw [cl_e ex hj (by decide)]; exact kk)
theorem ga_22 (F : FX p s m args c cc nL own G A) (hi : i < 1) (ex : x = nI j) (hj : j < 80) (hd : decode cc pc = .ok (.iaload, 1)) (kk : GG p l e R s m args below meth c G A nL ce sl Q I pm L (pc + 1) (.int (I 22 i j) :: rest)) : GG p l e R s m args below meth c G A nL ce sl Q I pm L pc (.int x :: .ref (G.2.2 22 i) :: rest) := g_iald F (n := 80) (f := I 22 i) hi rfl (vp_in_e ex hj (by decide)) hd (by rw [cl_e ex hj (by decide)]; exact kk)
theorem gs_22 (F : FX p s m args c cc nL own G A) (hi : i < 1) (ex : x = nI j) (hj : j < 80) (hd : decode cc pc = .ok (.iastore, 1)) (kk : GG p l e R s m args below meth c G A nL ce sl Q (up3 I 22 i j z) pm L (pc + 1) rest) : GG p l e R s m args below meth c G A nL ce sl Q I pm L pc (.int z :: .int x :: .ref (G.2.2 22 i) :: rest) := g_iast F (n := 80) (f := I 22 i) hi rfl (vp_in_e ex hj (by decide)) (by simp only [cvv, up3_f]) hd (by rw [cl_e ex hj (by decide)]; exact kk)
theorem ga_23 (F : FX p s m args c cc nL own G A) (hi : i < 1) (ex : x = nI j) (hj : j < 240) (hd : decode cc pc = .ok (.iaload, 1)) (kk : GG p l e R s m args below meth c G A nL ce sl Q I pm L (pc + 1) (.int (I 23 i j) :: rest)) : GG p l e R s m args below meth c G A nL ce sl Q I pm L pc (.int x :: .ref (G.2.2 23 i) :: rest) := g_iald F (n := 240) (f := I 23 i) hi rfl (vp_in_e ex hj (by decide)) hd (by rw [cl_e ex hj (by decide)]; exact kk)
theorem gs_23 (F : FX p s m args c cc nL own G A) (hi : i < 1) (ex : x = nI j) (hj : j < 240) (hd : decode cc pc = .ok (.iastore, 1)) (kk : GG p l e R s m args below meth c G A nL ce sl Q (up3 I 23 i j z) pm L (pc + 1) rest) : GG p l e R s m args below meth c G A nL ce sl Q I pm L pc (.int z :: .int x :: .ref (G.2.2 23 i) :: rest) := g_iast F (n := 240) (f := I 23 i) hi rfl (vp_in_e ex hj (by decide)) (by simp only [cvv, up3_f]) hd (by rw [cl_e ex hj (by decide)]; exact kk)
theorem ga_12 (F : FX p s m args c cc nL own G A) (hi : i < 1) (ex : x = nI j) (hj : j < 2) (hd : decode cc pc = .ok (.baload, 1)) (kk : GG p l e R s m args below meth c G A nL ce sl Q I pm L (pc + 1) (.int (I 12 i j) :: rest)) : GG p l e R s m args below meth c G A nL ce sl Q I pm L pc (.int x :: .ref (G.2.2 12 i) :: rest) := g_zald F (n := 2) (f := I 12 i) hi rfl (vp_in_e ex hj (by decide)) hd (by rw [cl_e ex hj (by decide)]; exact kk)
theorem gs_12 (F : FX p s m args c cc nL own G A) (hi : i < 1) (ex : x = nI j) (hj : j < 2) (hn : narrow .boolean (.int z) = .int z) (hd : decode cc pc = .ok (.bastore, 1)) (kk : GG p l e R s m args below meth c G A nL ce sl Q (up3 I 12 i j z) pm L (pc + 1) rest) : GG p l e R s m args below meth c G A nL ce sl Q I pm L pc (.int z :: .int x :: .ref (G.2.2 12 i) :: rest) := g_zast F (n := 2) (f := I 12 i) hi rfl (vp_in_e ex hj (by decide)) hn (by simp only [cvv, up3_f]) hd (by rw [cl_e ex hj (by decide)]; exact kk)
theorem ga_21 (F : FX p s m args c cc nL own G A) (hi : i < 1) (ex : x = nI j) (hj : j < 2) (hd : decode cc pc = .ok (.baload, 1)) (kk : GG p l e R s m args below meth c G A nL ce sl Q I pm L (pc + 1) (.int (I 21 i j) :: rest)) : GG p l e R s m args below meth c G A nL ce sl Q I pm L pc (.int x :: .ref (G.2.2 21 i) :: rest) := g_zald F (n := 2) (f := I 21 i) hi rfl (vp_in_e ex hj (by decide)) hd (by rw [cl_e ex hj (by decide)]; exact kk)
theorem gs_21 (F : FX p s m args c cc nL own G A) (hi : i < 1) (ex : x = nI j) (hj : j < 2) (hn : narrow .boolean (.int z) = .int z) (hd : decode cc pc = .ok (.bastore, 1)) (kk : GG p l e R s m args below meth c G A nL ce sl Q (up3 I 21 i j z) pm L (pc + 1) rest) : GG p l e R s m args below meth c G A nL ce sl Q I pm L pc (.int z :: .int x :: .ref (G.2.2 21 i) :: rest) := g_zast F (n := 2) (f := I 21 i) hi rfl (vp_in_e ex hj (by decide)) hn (by simp only [cvv, up3_f]) hd (by rw [cl_e ex hj (by decide)]; exact kk)
theorem ga_14 (F : FX p s m args c cc nL own G A) (hi : i < 1) (ex : x = nI j) (hj : j < 80) (hd : decode cc pc = .ok (.caload, 1)) (kk : GG p l e R s m args below meth c G A nL ce sl Q I pm L (pc + 1) (.int (I 14 i j) :: rest)) : GG p l e R s m args below meth c G A nL ce sl Q I pm L pc (.int x :: .ref (G.2.2 14 i) :: rest) := g_cald F (n := 80) (f := I 14 i) hi rfl (vp_in_e ex hj (by decide)) hd (by rw [cl_e ex hj (by decide)]; exact kk)
theorem gs_14 (F : FX p s m args c cc nL own G A) (hi : i < 1) (ex : x = nI j) (hj : j < 80) (hn : narrow .char (.int z) = .int z) (hd : decode cc pc = .ok (.castore, 1)) (kk : GG p l e R s m args below meth c G A nL ce sl Q (up3 I 14 i j z) pm L (pc + 1) rest) : GG p l e R s m args below meth c G A nL ce sl Q I pm L pc (.int z :: .int x :: .ref (G.2.2 14 i) :: rest) := g_cast F (n := 80) (f := I 14 i) hi rfl (vp_in_e ex hj (by decide)) hn (by simp only [cvv, up3_f]) hd (by rw [cl_e ex hj (by decide)]; exact kk)
theorem ga_1 (F : FX p s m args c cc nL own G A) (hi : i < 11) (ex : x = nI j) (hj : j < 8) (hd : decode cc pc = .ok (.aaload, 1)) (kk : GG p l e R s m args below meth c G A nL ce sl Q I pm L (pc + 1) (.ref (G.2.2 7 (8 * i + pm i j)) :: rest)) : GG p l e R s m args below meth c G A nL ce sl Q I pm L pc (.int x :: .ref (G.2.2 1 i) :: rest) := g_aald F (n := 8) (t0 := 4) hi rfl rfl (vp_in_e ex hj (by decide)) (by rw [cl_e ex hj (by decide)]) hd kk
theorem ga_10 (F : FX p s m args c cc nL own G A) (ex : x = nI j) (hj : j < 7) (hd : decode cc pc = .ok (.aaload, 1)) (kk : GG p l e R s m args below meth c G A nL ce sl Q I pm L (pc + 1) (.ref (G.2.2 0 (4 + j)) :: rest)) : GG p l e R s m args below meth c G A nL ce sl Q I pm L pc (.int x :: .ref (G.2.2 10 0) :: rest) := g_aald F (n := 7) (t0 := 3) (by decide) rfl rfl (vp_in_e ex hj (by decide)) (by rw [cl_e ex hj (by decide)]) hd kk
theorem ga_11 (F : FX p s m args c cc nL own G A) (ex : x = nI j) (hj : j < 2) (hd : decode cc pc = .ok (.aaload, 1)) (kk : GG p l e R s m args below meth c G A nL ce sl Q I pm L (pc + 1) (.ref (G.2.2 0 (2 + j)) :: rest)) : GG p l e R s m args below meth c G A nL ce sl Q I pm L pc (.int x :: .ref (G.2.2 11 0) :: rest) := g_aald F (n := 2) (t0 := 3) (by decide) rfl rfl (vp_in_e ex hj (by decide)) (by rw [cl_e ex hj (by decide)]) hd kk
theorem gs_1 (F : FX p s m args c cc nL own G A) {v : Nat} (hi : i < 11) (hv : v < 8) (ex : x = nI j) (hj : j < 8) (hd : decode cc pc = .ok (.aastore, 1)) (kk : GG p l e R s m args below meth c G A nL ce sl Q I (upP pm i j v) L (pc + 1) rest) : GG p l e R s m args below meth c G A nL ce sl Q I pm L pc (.ref (G.2.2 7 (8 * i + v)) :: .int x :: .ref (G.2.2 1 i) :: rest) := g_aast F hi hv (vp_in_e ex hj (by decide)) hd (by rw [cl_e ex hj (by decide)]; exact kk)
end FIELDS
end
section
theorem dX0_init_0 : decode cX0_init 0 = .ok (.aload_n 0, 1) := by decide +kernel
theorem dX0_init_1 : decode cX0_init 1 = .ok (.invokespecial 3, 3) := by decide +kernel
theorem dX0_init_4 : decode cX0_init 4 = .ok (.aload_n 0, 1) := by decide +kernel
theorem dX0_init_5 : decode cX0_init 5 = .ok (.bipush 7, 2) := by decide +kernel
theorem dX0_init_7 : decode cX0_init 7 = .ok (.anewarray 9, 3) := by decide +kernel
theorem dX0_init_10 : decode cX0_init 10 = .ok (.putfield 11, 3) := by decide +kernel
theorem dX0_init_13 : decode cX0_init 13 = .ok (.iconst 0, 1) := by decide +kernel
theorem dX0_init_14 : decode cX0_init 14 = .ok (.istore_n 1, 1) := by decide +kernel
theorem dX0_init_15 : decode cX0_init 15 = .ok (.iload_n 1, 1) := by decide +kernel
theorem dX0_init_16 : decode cX0_init 16 = .ok (.bipush 7, 2) := by decide +kernel
theorem dX0_init_18 : decode cX0_init 18 = .ok (.if_icmp .ge 22, 3) := by decide +kernel
theorem dX0_init_21 : decode cX0_init 21 = .ok (.aload_n 0, 1) := by decide +kernel
theorem dX0_init_22 : decode cX0_init 22 = .ok (.getfield 11, 3) := by decide +kernel
theorem dX0_init_25 : decode cX0_init 25 = .ok (.iload_n 1, 1) := by decide +kernel
theorem dX0_init_26 : decode cX0_init 26 = .ok (.new 9, 3) := by decide +kernel
theorem dX0_init_29 : decode cX0_init 29 = .ok (.dup, 1) := by decide +kernel
theorem dX0_init_30 : decode cX0_init 30 = .ok (.invokespecial 17, 3) := by decide +kernel
theorem dX0_init_33 : decode cX0_init 33 = .ok (.aastore, 1) := by decide +kernel
theorem dX0_init_34 : decode cX0_init 34 = .ok (.iinc 1 1, 3) := by decide +kernel
theorem dX0_init_37 : decode cX0_init 37 = .ok (.goto (-22), 3) := by decide +kernel
theorem dX0_init_40 : decode cX0_init 40 = .ok (.return_, 1) := by decide +kernel
theorem dX0_draft_0 : decode cX0_draft 0 = .ok (.aload_n 0, 1) := by decide +kernel
theorem dX0_draft_1 : decode cX0_draft 1 = .ok (.getfield 11, 3) := by decide +kernel
theorem dX0_draft_4 : decode cX0_draft 4 = .ok (.aload_n 0, 1) := by decide +kernel
theorem dX0_draft_5 : decode cX0_draft 5 = .ok (.getfield 18, 3) := by decide +kernel
theorem dX0_draft_8 : decode cX0_draft 8 = .ok (.aload_n 0, 1) := by decide +kernel
theorem dX0_draft_9 : decode cX0_draft 9 = .ok (.getfield 22, 3) := by decide +kernel
theorem dX0_draft_12 : decode cX0_draft 12 = .ok (.iadd, 1) := by decide +kernel
theorem dX0_draft_13 : decode cX0_draft 13 = .ok (.bipush 7, 2) := by decide +kernel
theorem dX0_draft_15 : decode cX0_draft 15 = .ok (.irem, 1) := by decide +kernel
theorem dX0_draft_16 : decode cX0_draft 16 = .ok (.aaload, 1) := by decide +kernel
theorem dX0_draft_17 : decode cX0_draft 17 = .ok (.aload_n 1, 1) := by decide +kernel
theorem dX0_draft_18 : decode cX0_draft 18 = .ok (.invokevirtual 25, 3) := by decide +kernel
theorem dX0_draft_21 : decode cX0_draft 21 = .ok (.return_, 1) := by decide +kernel
theorem dX0_kept_0 : decode cX0_kept 0 = .ok (.iload_n 1, 1) := by decide +kernel
theorem dX0_kept_1 : decode cX0_kept 1 = .ok (.ifCond .ge 5, 3) := by decide +kernel
theorem dX0_kept_4 : decode cX0_kept 4 = .ok (.iload_n 1, 1) := by decide +kernel
theorem dX0_kept_5 : decode cX0_kept 5 = .ok (.ireturn, 1) := by decide +kernel
theorem dX0_kept_6 : decode cX0_kept 6 = .ok (.aload_n 0, 1) := by decide +kernel
theorem dX0_kept_7 : decode cX0_kept 7 = .ok (.getfield 22, 3) := by decide +kernel
theorem dX0_kept_10 : decode cX0_kept 10 = .ok (.bipush 6, 2) := by decide +kernel
theorem dX0_kept_12 : decode cX0_kept 12 = .ok (.if_icmp .ge 16, 3) := by decide +kernel
theorem dX0_kept_15 : decode cX0_kept 15 = .ok (.aload_n 0, 1) := by decide +kernel
theorem dX0_kept_16 : decode cX0_kept 16 = .ok (.dup, 1) := by decide +kernel
theorem dX0_kept_17 : decode cX0_kept 17 = .ok (.getfield 22, 3) := by decide +kernel
theorem dX0_kept_20 : decode cX0_kept 20 = .ok (.iconst 1, 1) := by decide +kernel
theorem dX0_kept_21 : decode cX0_kept 21 = .ok (.iadd, 1) := by decide +kernel
theorem dX0_kept_22 : decode cX0_kept 22 = .ok (.putfield 22, 3) := by decide +kernel
theorem dX0_kept_25 : decode cX0_kept 25 = .ok (.goto 16, 3) := by decide +kernel
theorem dX0_kept_28 : decode cX0_kept 28 = .ok (.aload_n 0, 1) := by decide +kernel
theorem dX0_kept_29 : decode cX0_kept 29 = .ok (.aload_n 0, 1) := by decide +kernel
theorem dX0_kept_30 : decode cX0_kept 30 = .ok (.getfield 18, 3) := by decide +kernel
theorem dX0_kept_33 : decode cX0_kept 33 = .ok (.iconst 1, 1) := by decide +kernel
theorem dX0_kept_34 : decode cX0_kept 34 = .ok (.iadd, 1) := by decide +kernel
theorem dX0_kept_35 : decode cX0_kept 35 = .ok (.bipush 7, 2) := by decide +kernel
theorem dX0_kept_37 : decode cX0_kept 37 = .ok (.irem, 1) := by decide +kernel
theorem dX0_kept_38 : decode cX0_kept 38 = .ok (.putfield 18, 3) := by decide +kernel
theorem dX0_kept_41 : decode cX0_kept 41 = .ok (.iload_n 1, 1) := by decide +kernel
theorem dX0_kept_42 : decode cX0_kept 42 = .ok (.ireturn, 1) := by decide +kernel
theorem dX0_takeBack_0 : decode cX0_takeBack 0 = .ok (.aload_n 0, 1) := by decide +kernel
theorem dX0_takeBack_1 : decode cX0_takeBack 1 = .ok (.getfield 22, 3) := by decide +kernel
theorem dX0_takeBack_4 : decode cX0_takeBack 4 = .ok (.iconst 1, 1) := by decide +kernel
theorem dX0_takeBack_5 : decode cX0_takeBack 5 = .ok (.if_icmp .ge 6, 3) := by decide +kernel
theorem dX0_takeBack_8 : decode cX0_takeBack 8 = .ok (.bipush (-5), 2) := by decide +kernel
theorem dX0_takeBack_10 : decode cX0_takeBack 10 = .ok (.ireturn, 1) := by decide +kernel
theorem dX0_takeBack_11 : decode cX0_takeBack 11 = .ok (.aload_n 0, 1) := by decide +kernel
theorem dX0_takeBack_12 : decode cX0_takeBack 12 = .ok (.dup, 1) := by decide +kernel
theorem dX0_takeBack_13 : decode cX0_takeBack 13 = .ok (.getfield 22, 3) := by decide +kernel
theorem dX0_takeBack_16 : decode cX0_takeBack 16 = .ok (.iconst 1, 1) := by decide +kernel
theorem dX0_takeBack_17 : decode cX0_takeBack 17 = .ok (.isub, 1) := by decide +kernel
theorem dX0_takeBack_18 : decode cX0_takeBack 18 = .ok (.putfield 22, 3) := by decide +kernel
theorem dX0_takeBack_21 : decode cX0_takeBack 21 = .ok (.aload_n 1, 1) := by decide +kernel
theorem dX0_takeBack_22 : decode cX0_takeBack 22 = .ok (.aload_n 0, 1) := by decide +kernel
theorem dX0_takeBack_23 : decode cX0_takeBack 23 = .ok (.getfield 11, 3) := by decide +kernel
theorem dX0_takeBack_26 : decode cX0_takeBack 26 = .ok (.aload_n 0, 1) := by decide +kernel
theorem dX0_takeBack_27 : decode cX0_takeBack 27 = .ok (.getfield 18, 3) := by decide +kernel
theorem dX0_takeBack_30 : decode cX0_takeBack 30 = .ok (.aload_n 0, 1) := by decide +kernel
theorem dX0_takeBack_31 : decode cX0_takeBack 31 = .ok (.getfield 22, 3) := by decide +kernel
theorem dX0_takeBack_34 : decode cX0_takeBack 34 = .ok (.iadd, 1) := by decide +kernel
theorem dX0_takeBack_35 : decode cX0_takeBack 35 = .ok (.bipush 7, 2) := by decide +kernel
theorem dX0_takeBack_37 : decode cX0_takeBack 37 = .ok (.irem, 1) := by decide +kernel
theorem dX0_takeBack_38 : decode cX0_takeBack 38 = .ok (.aaload, 1) := by decide +kernel
theorem dX0_takeBack_39 : decode cX0_takeBack 39 = .ok (.invokevirtual 25, 3) := by decide +kernel
theorem dX0_takeBack_42 : decode cX0_takeBack 42 = .ok (.aload_n 0, 1) := by decide +kernel
theorem dX0_takeBack_43 : decode cX0_takeBack 43 = .ok (.getfield 22, 3) := by decide +kernel
theorem dX0_takeBack_46 : decode cX0_takeBack 46 = .ok (.ireturn, 1) := by decide +kernel
theorem dX1_init_0 : decode cX1_init 0 = .ok (.aload_n 0, 1) := by decide +kernel
theorem dX1_init_1 : decode cX1_init 1 = .ok (.invokespecial 3, 3) := by decide +kernel
theorem dX1_init_4 : decode cX1_init 4 = .ok (.aload_n 0, 1) := by decide +kernel
theorem dX1_init_5 : decode cX1_init 5 = .ok (.bipush 8, 2) := by decide +kernel
theorem dX1_init_7 : decode cX1_init 7 = .ok (.anewarray 9, 3) := by decide +kernel
theorem dX1_init_10 : decode cX1_init 10 = .ok (.putfield 11, 3) := by decide +kernel
theorem dX1_init_13 : decode cX1_init 13 = .ok (.aload_n 0, 1) := by decide +kernel
theorem dX1_init_14 : decode cX1_init 14 = .ok (.new 17, 3) := by decide +kernel
theorem dX1_init_17 : decode cX1_init 17 = .ok (.dup, 1) := by decide +kernel
theorem dX1_init_18 : decode cX1_init 18 = .ok (.invokespecial 19, 3) := by decide +kernel
theorem dX1_init_21 : decode cX1_init 21 = .ok (.putfield 20, 3) := by decide +kernel
theorem dX1_init_24 : decode cX1_init 24 = .ok (.aload_n 0, 1) := by decide +kernel
theorem dX1_init_25 : decode cX1_init 25 = .ok (.bipush 8, 2) := by decide +kernel
theorem dX1_init_27 : decode cX1_init 27 = .ok (.newarray .int, 2) := by decide +kernel
theorem dX1_init_29 : decode cX1_init 29 = .ok (.putfield 24, 3) := by decide +kernel
theorem dX1_init_32 : decode cX1_init 32 = .ok (.iconst 0, 1) := by decide +kernel
theorem dX1_init_33 : decode cX1_init 33 = .ok (.istore_n 1, 1) := by decide +kernel
theorem dX1_init_34 : decode cX1_init 34 = .ok (.iload_n 1, 1) := by decide +kernel
theorem dX1_init_35 : decode cX1_init 35 = .ok (.bipush 8, 2) := by decide +kernel
theorem dX1_init_37 : decode cX1_init 37 = .ok (.if_icmp .ge 22, 3) := by decide +kernel
theorem dX1_init_40 : decode cX1_init 40 = .ok (.aload_n 0, 1) := by decide +kernel
theorem dX1_init_41 : decode cX1_init 41 = .ok (.getfield 11, 3) := by decide +kernel
theorem dX1_init_44 : decode cX1_init 44 = .ok (.iload_n 1, 1) := by decide +kernel
theorem dX1_init_45 : decode cX1_init 45 = .ok (.new 9, 3) := by decide +kernel
theorem dX1_init_48 : decode cX1_init 48 = .ok (.dup, 1) := by decide +kernel
theorem dX1_init_49 : decode cX1_init 49 = .ok (.invokespecial 28, 3) := by decide +kernel
theorem dX1_init_52 : decode cX1_init 52 = .ok (.aastore, 1) := by decide +kernel
theorem dX1_init_53 : decode cX1_init 53 = .ok (.iinc 1 1, 3) := by decide +kernel
theorem dX1_init_56 : decode cX1_init 56 = .ok (.goto (-22), 3) := by decide +kernel
theorem dX1_init_59 : decode cX1_init 59 = .ok (.return_, 1) := by decide +kernel
theorem dX1_copyFrom_0 : decode cX1_copyFrom 0 = .ok (.iconst 0, 1) := by decide +kernel
theorem dX1_copyFrom_1 : decode cX1_copyFrom 1 = .ok (.istore_n 2, 1) := by decide +kernel
theorem dX1_copyFrom_2 : decode cX1_copyFrom 2 = .ok (.iload_n 2, 1) := by decide +kernel
theorem dX1_copyFrom_3 : decode cX1_copyFrom 3 = .ok (.aload_n 1, 1) := by decide +kernel
theorem dX1_copyFrom_4 : decode cX1_copyFrom 4 = .ok (.getfield 29, 3) := by decide +kernel
theorem dX1_copyFrom_7 : decode cX1_copyFrom 7 = .ok (.if_icmp .ge 24, 3) := by decide +kernel
theorem dX1_copyFrom_10 : decode cX1_copyFrom 10 = .ok (.aload_n 0, 1) := by decide +kernel
theorem dX1_copyFrom_11 : decode cX1_copyFrom 11 = .ok (.getfield 11, 3) := by decide +kernel
theorem dX1_copyFrom_14 : decode cX1_copyFrom 14 = .ok (.iload_n 2, 1) := by decide +kernel
theorem dX1_copyFrom_15 : decode cX1_copyFrom 15 = .ok (.aaload, 1) := by decide +kernel
theorem dX1_copyFrom_16 : decode cX1_copyFrom 16 = .ok (.aload_n 1, 1) := by decide +kernel
theorem dX1_copyFrom_17 : decode cX1_copyFrom 17 = .ok (.getfield 11, 3) := by decide +kernel
theorem dX1_copyFrom_20 : decode cX1_copyFrom 20 = .ok (.iload_n 2, 1) := by decide +kernel
theorem dX1_copyFrom_21 : decode cX1_copyFrom 21 = .ok (.aaload, 1) := by decide +kernel
theorem dX1_copyFrom_22 : decode cX1_copyFrom 22 = .ok (.invokevirtual 33, 3) := by decide +kernel
theorem dX1_copyFrom_25 : decode cX1_copyFrom 25 = .ok (.iinc 2 1, 3) := by decide +kernel
theorem dX1_copyFrom_28 : decode cX1_copyFrom 28 = .ok (.goto (-26), 3) := by decide +kernel
theorem dX1_copyFrom_31 : decode cX1_copyFrom 31 = .ok (.aload_n 0, 1) := by decide +kernel
theorem dX1_copyFrom_32 : decode cX1_copyFrom 32 = .ok (.getfield 20, 3) := by decide +kernel
theorem dX1_copyFrom_35 : decode cX1_copyFrom 35 = .ok (.aload_n 1, 1) := by decide +kernel
theorem dX1_copyFrom_36 : decode cX1_copyFrom 36 = .ok (.getfield 20, 3) := by decide +kernel
theorem dX1_copyFrom_39 : decode cX1_copyFrom 39 = .ok (.invokevirtual 37, 3) := by decide +kernel
theorem dX1_copyFrom_42 : decode cX1_copyFrom 42 = .ok (.aload_n 1, 1) := by decide +kernel
theorem dX1_copyFrom_43 : decode cX1_copyFrom 43 = .ok (.getfield 24, 3) := by decide +kernel
theorem dX1_copyFrom_46 : decode cX1_copyFrom 46 = .ok (.iconst 0, 1) := by decide +kernel
theorem dX1_copyFrom_47 : decode cX1_copyFrom 47 = .ok (.aload_n 0, 1) := by decide +kernel
theorem dX1_copyFrom_48 : decode cX1_copyFrom 48 = .ok (.getfield 24, 3) := by decide +kernel
theorem dX1_copyFrom_51 : decode cX1_copyFrom 51 = .ok (.iconst 0, 1) := by decide +kernel
theorem dX1_copyFrom_52 : decode cX1_copyFrom 52 = .ok (.bipush 8, 2) := by decide +kernel
theorem dX1_copyFrom_54 : decode cX1_copyFrom 54 = .ok (.invokestatic 40, 3) := by decide +kernel
theorem dX1_copyFrom_57 : decode cX1_copyFrom 57 = .ok (.aload_n 0, 1) := by decide +kernel
theorem dX1_copyFrom_58 : decode cX1_copyFrom 58 = .ok (.aload_n 1, 1) := by decide +kernel
theorem dX1_copyFrom_59 : decode cX1_copyFrom 59 = .ok (.getfield 29, 3) := by decide +kernel
theorem dX1_copyFrom_62 : decode cX1_copyFrom 62 = .ok (.putfield 29, 3) := by decide +kernel
theorem dX1_copyFrom_65 : decode cX1_copyFrom 65 = .ok (.aload_n 0, 1) := by decide +kernel
theorem dX1_copyFrom_66 : decode cX1_copyFrom 66 = .ok (.aload_n 1, 1) := by decide +kernel
theorem dX1_copyFrom_67 : decode cX1_copyFrom 67 = .ok (.getfield 46, 3) := by decide +kernel
theorem dX1_copyFrom_70 : decode cX1_copyFrom 70 = .ok (.putfield 46, 3) := by decide +kernel
theorem dX1_copyFrom_73 : decode cX1_copyFrom 73 = .ok (.aload_n 0, 1) := by decide +kernel
theorem dX1_copyFrom_74 : decode cX1_copyFrom 74 = .ok (.aload_n 1, 1) := by decide +kernel
theorem dX1_copyFrom_75 : decode cX1_copyFrom 75 = .ok (.getfield 49, 3) := by decide +kernel
theorem dX1_copyFrom_78 : decode cX1_copyFrom 78 = .ok (.putfield 49, 3) := by decide +kernel
theorem dX1_copyFrom_81 : decode cX1_copyFrom 81 = .ok (.aload_n 0, 1) := by decide +kernel
theorem dX1_copyFrom_82 : decode cX1_copyFrom 82 = .ok (.aload_n 1, 1) := by decide +kernel
theorem dX1_copyFrom_83 : decode cX1_copyFrom 83 = .ok (.getfield 52, 3) := by decide +kernel
theorem dX1_copyFrom_86 : decode cX1_copyFrom 86 = .ok (.putfield 52, 3) := by decide +kernel
theorem dX1_copyFrom_89 : decode cX1_copyFrom 89 = .ok (.aload_n 0, 1) := by decide +kernel
theorem dX1_copyFrom_90 : decode cX1_copyFrom 90 = .ok (.aload_n 1, 1) := by decide +kernel
theorem dX1_copyFrom_91 : decode cX1_copyFrom 91 = .ok (.getfield 55, 3) := by decide +kernel
theorem dX1_copyFrom_94 : decode cX1_copyFrom 94 = .ok (.putfield 55, 3) := by decide +kernel
theorem dX1_copyFrom_97 : decode cX1_copyFrom 97 = .ok (.aload_n 0, 1) := by decide +kernel
theorem dX1_copyFrom_98 : decode cX1_copyFrom 98 = .ok (.aload_n 1, 1) := by decide +kernel
theorem dX1_copyFrom_99 : decode cX1_copyFrom 99 = .ok (.getfield 58, 3) := by decide +kernel
theorem dX1_copyFrom_102 : decode cX1_copyFrom 102 = .ok (.putfield 58, 3) := by decide +kernel
theorem dX1_copyFrom_105 : decode cX1_copyFrom 105 = .ok (.aload_n 0, 1) := by decide +kernel
theorem dX1_copyFrom_106 : decode cX1_copyFrom 106 = .ok (.aload_n 1, 1) := by decide +kernel
theorem dX1_copyFrom_107 : decode cX1_copyFrom 107 = .ok (.getfield 61, 3) := by decide +kernel
theorem dX1_copyFrom_110 : decode cX1_copyFrom 110 = .ok (.putfield 61, 3) := by decide +kernel
theorem dX1_copyFrom_113 : decode cX1_copyFrom 113 = .ok (.return_, 1) := by decide +kernel
theorem dX1_locoAt_0 : decode cX1_locoAt 0 = .ok (.iload_n 1, 1) := by decide +kernel
theorem dX1_locoAt_1 : decode cX1_locoAt 1 = .ok (.iconst 0, 1) := by decide +kernel
theorem dX1_locoAt_2 : decode cX1_locoAt 2 = .ok (.aload_n 0, 1) := by decide +kernel
theorem dX1_locoAt_3 : decode cX1_locoAt 3 = .ok (.getfield 29, 3) := by decide +kernel
theorem dX1_locoAt_6 : decode cX1_locoAt 6 = .ok (.iconst 1, 1) := by decide +kernel
theorem dX1_locoAt_7 : decode cX1_locoAt 7 = .ok (.isub, 1) := by decide +kernel
theorem dX1_locoAt_8 : decode cX1_locoAt 8 = .ok (.invokestatic 64, 3) := by decide +kernel
theorem dX1_locoAt_11 : decode cX1_locoAt 11 = .ok (.ifCond .eq 12, 3) := by decide +kernel
theorem dX1_locoAt_14 : decode cX1_locoAt 14 = .ok (.aload_n 0, 1) := by decide +kernel
theorem dX1_locoAt_15 : decode cX1_locoAt 15 = .ok (.getfield 11, 3) := by decide +kernel
theorem dX1_locoAt_18 : decode cX1_locoAt 18 = .ok (.iload_n 1, 1) := by decide +kernel
theorem dX1_locoAt_19 : decode cX1_locoAt 19 = .ok (.aaload, 1) := by decide +kernel
theorem dX1_locoAt_20 : decode cX1_locoAt 20 = .ok (.goto 4, 3) := by decide +kernel
theorem dX1_locoAt_23 : decode cX1_locoAt 23 = .ok (.aconst_null, 1) := by decide +kernel
theorem dX1_locoAt_24 : decode cX1_locoAt 24 = .ok (.areturn, 1) := by decide +kernel
theorem dX1_locoWith_0 : decode cX1_locoWith 0 = .ok (.aload_n 0, 1) := by decide +kernel
theorem dX1_locoWith_1 : decode cX1_locoWith 1 = .ok (.aload_n 0, 1) := by decide +kernel
theorem dX1_locoWith_2 : decode cX1_locoWith 2 = .ok (.iload_n 1, 1) := by decide +kernel
theorem dX1_locoWith_3 : decode cX1_locoWith 3 = .ok (.invokevirtual 68, 3) := by decide +kernel
theorem dX1_locoWith_6 : decode cX1_locoWith 6 = .ok (.invokevirtual 72, 3) := by decide +kernel
theorem dX1_locoWith_9 : decode cX1_locoWith 9 = .ok (.areturn, 1) := by decide +kernel
theorem dX1_rankOf_0 : decode cX1_rankOf 0 = .ok (.iconst 0, 1) := by decide +kernel
theorem dX1_rankOf_1 : decode cX1_rankOf 1 = .ok (.istore_n 2, 1) := by decide +kernel
theorem dX1_rankOf_2 : decode cX1_rankOf 2 = .ok (.iload_n 2, 1) := by decide +kernel
theorem dX1_rankOf_3 : decode cX1_rankOf 3 = .ok (.aload_n 0, 1) := by decide +kernel
theorem dX1_rankOf_4 : decode cX1_rankOf 4 = .ok (.getfield 29, 3) := by decide +kernel
theorem dX1_rankOf_7 : decode cX1_rankOf 7 = .ok (.if_icmp .ge 22, 3) := by decide +kernel
theorem dX1_rankOf_10 : decode cX1_rankOf 10 = .ok (.aload_n 0, 1) := by decide +kernel
theorem dX1_rankOf_11 : decode cX1_rankOf 11 = .ok (.getfield 11, 3) := by decide +kernel
theorem dX1_rankOf_14 : decode cX1_rankOf 14 = .ok (.iload_n 2, 1) := by decide +kernel
theorem dX1_rankOf_15 : decode cX1_rankOf 15 = .ok (.aaload, 1) := by decide +kernel
theorem dX1_rankOf_16 : decode cX1_rankOf 16 = .ok (.getfield 76, 3) := by decide +kernel
theorem dX1_rankOf_19 : decode cX1_rankOf 19 = .ok (.iload_n 1, 1) := by decide +kernel
theorem dX1_rankOf_20 : decode cX1_rankOf 20 = .ok (.if_icmp .eq 9, 3) := by decide +kernel
theorem dX1_rankOf_23 : decode cX1_rankOf 23 = .ok (.iinc 2 1, 3) := by decide +kernel
theorem dX1_rankOf_26 : decode cX1_rankOf 26 = .ok (.goto (-24), 3) := by decide +kernel
theorem dX1_rankOf_29 : decode cX1_rankOf 29 = .ok (.iload_n 2, 1) := by decide +kernel
theorem dX1_rankOf_30 : decode cX1_rankOf 30 = .ok (.ireturn, 1) := by decide +kernel
theorem dX1_addLoco_0 : decode cX1_addLoco 0 = .ok (.iload_n 1, 1) := by decide +kernel
theorem dX1_addLoco_1 : decode cX1_addLoco 1 = .ok (.iconst 1, 1) := by decide +kernel
theorem dX1_addLoco_2 : decode cX1_addLoco 2 = .ok (.bipush 99, 2) := by decide +kernel
theorem dX1_addLoco_4 : decode cX1_addLoco 4 = .ok (.invokestatic 64, 3) := by decide +kernel
theorem dX1_addLoco_7 : decode cX1_addLoco 7 = .ok (.ifCond .eq 34, 3) := by decide +kernel
theorem dX1_addLoco_10 : decode cX1_addLoco 10 = .ok (.iload_n 2, 1) := by decide +kernel
theorem dX1_addLoco_11 : decode cX1_addLoco 11 = .ok (.iconst 1, 1) := by decide +kernel
theorem dX1_addLoco_12 : decode cX1_addLoco 12 = .ok (.bipush 20, 2) := by decide +kernel
theorem dX1_addLoco_14 : decode cX1_addLoco 14 = .ok (.invokestatic 64, 3) := by decide +kernel
theorem dX1_addLoco_17 : decode cX1_addLoco 17 = .ok (.ifCond .eq 24, 3) := by decide +kernel
theorem dX1_addLoco_20 : decode cX1_addLoco 20 = .ok (.iload_n 3, 1) := by decide +kernel
theorem dX1_addLoco_21 : decode cX1_addLoco 21 = .ok (.iconst 0, 1) := by decide +kernel
theorem dX1_addLoco_22 : decode cX1_addLoco 22 = .ok (.iconst 2, 1) := by decide +kernel
theorem dX1_addLoco_23 : decode cX1_addLoco 23 = .ok (.invokestatic 64, 3) := by decide +kernel
theorem dX1_addLoco_26 : decode cX1_addLoco 26 = .ok (.ifCond .eq 15, 3) := by decide +kernel
theorem dX1_addLoco_29 : decode cX1_addLoco 29 = .ok (.iload 4, 2) := by decide +kernel
theorem dX1_addLoco_31 : decode cX1_addLoco 31 = .ok (.iconst 0, 1) := by decide +kernel
theorem dX1_addLoco_32 : decode cX1_addLoco 32 = .ok (.sipush 799, 3) := by decide +kernel
theorem dX1_addLoco_35 : decode cX1_addLoco 35 = .ok (.invokestatic 64, 3) := by decide +kernel
theorem dX1_addLoco_38 : decode cX1_addLoco 38 = .ok (.ifCond .ne 6, 3) := by decide +kernel
theorem dX1_addLoco_41 : decode cX1_addLoco 41 = .ok (.bipush (-2), 2) := by decide +kernel
theorem dX1_addLoco_43 : decode cX1_addLoco 43 = .ok (.ireturn, 1) := by decide +kernel
theorem dX1_addLoco_44 : decode cX1_addLoco 44 = .ok (.aload_n 0, 1) := by decide +kernel
theorem dX1_addLoco_45 : decode cX1_addLoco 45 = .ok (.iload_n 1, 1) := by decide +kernel
theorem dX1_addLoco_46 : decode cX1_addLoco 46 = .ok (.invokevirtual 68, 3) := by decide +kernel
theorem dX1_addLoco_49 : decode cX1_addLoco 49 = .ok (.aload_n 0, 1) := by decide +kernel
theorem dX1_addLoco_50 : decode cX1_addLoco 50 = .ok (.getfield 29, 3) := by decide +kernel
theorem dX1_addLoco_53 : decode cX1_addLoco 53 = .ok (.if_icmp .ge 6, 3) := by decide +kernel
theorem dX1_addLoco_56 : decode cX1_addLoco 56 = .ok (.bipush (-5), 2) := by decide +kernel
theorem dX1_addLoco_58 : decode cX1_addLoco 58 = .ok (.ireturn, 1) := by decide +kernel
theorem dX1_addLoco_59 : decode cX1_addLoco 59 = .ok (.aload_n 0, 1) := by decide +kernel
theorem dX1_addLoco_60 : decode cX1_addLoco 60 = .ok (.getfield 29, 3) := by decide +kernel
theorem dX1_addLoco_63 : decode cX1_addLoco 63 = .ok (.bipush 8, 2) := by decide +kernel
theorem dX1_addLoco_65 : decode cX1_addLoco 65 = .ok (.if_icmp .lt 6, 3) := by decide +kernel
theorem dX1_addLoco_68 : decode cX1_addLoco 68 = .ok (.bipush (-4), 2) := by decide +kernel
theorem dX1_addLoco_70 : decode cX1_addLoco 70 = .ok (.ireturn, 1) := by decide +kernel
theorem dX1_addLoco_71 : decode cX1_addLoco 71 = .ok (.aload_n 0, 1) := by decide +kernel
theorem dX1_addLoco_72 : decode cX1_addLoco 72 = .ok (.getfield 11, 3) := by decide +kernel
theorem dX1_addLoco_75 : decode cX1_addLoco 75 = .ok (.aload_n 0, 1) := by decide +kernel
theorem dX1_addLoco_76 : decode cX1_addLoco 76 = .ok (.getfield 29, 3) := by decide +kernel
theorem dX1_addLoco_79 : decode cX1_addLoco 79 = .ok (.aaload, 1) := by decide +kernel
theorem dX1_addLoco_80 : decode cX1_addLoco 80 = .ok (.astore 5, 2) := by decide +kernel
theorem dX1_addLoco_82 : decode cX1_addLoco 82 = .ok (.aload_n 0, 1) := by decide +kernel
theorem dX1_addLoco_83 : decode cX1_addLoco 83 = .ok (.getfield 29, 3) := by decide +kernel
theorem dX1_addLoco_86 : decode cX1_addLoco 86 = .ok (.istore 6, 2) := by decide +kernel
theorem dX1_addLoco_88 : decode cX1_addLoco 88 = .ok (.iload 6, 2) := by decide +kernel
theorem dX1_addLoco_90 : decode cX1_addLoco 90 = .ok (.ifCond .le 41, 3) := by decide +kernel
theorem dX1_addLoco_93 : decode cX1_addLoco 93 = .ok (.aload_n 0, 1) := by decide +kernel
theorem dX1_addLoco_94 : decode cX1_addLoco 94 = .ok (.getfield 11, 3) := by decide +kernel
theorem dX1_addLoco_97 : decode cX1_addLoco 97 = .ok (.iload 6, 2) := by decide +kernel
theorem dX1_addLoco_99 : decode cX1_addLoco 99 = .ok (.iconst 1, 1) := by decide +kernel
theorem dX1_addLoco_100 : decode cX1_addLoco 100 = .ok (.isub, 1) := by decide +kernel
theorem dX1_addLoco_101 : decode cX1_addLoco 101 = .ok (.aaload, 1) := by decide +kernel
theorem dX1_addLoco_102 : decode cX1_addLoco 102 = .ok (.getfield 76, 3) := by decide +kernel
theorem dX1_addLoco_105 : decode cX1_addLoco 105 = .ok (.iload_n 1, 1) := by decide +kernel
theorem dX1_addLoco_106 : decode cX1_addLoco 106 = .ok (.if_icmp .le 25, 3) := by decide +kernel
theorem dX1_addLoco_109 : decode cX1_addLoco 109 = .ok (.aload_n 0, 1) := by decide +kernel
theorem dX1_addLoco_110 : decode cX1_addLoco 110 = .ok (.getfield 11, 3) := by decide +kernel
theorem dX1_addLoco_113 : decode cX1_addLoco 113 = .ok (.iload 6, 2) := by decide +kernel
theorem dX1_addLoco_115 : decode cX1_addLoco 115 = .ok (.aload_n 0, 1) := by decide +kernel
theorem dX1_addLoco_116 : decode cX1_addLoco 116 = .ok (.getfield 11, 3) := by decide +kernel
theorem dX1_addLoco_119 : decode cX1_addLoco 119 = .ok (.iload 6, 2) := by decide +kernel
theorem dX1_addLoco_121 : decode cX1_addLoco 121 = .ok (.iconst 1, 1) := by decide +kernel
theorem dX1_addLoco_122 : decode cX1_addLoco 122 = .ok (.isub, 1) := by decide +kernel
theorem dX1_addLoco_123 : decode cX1_addLoco 123 = .ok (.aaload, 1) := by decide +kernel
theorem dX1_addLoco_124 : decode cX1_addLoco 124 = .ok (.aastore, 1) := by decide +kernel
theorem dX1_addLoco_125 : decode cX1_addLoco 125 = .ok (.iinc 6 (-1), 3) := by decide +kernel
theorem dX1_addLoco_128 : decode cX1_addLoco 128 = .ok (.goto (-40), 3) := by decide +kernel
theorem dX1_addLoco_131 : decode cX1_addLoco 131 = .ok (.aload_n 0, 1) := by decide +kernel
theorem dX1_addLoco_132 : decode cX1_addLoco 132 = .ok (.getfield 11, 3) := by decide +kernel
theorem dX1_addLoco_135 : decode cX1_addLoco 135 = .ok (.iload 6, 2) := by decide +kernel
theorem dX1_addLoco_137 : decode cX1_addLoco 137 = .ok (.aload 5, 2) := by decide +kernel
theorem dX1_addLoco_139 : decode cX1_addLoco 139 = .ok (.aastore, 1) := by decide +kernel
theorem dX1_addLoco_140 : decode cX1_addLoco 140 = .ok (.aload 5, 2) := by decide +kernel
theorem dX1_addLoco_142 : decode cX1_addLoco 142 = .ok (.iload_n 1, 1) := by decide +kernel
theorem dX1_addLoco_143 : decode cX1_addLoco 143 = .ok (.iload_n 2, 1) := by decide +kernel
theorem dX1_addLoco_144 : decode cX1_addLoco 144 = .ok (.iload_n 3, 1) := by decide +kernel
theorem dX1_addLoco_145 : decode cX1_addLoco 145 = .ok (.iload 4, 2) := by decide +kernel
theorem dX1_addLoco_147 : decode cX1_addLoco 147 = .ok (.invokevirtual 79, 3) := by decide +kernel
theorem dX1_addLoco_150 : decode cX1_addLoco 150 = .ok (.aload_n 0, 1) := by decide +kernel
theorem dX1_addLoco_151 : decode cX1_addLoco 151 = .ok (.dup, 1) := by decide +kernel
theorem dX1_addLoco_152 : decode cX1_addLoco 152 = .ok (.getfield 29, 3) := by decide +kernel
theorem dX1_addLoco_155 : decode cX1_addLoco 155 = .ok (.iconst 1, 1) := by decide +kernel
theorem dX1_addLoco_156 : decode cX1_addLoco 156 = .ok (.iadd, 1) := by decide +kernel
theorem dX1_addLoco_157 : decode cX1_addLoco 157 = .ok (.putfield 29, 3) := by decide +kernel
theorem dX1_addLoco_160 : decode cX1_addLoco 160 = .ok (.aload_n 0, 1) := by decide +kernel
theorem dX1_addLoco_161 : decode cX1_addLoco 161 = .ok (.getfield 29, 3) := by decide +kernel
theorem dX1_addLoco_164 : decode cX1_addLoco 164 = .ok (.ireturn, 1) := by decide +kernel
theorem dX1_removeLoco_0 : decode cX1_removeLoco 0 = .ok (.aload_n 0, 1) := by decide +kernel
theorem dX1_removeLoco_1 : decode cX1_removeLoco 1 = .ok (.iload_n 1, 1) := by decide +kernel
theorem dX1_removeLoco_2 : decode cX1_removeLoco 2 = .ok (.invokevirtual 68, 3) := by decide +kernel
theorem dX1_removeLoco_5 : decode cX1_removeLoco 5 = .ok (.istore_n 2, 1) := by decide +kernel
theorem dX1_removeLoco_6 : decode cX1_removeLoco 6 = .ok (.iload_n 2, 1) := by decide +kernel
theorem dX1_removeLoco_7 : decode cX1_removeLoco 7 = .ok (.aload_n 0, 1) := by decide +kernel
theorem dX1_removeLoco_8 : decode cX1_removeLoco 8 = .ok (.getfield 29, 3) := by decide +kernel
theorem dX1_removeLoco_11 : decode cX1_removeLoco 11 = .ok (.if_icmp .lt 5, 3) := by decide +kernel
theorem dX1_removeLoco_14 : decode cX1_removeLoco 14 = .ok (.iconst (-1), 1) := by decide +kernel
theorem dX1_removeLoco_15 : decode cX1_removeLoco 15 = .ok (.ireturn, 1) := by decide +kernel
theorem dX1_removeLoco_16 : decode cX1_removeLoco 16 = .ok (.aload_n 0, 1) := by decide +kernel
theorem dX1_removeLoco_17 : decode cX1_removeLoco 17 = .ok (.getfield 11, 3) := by decide +kernel
theorem dX1_removeLoco_20 : decode cX1_removeLoco 20 = .ok (.iload_n 2, 1) := by decide +kernel
theorem dX1_removeLoco_21 : decode cX1_removeLoco 21 = .ok (.aaload, 1) := by decide +kernel
theorem dX1_removeLoco_22 : decode cX1_removeLoco 22 = .ok (.astore_n 3, 1) := by decide +kernel
theorem dX1_removeLoco_23 : decode cX1_removeLoco 23 = .ok (.iload_n 2, 1) := by decide +kernel
theorem dX1_removeLoco_24 : decode cX1_removeLoco 24 = .ok (.iconst 1, 1) := by decide +kernel
theorem dX1_removeLoco_25 : decode cX1_removeLoco 25 = .ok (.iadd, 1) := by decide +kernel
theorem dX1_removeLoco_26 : decode cX1_removeLoco 26 = .ok (.istore 4, 2) := by decide +kernel
theorem dX1_removeLoco_28 : decode cX1_removeLoco 28 = .ok (.iload 4, 2) := by decide +kernel
theorem dX1_removeLoco_30 : decode cX1_removeLoco 30 = .ok (.aload_n 0, 1) := by decide +kernel
theorem dX1_removeLoco_31 : decode cX1_removeLoco 31 = .ok (.getfield 29, 3) := by decide +kernel
theorem dX1_removeLoco_34 : decode cX1_removeLoco 34 = .ok (.if_icmp .ge 25, 3) := by decide +kernel
theorem dX1_removeLoco_37 : decode cX1_removeLoco 37 = .ok (.aload_n 0, 1) := by decide +kernel
theorem dX1_removeLoco_38 : decode cX1_removeLoco 38 = .ok (.getfield 11, 3) := by decide +kernel
theorem dX1_removeLoco_41 : decode cX1_removeLoco 41 = .ok (.iload 4, 2) := by decide +kernel
theorem dX1_removeLoco_43 : decode cX1_removeLoco 43 = .ok (.iconst 1, 1) := by decide +kernel
theorem dX1_removeLoco_44 : decode cX1_removeLoco 44 = .ok (.isub, 1) := by decide +kernel
theorem dX1_removeLoco_45 : decode cX1_removeLoco 45 = .ok (.aload_n 0, 1) := by decide +kernel
theorem dX1_removeLoco_46 : decode cX1_removeLoco 46 = .ok (.getfield 11, 3) := by decide +kernel
theorem dX1_removeLoco_49 : decode cX1_removeLoco 49 = .ok (.iload 4, 2) := by decide +kernel
theorem dX1_removeLoco_51 : decode cX1_removeLoco 51 = .ok (.aaload, 1) := by decide +kernel
theorem dX1_removeLoco_52 : decode cX1_removeLoco 52 = .ok (.aastore, 1) := by decide +kernel
theorem dX1_removeLoco_53 : decode cX1_removeLoco 53 = .ok (.iinc 4 1, 3) := by decide +kernel
theorem dX1_removeLoco_56 : decode cX1_removeLoco 56 = .ok (.goto (-28), 3) := by decide +kernel
theorem dX1_removeLoco_59 : decode cX1_removeLoco 59 = .ok (.aload_n 0, 1) := by decide +kernel
theorem dX1_removeLoco_60 : decode cX1_removeLoco 60 = .ok (.dup, 1) := by decide +kernel
theorem dX1_removeLoco_61 : decode cX1_removeLoco 61 = .ok (.getfield 29, 3) := by decide +kernel
theorem dX1_removeLoco_64 : decode cX1_removeLoco 64 = .ok (.iconst 1, 1) := by decide +kernel
theorem dX1_removeLoco_65 : decode cX1_removeLoco 65 = .ok (.isub, 1) := by decide +kernel
theorem dX1_removeLoco_66 : decode cX1_removeLoco 66 = .ok (.putfield 29, 3) := by decide +kernel
theorem dX1_removeLoco_69 : decode cX1_removeLoco 69 = .ok (.aload_n 0, 1) := by decide +kernel
theorem dX1_removeLoco_70 : decode cX1_removeLoco 70 = .ok (.getfield 11, 3) := by decide +kernel
theorem dX1_removeLoco_73 : decode cX1_removeLoco 73 = .ok (.aload_n 0, 1) := by decide +kernel
theorem dX1_removeLoco_74 : decode cX1_removeLoco 74 = .ok (.getfield 29, 3) := by decide +kernel
theorem dX1_removeLoco_77 : decode cX1_removeLoco 77 = .ok (.aload_n 3, 1) := by decide +kernel
theorem dX1_removeLoco_78 : decode cX1_removeLoco 78 = .ok (.aastore, 1) := by decide +kernel
theorem dX1_removeLoco_79 : decode cX1_removeLoco 79 = .ok (.aload_n 0, 1) := by decide +kernel
theorem dX1_removeLoco_80 : decode cX1_removeLoco 80 = .ok (.getfield 29, 3) := by decide +kernel
theorem dX1_removeLoco_83 : decode cX1_removeLoco 83 = .ok (.ireturn, 1) := by decide +kernel
theorem dX1_changeNoise_0 : decode cX1_changeNoise 0 = .ok (.iload_n 1, 1) := by decide +kernel
theorem dX1_changeNoise_1 : decode cX1_changeNoise 1 = .ok (.iconst 0, 1) := by decide +kernel
theorem dX1_changeNoise_2 : decode cX1_changeNoise 2 = .ok (.bipush 9, 2) := by decide +kernel
theorem dX1_changeNoise_4 : decode cX1_changeNoise 4 = .ok (.invokestatic 64, 3) := by decide +kernel
theorem dX1_changeNoise_7 : decode cX1_changeNoise 7 = .ok (.ifCond .ne 6, 3) := by decide +kernel
theorem dX1_changeNoise_10 : decode cX1_changeNoise 10 = .ok (.bipush (-2), 2) := by decide +kernel
theorem dX1_changeNoise_12 : decode cX1_changeNoise 12 = .ok (.ireturn, 1) := by decide +kernel
theorem dX1_changeNoise_13 : decode cX1_changeNoise 13 = .ok (.aload_n 0, 1) := by decide +kernel
theorem dX1_changeNoise_14 : decode cX1_changeNoise 14 = .ok (.getfield 49, 3) := by decide +kernel
theorem dX1_changeNoise_17 : decode cX1_changeNoise 17 = .ok (.istore_n 2, 1) := by decide +kernel
theorem dX1_changeNoise_18 : decode cX1_changeNoise 18 = .ok (.aload_n 0, 1) := by decide +kernel
theorem dX1_changeNoise_19 : decode cX1_changeNoise 19 = .ok (.iload_n 1, 1) := by decide +kernel
theorem dX1_changeNoise_20 : decode cX1_changeNoise 20 = .ok (.putfield 49, 3) := by decide +kernel
theorem dX1_changeNoise_23 : decode cX1_changeNoise 23 = .ok (.iload_n 2, 1) := by decide +kernel
theorem dX1_changeNoise_24 : decode cX1_changeNoise 24 = .ok (.ireturn, 1) := by decide +kernel
theorem dX1_changeShort_0 : decode cX1_changeShort 0 = .ok (.iload_n 1, 1) := by decide +kernel
theorem dX1_changeShort_1 : decode cX1_changeShort 1 = .ok (.invokestatic 83, 3) := by decide +kernel
theorem dX1_changeShort_4 : decode cX1_changeShort 4 = .ok (.ifCond .ne 5, 3) := by decide +kernel
theorem dX1_changeShort_7 : decode cX1_changeShort 7 = .ok (.iconst (-1), 1) := by decide +kernel
theorem dX1_changeShort_8 : decode cX1_changeShort 8 = .ok (.ireturn, 1) := by decide +kernel
theorem dX1_changeShort_9 : decode cX1_changeShort 9 = .ok (.iload_n 2, 1) := by decide +kernel
theorem dX1_changeShort_10 : decode cX1_changeShort 10 = .ok (.iconst 0, 1) := by decide +kernel
theorem dX1_changeShort_11 : decode cX1_changeShort 11 = .ok (.bipush 99, 2) := by decide +kernel
theorem dX1_changeShort_13 : decode cX1_changeShort 13 = .ok (.invokestatic 64, 3) := by decide +kernel
theorem dX1_changeShort_16 : decode cX1_changeShort 16 = .ok (.ifCond .ne 6, 3) := by decide +kernel
theorem dX1_changeShort_19 : decode cX1_changeShort 19 = .ok (.bipush (-2), 2) := by decide +kernel
theorem dX1_changeShort_21 : decode cX1_changeShort 21 = .ok (.ireturn, 1) := by decide +kernel
theorem dX1_changeShort_22 : decode cX1_changeShort 22 = .ok (.aload_n 0, 1) := by decide +kernel
theorem dX1_changeShort_23 : decode cX1_changeShort 23 = .ok (.getfield 24, 3) := by decide +kernel
theorem dX1_changeShort_26 : decode cX1_changeShort 26 = .ok (.iload_n 1, 1) := by decide +kernel
theorem dX1_changeShort_27 : decode cX1_changeShort 27 = .ok (.iaload, 1) := by decide +kernel
theorem dX1_changeShort_28 : decode cX1_changeShort 28 = .ok (.istore_n 3, 1) := by decide +kernel
theorem dX1_changeShort_29 : decode cX1_changeShort 29 = .ok (.aload_n 0, 1) := by decide +kernel
theorem dX1_changeShort_30 : decode cX1_changeShort 30 = .ok (.getfield 24, 3) := by decide +kernel
theorem dX1_changeShort_33 : decode cX1_changeShort 33 = .ok (.iload_n 1, 1) := by decide +kernel
theorem dX1_changeShort_34 : decode cX1_changeShort 34 = .ok (.iload_n 2, 1) := by decide +kernel
theorem dX1_changeShort_35 : decode cX1_changeShort 35 = .ok (.iastore, 1) := by decide +kernel
theorem dX1_changeShort_36 : decode cX1_changeShort 36 = .ok (.iload_n 3, 1) := by decide +kernel
theorem dX1_changeShort_37 : decode cX1_changeShort 37 = .ok (.ireturn, 1) := by decide +kernel
theorem dX1_takeFrame_0 : decode cX1_takeFrame 0 = .ok (.iload_n 1, 1) := by decide +kernel
theorem dX1_takeFrame_1 : decode cX1_takeFrame 1 = .ok (.iconst 0, 1) := by decide +kernel
theorem dX1_takeFrame_2 : decode cX1_takeFrame 2 = .ok (.sipush 255, 3) := by decide +kernel
theorem dX1_takeFrame_5 : decode cX1_takeFrame 5 = .ok (.invokestatic 64, 3) := by decide +kernel
theorem dX1_takeFrame_8 : decode cX1_takeFrame 8 = .ok (.ifCond .eq 25, 3) := by decide +kernel
theorem dX1_takeFrame_11 : decode cX1_takeFrame 11 = .ok (.iload_n 2, 1) := by decide +kernel
theorem dX1_takeFrame_12 : decode cX1_takeFrame 12 = .ok (.iconst 0, 1) := by decide +kernel
theorem dX1_takeFrame_13 : decode cX1_takeFrame 13 = .ok (.sipush 255, 3) := by decide +kernel
theorem dX1_takeFrame_16 : decode cX1_takeFrame 16 = .ok (.invokestatic 64, 3) := by decide +kernel
theorem dX1_takeFrame_19 : decode cX1_takeFrame 19 = .ok (.ifCond .eq 14, 3) := by decide +kernel
theorem dX1_takeFrame_22 : decode cX1_takeFrame 22 = .ok (.iload_n 3, 1) := by decide +kernel
theorem dX1_takeFrame_23 : decode cX1_takeFrame 23 = .ok (.iconst 0, 1) := by decide +kernel
theorem dX1_takeFrame_24 : decode cX1_takeFrame 24 = .ok (.sipush 255, 3) := by decide +kernel
theorem dX1_takeFrame_27 : decode cX1_takeFrame 27 = .ok (.invokestatic 64, 3) := by decide +kernel
theorem dX1_takeFrame_30 : decode cX1_takeFrame 30 = .ok (.ifCond .ne 6, 3) := by decide +kernel
theorem dX1_takeFrame_33 : decode cX1_takeFrame 33 = .ok (.bipush (-2), 2) := by decide +kernel
theorem dX1_takeFrame_35 : decode cX1_takeFrame 35 = .ok (.ireturn, 1) := by decide +kernel
theorem dX1_takeFrame_36 : decode cX1_takeFrame 36 = .ok (.aload_n 0, 1) := by decide +kernel
theorem dX1_takeFrame_37 : decode cX1_takeFrame 37 = .ok (.dup, 1) := by decide +kernel
theorem dX1_takeFrame_38 : decode cX1_takeFrame 38 = .ok (.getfield 55, 3) := by decide +kernel
theorem dX1_takeFrame_41 : decode cX1_takeFrame 41 = .ok (.iconst 1, 1) := by decide +kernel
theorem dX1_takeFrame_42 : decode cX1_takeFrame 42 = .ok (.iadd, 1) := by decide +kernel
theorem dX1_takeFrame_43 : decode cX1_takeFrame 43 = .ok (.putfield 55, 3) := by decide +kernel
theorem dX1_takeFrame_46 : decode cX1_takeFrame 46 = .ok (.iload_n 3, 1) := by decide +kernel
theorem dX1_takeFrame_47 : decode cX1_takeFrame 47 = .ok (.iload_n 1, 1) := by decide +kernel
theorem dX1_takeFrame_48 : decode cX1_takeFrame 48 = .ok (.iload_n 2, 1) := by decide +kernel
theorem dX1_takeFrame_49 : decode cX1_takeFrame 49 = .ok (.ixor, 1) := by decide +kernel
theorem dX1_takeFrame_50 : decode cX1_takeFrame 50 = .ok (.if_icmp .eq 15, 3) := by decide +kernel
theorem dX1_takeFrame_53 : decode cX1_takeFrame 53 = .ok (.aload_n 0, 1) := by decide +kernel
theorem dX1_takeFrame_54 : decode cX1_takeFrame 54 = .ok (.dup, 1) := by decide +kernel
theorem dX1_takeFrame_55 : decode cX1_takeFrame 55 = .ok (.getfield 58, 3) := by decide +kernel
theorem dX1_takeFrame_58 : decode cX1_takeFrame 58 = .ok (.iconst 1, 1) := by decide +kernel
theorem dX1_takeFrame_59 : decode cX1_takeFrame 59 = .ok (.iadd, 1) := by decide +kernel
theorem dX1_takeFrame_60 : decode cX1_takeFrame 60 = .ok (.putfield 58, 3) := by decide +kernel
theorem dX1_takeFrame_63 : decode cX1_takeFrame 63 = .ok (.iconst 0, 1) := by decide +kernel
theorem dX1_takeFrame_64 : decode cX1_takeFrame 64 = .ok (.ireturn, 1) := by decide +kernel
theorem dX1_takeFrame_65 : decode cX1_takeFrame 65 = .ok (.iconst 0, 1) := by decide +kernel
theorem dX1_takeFrame_66 : decode cX1_takeFrame 66 = .ok (.istore 4, 2) := by decide +kernel
theorem dX1_takeFrame_68 : decode cX1_takeFrame 68 = .ok (.iconst 0, 1) := by decide +kernel
theorem dX1_takeFrame_69 : decode cX1_takeFrame 69 = .ok (.istore 5, 2) := by decide +kernel
theorem dX1_takeFrame_71 : decode cX1_takeFrame 71 = .ok (.iload 5, 2) := by decide +kernel
theorem dX1_takeFrame_73 : decode cX1_takeFrame 73 = .ok (.aload_n 0, 1) := by decide +kernel
theorem dX1_takeFrame_74 : decode cX1_takeFrame 74 = .ok (.getfield 29, 3) := by decide +kernel
theorem dX1_takeFrame_77 : decode cX1_takeFrame 77 = .ok (.if_icmp .ge 52, 3) := by decide +kernel
theorem dX1_takeFrame_80 : decode cX1_takeFrame 80 = .ok (.aload_n 0, 1) := by decide +kernel
theorem dX1_takeFrame_81 : decode cX1_takeFrame 81 = .ok (.getfield 11, 3) := by decide +kernel
theorem dX1_takeFrame_84 : decode cX1_takeFrame 84 = .ok (.iload 5, 2) := by decide +kernel
theorem dX1_takeFrame_86 : decode cX1_takeFrame 86 = .ok (.aaload, 1) := by decide +kernel
theorem dX1_takeFrame_87 : decode cX1_takeFrame 87 = .ok (.astore 6, 2) := by decide +kernel
theorem dX1_takeFrame_89 : decode cX1_takeFrame 89 = .ok (.iload_n 1, 1) := by decide +kernel
theorem dX1_takeFrame_90 : decode cX1_takeFrame 90 = .ok (.ifCond .eq 12, 3) := by decide +kernel
theorem dX1_takeFrame_93 : decode cX1_takeFrame 93 = .ok (.iload_n 1, 1) := by decide +kernel
theorem dX1_takeFrame_94 : decode cX1_takeFrame 94 = .ok (.aload 6, 2) := by decide +kernel
theorem dX1_takeFrame_96 : decode cX1_takeFrame 96 = .ok (.getfield 76, 3) := by decide +kernel
theorem dX1_takeFrame_99 : decode cX1_takeFrame 99 = .ok (.if_icmp .ne 24, 3) := by decide +kernel
theorem dX1_takeFrame_102 : decode cX1_takeFrame 102 = .ok (.aload_n 0, 1) := by decide +kernel
theorem dX1_takeFrame_103 : decode cX1_takeFrame 103 = .ok (.aload 6, 2) := by decide +kernel
theorem dX1_takeFrame_105 : decode cX1_takeFrame 105 = .ok (.invokevirtual 87, 3) := by decide +kernel
theorem dX1_takeFrame_108 : decode cX1_takeFrame 108 = .ok (.invokevirtual 91, 3) := by decide +kernel
theorem dX1_takeFrame_111 : decode cX1_takeFrame 111 = .ok (.ifCond .ne 12, 3) := by decide +kernel
theorem dX1_takeFrame_114 : decode cX1_takeFrame 114 = .ok (.aload 6, 2) := by decide +kernel
theorem dX1_takeFrame_116 : decode cX1_takeFrame 116 = .ok (.iload_n 2, 1) := by decide +kernel
theorem dX1_takeFrame_117 : decode cX1_takeFrame 117 = .ok (.invokevirtual 94, 3) := by decide +kernel
theorem dX1_takeFrame_120 : decode cX1_takeFrame 120 = .ok (.iinc 4 1, 3) := by decide +kernel
theorem dX1_takeFrame_123 : decode cX1_takeFrame 123 = .ok (.iinc 5 1, 3) := by decide +kernel
theorem dX1_takeFrame_126 : decode cX1_takeFrame 126 = .ok (.goto (-55), 3) := by decide +kernel
theorem dX1_takeFrame_129 : decode cX1_takeFrame 129 = .ok (.iload 4, 2) := by decide +kernel
theorem dX1_takeFrame_131 : decode cX1_takeFrame 131 = .ok (.ireturn, 1) := by decide +kernel
theorem dX1_takeTicks_0 : decode cX1_takeTicks 0 = .ok (.iload_n 1, 1) := by decide +kernel
theorem dX1_takeTicks_1 : decode cX1_takeTicks 1 = .ok (.iconst 1, 1) := by decide +kernel
theorem dX1_takeTicks_2 : decode cX1_takeTicks 2 = .ok (.bipush 99, 2) := by decide +kernel
theorem dX1_takeTicks_4 : decode cX1_takeTicks 4 = .ok (.invokestatic 64, 3) := by decide +kernel
theorem dX1_takeTicks_7 : decode cX1_takeTicks 7 = .ok (.ifCond .ne 6, 3) := by decide +kernel
theorem dX1_takeTicks_10 : decode cX1_takeTicks 10 = .ok (.bipush (-2), 2) := by decide +kernel
theorem dX1_takeTicks_12 : decode cX1_takeTicks 12 = .ok (.ireturn, 1) := by decide +kernel
theorem dX1_takeTicks_13 : decode cX1_takeTicks 13 = .ok (.aload_n 0, 1) := by decide +kernel
theorem dX1_takeTicks_14 : decode cX1_takeTicks 14 = .ok (.getfield 46, 3) := by decide +kernel
theorem dX1_takeTicks_17 : decode cX1_takeTicks 17 = .ok (.iload_n 1, 1) := by decide +kernel
theorem dX1_takeTicks_18 : decode cX1_takeTicks 18 = .ok (.iadd, 1) := by decide +kernel
theorem dX1_takeTicks_19 : decode cX1_takeTicks 19 = .ok (.ldc 98, 2) := by decide +kernel
theorem dX1_takeTicks_21 : decode cX1_takeTicks 21 = .ok (.if_icmp .le 6, 3) := by decide +kernel
theorem dX1_takeTicks_24 : decode cX1_takeTicks 24 = .ok (.bipush (-5), 2) := by decide +kernel
theorem dX1_takeTicks_26 : decode cX1_takeTicks 26 = .ok (.ireturn, 1) := by decide +kernel
theorem dX1_takeTicks_27 : decode cX1_takeTicks 27 = .ok (.iconst 0, 1) := by decide +kernel
theorem dX1_takeTicks_28 : decode cX1_takeTicks 28 = .ok (.istore_n 2, 1) := by decide +kernel
theorem dX1_takeTicks_29 : decode cX1_takeTicks 29 = .ok (.iconst 0, 1) := by decide +kernel
theorem dX1_takeTicks_30 : decode cX1_takeTicks 30 = .ok (.istore_n 3, 1) := by decide +kernel
theorem dX1_takeTicks_31 : decode cX1_takeTicks 31 = .ok (.iload_n 3, 1) := by decide +kernel
theorem dX1_takeTicks_32 : decode cX1_takeTicks 32 = .ok (.iload_n 1, 1) := by decide +kernel
theorem dX1_takeTicks_33 : decode cX1_takeTicks 33 = .ok (.if_icmp .ge 16, 3) := by decide +kernel
theorem dX1_takeTicks_36 : decode cX1_takeTicks 36 = .ok (.iload_n 2, 1) := by decide +kernel
theorem dX1_takeTicks_37 : decode cX1_takeTicks 37 = .ok (.aload_n 0, 1) := by decide +kernel
theorem dX1_takeTicks_38 : decode cX1_takeTicks 38 = .ok (.invokevirtual 99, 3) := by decide +kernel
theorem dX1_takeTicks_41 : decode cX1_takeTicks 41 = .ok (.iadd, 1) := by decide +kernel
theorem dX1_takeTicks_42 : decode cX1_takeTicks 42 = .ok (.istore_n 2, 1) := by decide +kernel
theorem dX1_takeTicks_43 : decode cX1_takeTicks 43 = .ok (.iinc 3 1, 3) := by decide +kernel
theorem dX1_takeTicks_46 : decode cX1_takeTicks 46 = .ok (.goto (-15), 3) := by decide +kernel
theorem dX1_takeTicks_49 : decode cX1_takeTicks 49 = .ok (.iload_n 2, 1) := by decide +kernel
theorem dX1_takeTicks_50 : decode cX1_takeTicks 50 = .ok (.ireturn, 1) := by decide +kernel
theorem dX1_tick_0 : decode cX1_tick 0 = .ok (.aload_n 0, 1) := by decide +kernel
theorem dX1_tick_1 : decode cX1_tick 1 = .ok (.invokevirtual 102, 3) := by decide +kernel
theorem dX1_tick_4 : decode cX1_tick 4 = .ok (.istore_n 1, 1) := by decide +kernel
theorem dX1_tick_5 : decode cX1_tick 5 = .ok (.iconst 0, 1) := by decide +kernel
theorem dX1_tick_6 : decode cX1_tick 6 = .ok (.istore_n 2, 1) := by decide +kernel
theorem dX1_tick_7 : decode cX1_tick 7 = .ok (.iload_n 2, 1) := by decide +kernel
theorem dX1_tick_8 : decode cX1_tick 8 = .ok (.aload_n 0, 1) := by decide +kernel
theorem dX1_tick_9 : decode cX1_tick 9 = .ok (.getfield 29, 3) := by decide +kernel
theorem dX1_tick_12 : decode cX1_tick 12 = .ok (.if_icmp .ge 43, 3) := by decide +kernel
theorem dX1_tick_15 : decode cX1_tick 15 = .ok (.aload_n 0, 1) := by decide +kernel
theorem dX1_tick_16 : decode cX1_tick 16 = .ok (.getfield 11, 3) := by decide +kernel
theorem dX1_tick_19 : decode cX1_tick 19 = .ok (.iload_n 2, 1) := by decide +kernel
theorem dX1_tick_20 : decode cX1_tick 20 = .ok (.aaload, 1) := by decide +kernel
theorem dX1_tick_21 : decode cX1_tick 21 = .ok (.astore_n 3, 1) := by decide +kernel
theorem dX1_tick_22 : decode cX1_tick 22 = .ok (.aload_n 0, 1) := by decide +kernel
theorem dX1_tick_23 : decode cX1_tick 23 = .ok (.aload_n 3, 1) := by decide +kernel
theorem dX1_tick_24 : decode cX1_tick 24 = .ok (.invokevirtual 87, 3) := by decide +kernel
theorem dX1_tick_27 : decode cX1_tick 27 = .ok (.invokevirtual 91, 3) := by decide +kernel
theorem dX1_tick_30 : decode cX1_tick 30 = .ok (.ifCond .eq 11, 3) := by decide +kernel
theorem dX1_tick_33 : decode cX1_tick 33 = .ok (.aload_n 3, 1) := by decide +kernel
theorem dX1_tick_34 : decode cX1_tick 34 = .ok (.iconst 0, 1) := by decide +kernel
theorem dX1_tick_35 : decode cX1_tick 35 = .ok (.putfield 105, 3) := by decide +kernel
theorem dX1_tick_38 : decode cX1_tick 38 = .ok (.goto 7, 3) := by decide +kernel
theorem dX1_tick_41 : decode cX1_tick 41 = .ok (.aload_n 3, 1) := by decide +kernel
theorem dX1_tick_42 : decode cX1_tick 42 = .ok (.invokevirtual 108, 3) := by decide +kernel
theorem dX1_tick_45 : decode cX1_tick 45 = .ok (.aload_n 3, 1) := by decide +kernel
theorem dX1_tick_46 : decode cX1_tick 46 = .ok (.invokevirtual 111, 3) := by decide +kernel
theorem dX1_tick_49 : decode cX1_tick 49 = .ok (.iinc 2 1, 3) := by decide +kernel
theorem dX1_tick_52 : decode cX1_tick 52 = .ok (.goto (-45), 3) := by decide +kernel
theorem dX1_tick_55 : decode cX1_tick 55 = .ok (.iconst 0, 1) := by decide +kernel
theorem dX1_tick_56 : decode cX1_tick 56 = .ok (.istore_n 2, 1) := by decide +kernel
theorem dX1_tick_57 : decode cX1_tick 57 = .ok (.iload_n 2, 1) := by decide +kernel
theorem dX1_tick_58 : decode cX1_tick 58 = .ok (.bipush 8, 2) := by decide +kernel
theorem dX1_tick_60 : decode cX1_tick 60 = .ok (.if_icmp .ge 27, 3) := by decide +kernel
theorem dX1_tick_63 : decode cX1_tick 63 = .ok (.aload_n 0, 1) := by decide +kernel
theorem dX1_tick_64 : decode cX1_tick 64 = .ok (.getfield 24, 3) := by decide +kernel
theorem dX1_tick_67 : decode cX1_tick 67 = .ok (.iload_n 2, 1) := by decide +kernel
theorem dX1_tick_68 : decode cX1_tick 68 = .ok (.iconst 0, 1) := by decide +kernel
theorem dX1_tick_69 : decode cX1_tick 69 = .ok (.aload_n 0, 1) := by decide +kernel
theorem dX1_tick_70 : decode cX1_tick 70 = .ok (.getfield 24, 3) := by decide +kernel
theorem dX1_tick_73 : decode cX1_tick 73 = .ok (.iload_n 2, 1) := by decide +kernel
theorem dX1_tick_74 : decode cX1_tick 74 = .ok (.iaload, 1) := by decide +kernel
theorem dX1_tick_75 : decode cX1_tick 75 = .ok (.iconst 1, 1) := by decide +kernel
theorem dX1_tick_76 : decode cX1_tick 76 = .ok (.isub, 1) := by decide +kernel
theorem dX1_tick_77 : decode cX1_tick 77 = .ok (.invokestatic 114, 3) := by decide +kernel
theorem dX1_tick_80 : decode cX1_tick 80 = .ok (.iastore, 1) := by decide +kernel
theorem dX1_tick_81 : decode cX1_tick 81 = .ok (.iinc 2 1, 3) := by decide +kernel
theorem dX1_tick_84 : decode cX1_tick 84 = .ok (.goto (-27), 3) := by decide +kernel
theorem dX1_tick_87 : decode cX1_tick 87 = .ok (.aload_n 0, 1) := by decide +kernel
theorem dX1_tick_88 : decode cX1_tick 88 = .ok (.dup, 1) := by decide +kernel
theorem dX1_tick_89 : decode cX1_tick 89 = .ok (.getfield 46, 3) := by decide +kernel
theorem dX1_tick_92 : decode cX1_tick 92 = .ok (.iconst 1, 1) := by decide +kernel
theorem dX1_tick_93 : decode cX1_tick 93 = .ok (.iadd, 1) := by decide +kernel
theorem dX1_tick_94 : decode cX1_tick 94 = .ok (.putfield 46, 3) := by decide +kernel
theorem dX1_tick_97 : decode cX1_tick 97 = .ok (.iload_n 1, 1) := by decide +kernel
theorem dX1_tick_98 : decode cX1_tick 98 = .ok (.ireturn, 1) := by decide +kernel
theorem dX1_sendFirst_0 : decode cX1_sendFirst 0 = .ok (.aload_n 0, 1) := by decide +kernel
theorem dX1_sendFirst_1 : decode cX1_sendFirst 1 = .ok (.getfield 20, 3) := by decide +kernel
theorem dX1_sendFirst_4 : decode cX1_sendFirst 4 = .ok (.getfield 120, 3) := by decide +kernel
theorem dX1_sendFirst_7 : decode cX1_sendFirst 7 = .ok (.iconst 1, 1) := by decide +kernel
theorem dX1_sendFirst_8 : decode cX1_sendFirst 8 = .ok (.if_icmp .ge 5, 3) := by decide +kernel
theorem dX1_sendFirst_11 : decode cX1_sendFirst 11 = .ok (.iconst 0, 1) := by decide +kernel
theorem dX1_sendFirst_12 : decode cX1_sendFirst 12 = .ok (.ireturn, 1) := by decide +kernel
theorem dX1_sendFirst_13 : decode cX1_sendFirst 13 = .ok (.aload_n 0, 1) := by decide +kernel
theorem dX1_sendFirst_14 : decode cX1_sendFirst 14 = .ok (.getfield 20, 3) := by decide +kernel
theorem dX1_sendFirst_17 : decode cX1_sendFirst 17 = .ok (.getfield 123, 3) := by decide +kernel
theorem dX1_sendFirst_20 : decode cX1_sendFirst 20 = .ok (.iconst 0, 1) := by decide +kernel
theorem dX1_sendFirst_21 : decode cX1_sendFirst 21 = .ok (.iaload, 1) := by decide +kernel
theorem dX1_sendFirst_22 : decode cX1_sendFirst 22 = .ok (.istore_n 1, 1) := by decide +kernel
theorem dX1_sendFirst_23 : decode cX1_sendFirst 23 = .ok (.aload_n 0, 1) := by decide +kernel
theorem dX1_sendFirst_24 : decode cX1_sendFirst 24 = .ok (.getfield 20, 3) := by decide +kernel
theorem dX1_sendFirst_27 : decode cX1_sendFirst 27 = .ok (.getfield 126, 3) := by decide +kernel
theorem dX1_sendFirst_30 : decode cX1_sendFirst 30 = .ok (.iconst 0, 1) := by decide +kernel
theorem dX1_sendFirst_31 : decode cX1_sendFirst 31 = .ok (.iaload, 1) := by decide +kernel
theorem dX1_sendFirst_32 : decode cX1_sendFirst 32 = .ok (.istore_n 2, 1) := by decide +kernel
theorem dX1_sendFirst_33 : decode cX1_sendFirst 33 = .ok (.iload_n 1, 1) := by decide +kernel
theorem dX1_sendFirst_34 : decode cX1_sendFirst 34 = .ok (.iload_n 2, 1) := by decide +kernel
theorem dX1_sendFirst_35 : decode cX1_sendFirst 35 = .ok (.ixor, 1) := by decide +kernel
theorem dX1_sendFirst_36 : decode cX1_sendFirst 36 = .ok (.istore_n 3, 1) := by decide +kernel
theorem dX1_sendFirst_37 : decode cX1_sendFirst 37 = .ok (.aload_n 0, 1) := by decide +kernel
theorem dX1_sendFirst_38 : decode cX1_sendFirst 38 = .ok (.getfield 20, 3) := by decide +kernel
theorem dX1_sendFirst_41 : decode cX1_sendFirst 41 = .ok (.invokevirtual 129, 3) := by decide +kernel
theorem dX1_sendFirst_44 : decode cX1_sendFirst 44 = .ok (.aload_n 0, 1) := by decide +kernel
theorem dX1_sendFirst_45 : decode cX1_sendFirst 45 = .ok (.getfield 49, 3) := by decide +kernel
theorem dX1_sendFirst_48 : decode cX1_sendFirst 48 = .ok (.ifCond .le 45, 3) := by decide +kernel
theorem dX1_sendFirst_51 : decode cX1_sendFirst 51 = .ok (.aload_n 0, 1) := by decide +kernel
theorem dX1_sendFirst_52 : decode cX1_sendFirst 52 = .ok (.getfield 46, 3) := by decide +kernel
theorem dX1_sendFirst_55 : decode cX1_sendFirst 55 = .ok (.aload_n 0, 1) := by decide +kernel
theorem dX1_sendFirst_56 : decode cX1_sendFirst 56 = .ok (.getfield 52, 3) := by decide +kernel
theorem dX1_sendFirst_59 : decode cX1_sendFirst 59 = .ok (.isub, 1) := by decide +kernel
theorem dX1_sendFirst_60 : decode cX1_sendFirst 60 = .ok (.aload_n 0, 1) := by decide +kernel
theorem dX1_sendFirst_61 : decode cX1_sendFirst 61 = .ok (.getfield 49, 3) := by decide +kernel
theorem dX1_sendFirst_64 : decode cX1_sendFirst 64 = .ok (.if_icmp .lt 29, 3) := by decide +kernel
theorem dX1_sendFirst_67 : decode cX1_sendFirst 67 = .ok (.iload_n 3, 1) := by decide +kernel
theorem dX1_sendFirst_68 : decode cX1_sendFirst 68 = .ok (.iconst 1, 1) := by decide +kernel
theorem dX1_sendFirst_69 : decode cX1_sendFirst 69 = .ok (.iadd, 1) := by decide +kernel
theorem dX1_sendFirst_70 : decode cX1_sendFirst 70 = .ok (.sipush 256, 3) := by decide +kernel
theorem dX1_sendFirst_73 : decode cX1_sendFirst 73 = .ok (.irem, 1) := by decide +kernel
theorem dX1_sendFirst_74 : decode cX1_sendFirst 74 = .ok (.istore_n 3, 1) := by decide +kernel
theorem dX1_sendFirst_75 : decode cX1_sendFirst 75 = .ok (.aload_n 0, 1) := by decide +kernel
theorem dX1_sendFirst_76 : decode cX1_sendFirst 76 = .ok (.aload_n 0, 1) := by decide +kernel
theorem dX1_sendFirst_77 : decode cX1_sendFirst 77 = .ok (.getfield 46, 3) := by decide +kernel
theorem dX1_sendFirst_80 : decode cX1_sendFirst 80 = .ok (.putfield 52, 3) := by decide +kernel
theorem dX1_sendFirst_83 : decode cX1_sendFirst 83 = .ok (.aload_n 0, 1) := by decide +kernel
theorem dX1_sendFirst_84 : decode cX1_sendFirst 84 = .ok (.dup, 1) := by decide +kernel
theorem dX1_sendFirst_85 : decode cX1_sendFirst 85 = .ok (.getfield 61, 3) := by decide +kernel
theorem dX1_sendFirst_88 : decode cX1_sendFirst 88 = .ok (.iconst 1, 1) := by decide +kernel
theorem dX1_sendFirst_89 : decode cX1_sendFirst 89 = .ok (.iadd, 1) := by decide +kernel
theorem dX1_sendFirst_90 : decode cX1_sendFirst 90 = .ok (.putfield 61, 3) := by decide +kernel
theorem dX1_sendFirst_93 : decode cX1_sendFirst 93 = .ok (.aload_n 0, 1) := by decide +kernel
theorem dX1_sendFirst_94 : decode cX1_sendFirst 94 = .ok (.iload_n 1, 1) := by decide +kernel
theorem dX1_sendFirst_95 : decode cX1_sendFirst 95 = .ok (.iload_n 2, 1) := by decide +kernel
theorem dX1_sendFirst_96 : decode cX1_sendFirst 96 = .ok (.iload_n 3, 1) := by decide +kernel
theorem dX1_sendFirst_97 : decode cX1_sendFirst 97 = .ok (.invokevirtual 132, 3) := by decide +kernel
theorem dX1_sendFirst_100 : decode cX1_sendFirst 100 = .ok (.pop, 1) := by decide +kernel
theorem dX1_sendFirst_101 : decode cX1_sendFirst 101 = .ok (.iconst 1, 1) := by decide +kernel
theorem dX1_sendFirst_102 : decode cX1_sendFirst 102 = .ok (.ireturn, 1) := by decide +kernel
theorem dX1_isShorted_0 : decode cX1_isShorted 0 = .ok (.iload_n 1, 1) := by decide +kernel
theorem dX1_isShorted_1 : decode cX1_isShorted 1 = .ok (.ifCond .lt 22, 3) := by decide +kernel
theorem dX1_isShorted_4 : decode cX1_isShorted 4 = .ok (.iload_n 1, 1) := by decide +kernel
theorem dX1_isShorted_5 : decode cX1_isShorted 5 = .ok (.bipush 8, 2) := by decide +kernel
theorem dX1_isShorted_7 : decode cX1_isShorted 7 = .ok (.if_icmp .ge 16, 3) := by decide +kernel
theorem dX1_isShorted_10 : decode cX1_isShorted 10 = .ok (.aload_n 0, 1) := by decide +kernel
theorem dX1_isShorted_11 : decode cX1_isShorted 11 = .ok (.getfield 24, 3) := by decide +kernel
theorem dX1_isShorted_14 : decode cX1_isShorted 14 = .ok (.iload_n 1, 1) := by decide +kernel
theorem dX1_isShorted_15 : decode cX1_isShorted 15 = .ok (.iaload, 1) := by decide +kernel
theorem dX1_isShorted_16 : decode cX1_isShorted 16 = .ok (.ifCond .le 7, 3) := by decide +kernel
theorem dX1_isShorted_19 : decode cX1_isShorted 19 = .ok (.iconst 1, 1) := by decide +kernel
theorem dX1_isShorted_20 : decode cX1_isShorted 20 = .ok (.goto 4, 3) := by decide +kernel
theorem dX1_isShorted_23 : decode cX1_isShorted 23 = .ok (.iconst 0, 1) := by decide +kernel
theorem dX1_isShorted_24 : decode cX1_isShorted 24 = .ok (.ireturn, 1) := by decide +kernel
theorem dX1_locosIn_0 : decode cX1_locosIn 0 = .ok (.iconst 0, 1) := by decide +kernel
theorem dX1_locosIn_1 : decode cX1_locosIn 1 = .ok (.istore_n 2, 1) := by decide +kernel
theorem dX1_locosIn_2 : decode cX1_locosIn 2 = .ok (.iconst 0, 1) := by decide +kernel
theorem dX1_locosIn_3 : decode cX1_locosIn 3 = .ok (.istore_n 3, 1) := by decide +kernel
theorem dX1_locosIn_4 : decode cX1_locosIn 4 = .ok (.iload_n 3, 1) := by decide +kernel
theorem dX1_locosIn_5 : decode cX1_locosIn 5 = .ok (.aload_n 0, 1) := by decide +kernel
theorem dX1_locosIn_6 : decode cX1_locosIn 6 = .ok (.getfield 29, 3) := by decide +kernel
theorem dX1_locosIn_9 : decode cX1_locosIn 9 = .ok (.if_icmp .ge 25, 3) := by decide +kernel
theorem dX1_locosIn_12 : decode cX1_locosIn 12 = .ok (.aload_n 0, 1) := by decide +kernel
theorem dX1_locosIn_13 : decode cX1_locosIn 13 = .ok (.getfield 11, 3) := by decide +kernel
theorem dX1_locosIn_16 : decode cX1_locosIn 16 = .ok (.iload_n 3, 1) := by decide +kernel
theorem dX1_locosIn_17 : decode cX1_locosIn 17 = .ok (.aaload, 1) := by decide +kernel
theorem dX1_locosIn_18 : decode cX1_locosIn 18 = .ok (.invokevirtual 87, 3) := by decide +kernel
theorem dX1_locosIn_21 : decode cX1_locosIn 21 = .ok (.iload_n 1, 1) := by decide +kernel
theorem dX1_locosIn_22 : decode cX1_locosIn 22 = .ok (.if_icmp .ne 6, 3) := by decide +kernel
theorem dX1_locosIn_25 : decode cX1_locosIn 25 = .ok (.iinc 2 1, 3) := by decide +kernel
theorem dX1_locosIn_28 : decode cX1_locosIn 28 = .ok (.iinc 3 1, 3) := by decide +kernel
theorem dX1_locosIn_31 : decode cX1_locosIn 31 = .ok (.goto (-27), 3) := by decide +kernel
theorem dX1_locosIn_34 : decode cX1_locosIn 34 = .ok (.iload_n 2, 1) := by decide +kernel
theorem dX1_locosIn_35 : decode cX1_locosIn 35 = .ok (.ireturn, 1) := by decide +kernel
theorem dX1_blocksWithShort_0 : decode cX1_blocksWithShort 0 = .ok (.iconst 0, 1) := by decide +kernel
theorem dX1_blocksWithShort_1 : decode cX1_blocksWithShort 1 = .ok (.istore_n 1, 1) := by decide +kernel
theorem dX1_blocksWithShort_2 : decode cX1_blocksWithShort 2 = .ok (.iconst 0, 1) := by decide +kernel
theorem dX1_blocksWithShort_3 : decode cX1_blocksWithShort 3 = .ok (.istore_n 2, 1) := by decide +kernel
theorem dX1_blocksWithShort_4 : decode cX1_blocksWithShort 4 = .ok (.iload_n 2, 1) := by decide +kernel
theorem dX1_blocksWithShort_5 : decode cX1_blocksWithShort 5 = .ok (.bipush 8, 2) := by decide +kernel
theorem dX1_blocksWithShort_7 : decode cX1_blocksWithShort 7 = .ok (.if_icmp .ge 21, 3) := by decide +kernel
theorem dX1_blocksWithShort_10 : decode cX1_blocksWithShort 10 = .ok (.aload_n 0, 1) := by decide +kernel
theorem dX1_blocksWithShort_11 : decode cX1_blocksWithShort 11 = .ok (.getfield 24, 3) := by decide +kernel
theorem dX1_blocksWithShort_14 : decode cX1_blocksWithShort 14 = .ok (.iload_n 2, 1) := by decide +kernel
theorem dX1_blocksWithShort_15 : decode cX1_blocksWithShort 15 = .ok (.iaload, 1) := by decide +kernel
theorem dX1_blocksWithShort_16 : decode cX1_blocksWithShort 16 = .ok (.ifCond .le 6, 3) := by decide +kernel
theorem dX1_blocksWithShort_19 : decode cX1_blocksWithShort 19 = .ok (.iinc 1 1, 3) := by decide +kernel
theorem dX1_blocksWithShort_22 : decode cX1_blocksWithShort 22 = .ok (.iinc 2 1, 3) := by decide +kernel
theorem dX1_blocksWithShort_25 : decode cX1_blocksWithShort 25 = .ok (.goto (-21), 3) := by decide +kernel
theorem dX1_blocksWithShort_28 : decode cX1_blocksWithShort 28 = .ok (.iload_n 1, 1) := by decide +kernel
theorem dX1_blocksWithShort_29 : decode cX1_blocksWithShort 29 = .ok (.ireturn, 1) := by decide +kernel
theorem dX1_crowdedBlocks_0 : decode cX1_crowdedBlocks 0 = .ok (.iconst 0, 1) := by decide +kernel
theorem dX1_crowdedBlocks_1 : decode cX1_crowdedBlocks 1 = .ok (.istore_n 1, 1) := by decide +kernel
theorem dX1_crowdedBlocks_2 : decode cX1_crowdedBlocks 2 = .ok (.iconst 0, 1) := by decide +kernel
theorem dX1_crowdedBlocks_3 : decode cX1_crowdedBlocks 3 = .ok (.istore_n 2, 1) := by decide +kernel
theorem dX1_crowdedBlocks_4 : decode cX1_crowdedBlocks 4 = .ok (.iload_n 2, 1) := by decide +kernel
theorem dX1_crowdedBlocks_5 : decode cX1_crowdedBlocks 5 = .ok (.bipush 8, 2) := by decide +kernel
theorem dX1_crowdedBlocks_7 : decode cX1_crowdedBlocks 7 = .ok (.if_icmp .ge 21, 3) := by decide +kernel
theorem dX1_crowdedBlocks_10 : decode cX1_crowdedBlocks 10 = .ok (.aload_n 0, 1) := by decide +kernel
theorem dX1_crowdedBlocks_11 : decode cX1_crowdedBlocks 11 = .ok (.iload_n 2, 1) := by decide +kernel
theorem dX1_crowdedBlocks_12 : decode cX1_crowdedBlocks 12 = .ok (.invokevirtual 136, 3) := by decide +kernel
theorem dX1_crowdedBlocks_15 : decode cX1_crowdedBlocks 15 = .ok (.iconst 1, 1) := by decide +kernel
theorem dX1_crowdedBlocks_16 : decode cX1_crowdedBlocks 16 = .ok (.if_icmp .le 6, 3) := by decide +kernel
theorem dX1_crowdedBlocks_19 : decode cX1_crowdedBlocks 19 = .ok (.iinc 1 1, 3) := by decide +kernel
theorem dX1_crowdedBlocks_22 : decode cX1_crowdedBlocks 22 = .ok (.iinc 2 1, 3) := by decide +kernel
theorem dX1_crowdedBlocks_25 : decode cX1_crowdedBlocks 25 = .ok (.goto (-21), 3) := by decide +kernel
theorem dX1_crowdedBlocks_28 : decode cX1_crowdedBlocks 28 = .ok (.iload_n 1, 1) := by decide +kernel
theorem dX1_crowdedBlocks_29 : decode cX1_crowdedBlocks 29 = .ok (.ireturn, 1) := by decide +kernel
theorem dX1_speedSum_0 : decode cX1_speedSum 0 = .ok (.iconst 0, 1) := by decide +kernel
theorem dX1_speedSum_1 : decode cX1_speedSum 1 = .ok (.istore_n 1, 1) := by decide +kernel
theorem dX1_speedSum_2 : decode cX1_speedSum 2 = .ok (.iconst 0, 1) := by decide +kernel
theorem dX1_speedSum_3 : decode cX1_speedSum 3 = .ok (.istore_n 2, 1) := by decide +kernel
theorem dX1_speedSum_4 : decode cX1_speedSum 4 = .ok (.iload_n 2, 1) := by decide +kernel
theorem dX1_speedSum_5 : decode cX1_speedSum 5 = .ok (.aload_n 0, 1) := by decide +kernel
theorem dX1_speedSum_6 : decode cX1_speedSum 6 = .ok (.getfield 29, 3) := by decide +kernel
theorem dX1_speedSum_9 : decode cX1_speedSum 9 = .ok (.if_icmp .ge 21, 3) := by decide +kernel
theorem dX1_speedSum_12 : decode cX1_speedSum 12 = .ok (.iload_n 1, 1) := by decide +kernel
theorem dX1_speedSum_13 : decode cX1_speedSum 13 = .ok (.aload_n 0, 1) := by decide +kernel
theorem dX1_speedSum_14 : decode cX1_speedSum 14 = .ok (.getfield 11, 3) := by decide +kernel
theorem dX1_speedSum_17 : decode cX1_speedSum 17 = .ok (.iload_n 2, 1) := by decide +kernel
theorem dX1_speedSum_18 : decode cX1_speedSum 18 = .ok (.aaload, 1) := by decide +kernel
theorem dX1_speedSum_19 : decode cX1_speedSum 19 = .ok (.getfield 105, 3) := by decide +kernel
theorem dX1_speedSum_22 : decode cX1_speedSum 22 = .ok (.iadd, 1) := by decide +kernel
theorem dX1_speedSum_23 : decode cX1_speedSum 23 = .ok (.istore_n 1, 1) := by decide +kernel
theorem dX1_speedSum_24 : decode cX1_speedSum 24 = .ok (.iinc 2 1, 3) := by decide +kernel
theorem dX1_speedSum_27 : decode cX1_speedSum 27 = .ok (.goto (-23), 3) := by decide +kernel
theorem dX1_speedSum_30 : decode cX1_speedSum 30 = .ok (.iload_n 1, 1) := by decide +kernel
theorem dX1_speedSum_31 : decode cX1_speedSum 31 = .ok (.ireturn, 1) := by decide +kernel
theorem dX2_init_0 : decode cX2_init 0 = .ok (.aload_n 0, 1) := by decide +kernel
theorem dX2_init_1 : decode cX2_init 1 = .ok (.invokespecial 3, 3) := by decide +kernel
theorem dX2_init_4 : decode cX2_init 4 = .ok (.return_, 1) := by decide +kernel
theorem dX2_begin_0 : decode cX2_begin 0 = .ok (.aload_n 0, 1) := by decide +kernel
theorem dX2_begin_1 : decode cX2_begin 1 = .ok (.iload_n 1, 1) := by decide +kernel
theorem dX2_begin_2 : decode cX2_begin 2 = .ok (.putfield 9, 3) := by decide +kernel
theorem dX2_begin_5 : decode cX2_begin 5 = .ok (.aload_n 0, 1) := by decide +kernel
theorem dX2_begin_6 : decode cX2_begin 6 = .ok (.iload_n 2, 1) := by decide +kernel
theorem dX2_begin_7 : decode cX2_begin 7 = .ok (.putfield 15, 3) := by decide +kernel
theorem dX2_begin_10 : decode cX2_begin 10 = .ok (.aload_n 0, 1) := by decide +kernel
theorem dX2_begin_11 : decode cX2_begin 11 = .ok (.iload_n 3, 1) := by decide +kernel
theorem dX2_begin_12 : decode cX2_begin 12 = .ok (.putfield 18, 3) := by decide +kernel
theorem dX2_begin_15 : decode cX2_begin 15 = .ok (.aload_n 0, 1) := by decide +kernel
theorem dX2_begin_16 : decode cX2_begin 16 = .ok (.iload 4, 2) := by decide +kernel
theorem dX2_begin_18 : decode cX2_begin 18 = .ok (.putfield 21, 3) := by decide +kernel
theorem dX2_begin_21 : decode cX2_begin 21 = .ok (.aload_n 0, 1) := by decide +kernel
theorem dX2_begin_22 : decode cX2_begin 22 = .ok (.iconst 0, 1) := by decide +kernel
theorem dX2_begin_23 : decode cX2_begin 23 = .ok (.putfield 24, 3) := by decide +kernel
theorem dX2_begin_26 : decode cX2_begin 26 = .ok (.aload_n 0, 1) := by decide +kernel
theorem dX2_begin_27 : decode cX2_begin 27 = .ok (.iconst 0, 1) := by decide +kernel
theorem dX2_begin_28 : decode cX2_begin 28 = .ok (.putfield 27, 3) := by decide +kernel
theorem dX2_begin_31 : decode cX2_begin 31 = .ok (.aload_n 0, 1) := by decide +kernel
theorem dX2_begin_32 : decode cX2_begin 32 = .ok (.iconst 0, 1) := by decide +kernel
theorem dX2_begin_33 : decode cX2_begin 33 = .ok (.putfield 30, 3) := by decide +kernel
theorem dX2_begin_36 : decode cX2_begin 36 = .ok (.aload_n 0, 1) := by decide +kernel
theorem dX2_begin_37 : decode cX2_begin 37 = .ok (.iconst 0, 1) := by decide +kernel
theorem dX2_begin_38 : decode cX2_begin 38 = .ok (.putfield 33, 3) := by decide +kernel
theorem dX2_begin_41 : decode cX2_begin 41 = .ok (.aload_n 0, 1) := by decide +kernel
theorem dX2_begin_42 : decode cX2_begin 42 = .ok (.iconst 1, 1) := by decide +kernel
theorem dX2_begin_43 : decode cX2_begin 43 = .ok (.putfield 36, 3) := by decide +kernel
theorem dX2_begin_46 : decode cX2_begin 46 = .ok (.aload_n 0, 1) := by decide +kernel
theorem dX2_begin_47 : decode cX2_begin 47 = .ok (.iconst 0, 1) := by decide +kernel
theorem dX2_begin_48 : decode cX2_begin 48 = .ok (.putfield 39, 3) := by decide +kernel
theorem dX2_begin_51 : decode cX2_begin 51 = .ok (.aload_n 0, 1) := by decide +kernel
theorem dX2_begin_52 : decode cX2_begin 52 = .ok (.iconst 0, 1) := by decide +kernel
theorem dX2_begin_53 : decode cX2_begin 53 = .ok (.putfield 42, 3) := by decide +kernel
theorem dX2_begin_56 : decode cX2_begin 56 = .ok (.return_, 1) := by decide +kernel
theorem dX2_copyFrom_0 : decode cX2_copyFrom 0 = .ok (.aload_n 0, 1) := by decide +kernel
theorem dX2_copyFrom_1 : decode cX2_copyFrom 1 = .ok (.aload_n 1, 1) := by decide +kernel
theorem dX2_copyFrom_2 : decode cX2_copyFrom 2 = .ok (.getfield 9, 3) := by decide +kernel
theorem dX2_copyFrom_5 : decode cX2_copyFrom 5 = .ok (.putfield 9, 3) := by decide +kernel
theorem dX2_copyFrom_8 : decode cX2_copyFrom 8 = .ok (.aload_n 0, 1) := by decide +kernel
theorem dX2_copyFrom_9 : decode cX2_copyFrom 9 = .ok (.aload_n 1, 1) := by decide +kernel
theorem dX2_copyFrom_10 : decode cX2_copyFrom 10 = .ok (.getfield 15, 3) := by decide +kernel
theorem dX2_copyFrom_13 : decode cX2_copyFrom 13 = .ok (.putfield 15, 3) := by decide +kernel
theorem dX2_copyFrom_16 : decode cX2_copyFrom 16 = .ok (.aload_n 0, 1) := by decide +kernel
theorem dX2_copyFrom_17 : decode cX2_copyFrom 17 = .ok (.aload_n 1, 1) := by decide +kernel
theorem dX2_copyFrom_18 : decode cX2_copyFrom 18 = .ok (.getfield 18, 3) := by decide +kernel
theorem dX2_copyFrom_21 : decode cX2_copyFrom 21 = .ok (.putfield 18, 3) := by decide +kernel
theorem dX2_copyFrom_24 : decode cX2_copyFrom 24 = .ok (.aload_n 0, 1) := by decide +kernel
theorem dX2_copyFrom_25 : decode cX2_copyFrom 25 = .ok (.aload_n 1, 1) := by decide +kernel
theorem dX2_copyFrom_26 : decode cX2_copyFrom 26 = .ok (.getfield 21, 3) := by decide +kernel
theorem dX2_copyFrom_29 : decode cX2_copyFrom 29 = .ok (.putfield 21, 3) := by decide +kernel
theorem dX2_copyFrom_32 : decode cX2_copyFrom 32 = .ok (.aload_n 0, 1) := by decide +kernel
theorem dX2_copyFrom_33 : decode cX2_copyFrom 33 = .ok (.aload_n 1, 1) := by decide +kernel
theorem dX2_copyFrom_34 : decode cX2_copyFrom 34 = .ok (.getfield 24, 3) := by decide +kernel
theorem dX2_copyFrom_37 : decode cX2_copyFrom 37 = .ok (.putfield 24, 3) := by decide +kernel
theorem dX2_copyFrom_40 : decode cX2_copyFrom 40 = .ok (.aload_n 0, 1) := by decide +kernel
theorem dX2_copyFrom_41 : decode cX2_copyFrom 41 = .ok (.aload_n 1, 1) := by decide +kernel
theorem dX2_copyFrom_42 : decode cX2_copyFrom 42 = .ok (.getfield 27, 3) := by decide +kernel
theorem dX2_copyFrom_45 : decode cX2_copyFrom 45 = .ok (.putfield 27, 3) := by decide +kernel
theorem dX2_copyFrom_48 : decode cX2_copyFrom 48 = .ok (.aload_n 0, 1) := by decide +kernel
theorem dX2_copyFrom_49 : decode cX2_copyFrom 49 = .ok (.aload_n 1, 1) := by decide +kernel
theorem dX2_copyFrom_50 : decode cX2_copyFrom 50 = .ok (.getfield 30, 3) := by decide +kernel
theorem dX2_copyFrom_53 : decode cX2_copyFrom 53 = .ok (.putfield 30, 3) := by decide +kernel
theorem dX2_copyFrom_56 : decode cX2_copyFrom 56 = .ok (.aload_n 0, 1) := by decide +kernel
theorem dX2_copyFrom_57 : decode cX2_copyFrom 57 = .ok (.aload_n 1, 1) := by decide +kernel
theorem dX2_copyFrom_58 : decode cX2_copyFrom 58 = .ok (.getfield 33, 3) := by decide +kernel
theorem dX2_copyFrom_61 : decode cX2_copyFrom 61 = .ok (.putfield 33, 3) := by decide +kernel
theorem dX2_copyFrom_64 : decode cX2_copyFrom 64 = .ok (.aload_n 0, 1) := by decide +kernel
theorem dX2_copyFrom_65 : decode cX2_copyFrom 65 = .ok (.aload_n 1, 1) := by decide +kernel
theorem dX2_copyFrom_66 : decode cX2_copyFrom 66 = .ok (.getfield 36, 3) := by decide +kernel
theorem dX2_copyFrom_69 : decode cX2_copyFrom 69 = .ok (.putfield 36, 3) := by decide +kernel
theorem dX2_copyFrom_72 : decode cX2_copyFrom 72 = .ok (.aload_n 0, 1) := by decide +kernel
theorem dX2_copyFrom_73 : decode cX2_copyFrom 73 = .ok (.aload_n 1, 1) := by decide +kernel
theorem dX2_copyFrom_74 : decode cX2_copyFrom 74 = .ok (.getfield 39, 3) := by decide +kernel
theorem dX2_copyFrom_77 : decode cX2_copyFrom 77 = .ok (.putfield 39, 3) := by decide +kernel
theorem dX2_copyFrom_80 : decode cX2_copyFrom 80 = .ok (.aload_n 0, 1) := by decide +kernel
theorem dX2_copyFrom_81 : decode cX2_copyFrom 81 = .ok (.aload_n 1, 1) := by decide +kernel
theorem dX2_copyFrom_82 : decode cX2_copyFrom 82 = .ok (.getfield 42, 3) := by decide +kernel
theorem dX2_copyFrom_85 : decode cX2_copyFrom 85 = .ok (.putfield 42, 3) := by decide +kernel
theorem dX2_copyFrom_88 : decode cX2_copyFrom 88 = .ok (.return_, 1) := by decide +kernel
theorem dX2_blockNumber_0 : decode cX2_blockNumber 0 = .ok (.aload_n 0, 1) := by decide +kernel
theorem dX2_blockNumber_1 : decode cX2_blockNumber 1 = .ok (.getfield 21, 3) := by decide +kernel
theorem dX2_blockNumber_4 : decode cX2_blockNumber 4 = .ok (.bipush 100, 2) := by decide +kernel
theorem dX2_blockNumber_6 : decode cX2_blockNumber 6 = .ok (.idiv, 1) := by decide +kernel
theorem dX2_blockNumber_7 : decode cX2_blockNumber 7 = .ok (.ireturn, 1) := by decide +kernel
theorem dX2_goal_0 : decode cX2_goal 0 = .ok (.aload_n 0, 1) := by decide +kernel
theorem dX2_goal_1 : decode cX2_goal 1 = .ok (.getfield 18, 3) := by decide +kernel
theorem dX2_goal_4 : decode cX2_goal 4 = .ok (.aload_n 0, 1) := by decide +kernel
theorem dX2_goal_5 : decode cX2_goal 5 = .ok (.getfield 33, 3) := by decide +kernel
theorem dX2_goal_8 : decode cX2_goal 8 = .ok (.invokestatic 45, 3) := by decide +kernel
theorem dX2_goal_11 : decode cX2_goal 11 = .ok (.istore_n 1, 1) := by decide +kernel
theorem dX2_goal_12 : decode cX2_goal 12 = .ok (.aload_n 0, 1) := by decide +kernel
theorem dX2_goal_13 : decode cX2_goal 13 = .ok (.getfield 36, 3) := by decide +kernel
theorem dX2_goal_16 : decode cX2_goal 16 = .ok (.iconst 1, 1) := by decide +kernel
theorem dX2_goal_17 : decode cX2_goal 17 = .ok (.if_icmp .ne 7, 3) := by decide +kernel
theorem dX2_goal_20 : decode cX2_goal 20 = .ok (.iload_n 1, 1) := by decide +kernel
theorem dX2_goal_21 : decode cX2_goal 21 = .ok (.goto 5, 3) := by decide +kernel
theorem dX2_goal_24 : decode cX2_goal 24 = .ok (.iload_n 1, 1) := by decide +kernel
theorem dX2_goal_25 : decode cX2_goal 25 = .ok (.ineg, 1) := by decide +kernel
theorem dX2_goal_26 : decode cX2_goal 26 = .ok (.ireturn, 1) := by decide +kernel
theorem dX2_mostGain_0 : decode cX2_mostGain 0 = .ok (.aload_n 0, 1) := by decide +kernel
theorem dX2_mostGain_1 : decode cX2_mostGain 1 = .ok (.getfield 15, 3) := by decide +kernel
theorem dX2_mostGain_4 : decode cX2_mostGain 4 = .ok (.ifCond .le 13, 3) := by decide +kernel
theorem dX2_mostGain_7 : decode cX2_mostGain 7 = .ok (.bipush 60, 2) := by decide +kernel
theorem dX2_mostGain_9 : decode cX2_mostGain 9 = .ok (.aload_n 0, 1) := by decide +kernel
theorem dX2_mostGain_10 : decode cX2_mostGain 10 = .ok (.getfield 15, 3) := by decide +kernel
theorem dX2_mostGain_13 : decode cX2_mostGain 13 = .ok (.idiv, 1) := by decide +kernel
theorem dX2_mostGain_14 : decode cX2_mostGain 14 = .ok (.goto 4, 3) := by decide +kernel
theorem dX2_mostGain_17 : decode cX2_mostGain 17 = .ok (.iconst 0, 1) := by decide +kernel
theorem dX2_mostGain_18 : decode cX2_mostGain 18 = .ok (.ireturn, 1) := by decide +kernel
theorem dX2_ticksToGoal_0 : decode cX2_ticksToGoal 0 = .ok (.aload_n 0, 1) := by decide +kernel
theorem dX2_ticksToGoal_1 : decode cX2_ticksToGoal 1 = .ok (.invokevirtual 49, 3) := by decide +kernel
theorem dX2_ticksToGoal_4 : decode cX2_ticksToGoal 4 = .ok (.istore_n 1, 1) := by decide +kernel
theorem dX2_ticksToGoal_5 : decode cX2_ticksToGoal 5 = .ok (.aload_n 0, 1) := by decide +kernel
theorem dX2_ticksToGoal_6 : decode cX2_ticksToGoal 6 = .ok (.invokevirtual 53, 3) := by decide +kernel
theorem dX2_ticksToGoal_9 : decode cX2_ticksToGoal 9 = .ok (.aload_n 0, 1) := by decide +kernel
theorem dX2_ticksToGoal_10 : decode cX2_ticksToGoal 10 = .ok (.getfield 27, 3) := by decide +kernel
theorem dX2_ticksToGoal_13 : decode cX2_ticksToGoal 13 = .ok (.isub, 1) := by decide +kernel
theorem dX2_ticksToGoal_14 : decode cX2_ticksToGoal 14 = .ok (.invokestatic 56, 3) := by decide +kernel
theorem dX2_ticksToGoal_17 : decode cX2_ticksToGoal 17 = .ok (.istore_n 2, 1) := by decide +kernel
theorem dX2_ticksToGoal_18 : decode cX2_ticksToGoal 18 = .ok (.iload_n 1, 1) := by decide +kernel
theorem dX2_ticksToGoal_19 : decode cX2_ticksToGoal 19 = .ok (.ifCond .le 13, 3) := by decide +kernel
theorem dX2_ticksToGoal_22 : decode cX2_ticksToGoal 22 = .ok (.iload_n 2, 1) := by decide +kernel
theorem dX2_ticksToGoal_23 : decode cX2_ticksToGoal 23 = .ok (.iload_n 1, 1) := by decide +kernel
theorem dX2_ticksToGoal_24 : decode cX2_ticksToGoal 24 = .ok (.iadd, 1) := by decide +kernel
theorem dX2_ticksToGoal_25 : decode cX2_ticksToGoal 25 = .ok (.iconst 1, 1) := by decide +kernel
theorem dX2_ticksToGoal_26 : decode cX2_ticksToGoal 26 = .ok (.isub, 1) := by decide +kernel
theorem dX2_ticksToGoal_27 : decode cX2_ticksToGoal 27 = .ok (.iload_n 1, 1) := by decide +kernel
theorem dX2_ticksToGoal_28 : decode cX2_ticksToGoal 28 = .ok (.idiv, 1) := by decide +kernel
theorem dX2_ticksToGoal_29 : decode cX2_ticksToGoal 29 = .ok (.goto 4, 3) := by decide +kernel
theorem dX2_ticksToGoal_32 : decode cX2_ticksToGoal 32 = .ok (.iconst 0, 1) := by decide +kernel
theorem dX2_ticksToGoal_33 : decode cX2_ticksToGoal 33 = .ok (.ireturn, 1) := by decide +kernel
theorem dX2_changeSpeed_0 : decode cX2_changeSpeed 0 = .ok (.aload_n 0, 1) := by decide +kernel
theorem dX2_changeSpeed_1 : decode cX2_changeSpeed 1 = .ok (.invokevirtual 49, 3) := by decide +kernel
theorem dX2_changeSpeed_4 : decode cX2_changeSpeed 4 = .ok (.istore_n 1, 1) := by decide +kernel
theorem dX2_changeSpeed_5 : decode cX2_changeSpeed 5 = .ok (.aload_n 0, 1) := by decide +kernel
theorem dX2_changeSpeed_6 : decode cX2_changeSpeed 6 = .ok (.dup, 1) := by decide +kernel
theorem dX2_changeSpeed_7 : decode cX2_changeSpeed 7 = .ok (.getfield 27, 3) := by decide +kernel
theorem dX2_changeSpeed_10 : decode cX2_changeSpeed 10 = .ok (.iload_n 1, 1) := by decide +kernel
theorem dX2_changeSpeed_11 : decode cX2_changeSpeed 11 = .ok (.ineg, 1) := by decide +kernel
theorem dX2_changeSpeed_12 : decode cX2_changeSpeed 12 = .ok (.iload_n 1, 1) := by decide +kernel
theorem dX2_changeSpeed_13 : decode cX2_changeSpeed 13 = .ok (.aload_n 0, 1) := by decide +kernel
theorem dX2_changeSpeed_14 : decode cX2_changeSpeed 14 = .ok (.invokevirtual 53, 3) := by decide +kernel
theorem dX2_changeSpeed_17 : decode cX2_changeSpeed 17 = .ok (.aload_n 0, 1) := by decide +kernel
theorem dX2_changeSpeed_18 : decode cX2_changeSpeed 18 = .ok (.getfield 27, 3) := by decide +kernel
theorem dX2_changeSpeed_21 : decode cX2_changeSpeed 21 = .ok (.isub, 1) := by decide +kernel
theorem dX2_changeSpeed_22 : decode cX2_changeSpeed 22 = .ok (.invokestatic 62, 3) := by decide +kernel
theorem dX2_changeSpeed_25 : decode cX2_changeSpeed 25 = .ok (.invokestatic 65, 3) := by decide +kernel
theorem dX2_changeSpeed_28 : decode cX2_changeSpeed 28 = .ok (.iadd, 1) := by decide +kernel
theorem dX2_changeSpeed_29 : decode cX2_changeSpeed 29 = .ok (.putfield 27, 3) := by decide +kernel
theorem dX2_changeSpeed_32 : decode cX2_changeSpeed 32 = .ok (.return_, 1) := by decide +kernel
theorem dX2_roll_0 : decode cX2_roll 0 = .ok (.aload_n 0, 1) := by decide +kernel
theorem dX2_roll_1 : decode cX2_roll 1 = .ok (.getfield 21, 3) := by decide +kernel
theorem dX2_roll_4 : decode cX2_roll 4 = .ok (.bipush 10, 2) := by decide +kernel
theorem dX2_roll_6 : decode cX2_roll 6 = .ok (.imul, 1) := by decide +kernel
theorem dX2_roll_7 : decode cX2_roll 7 = .ok (.aload_n 0, 1) := by decide +kernel
theorem dX2_roll_8 : decode cX2_roll 8 = .ok (.getfield 24, 3) := by decide +kernel
theorem dX2_roll_11 : decode cX2_roll 11 = .ok (.iadd, 1) := by decide +kernel
theorem dX2_roll_12 : decode cX2_roll 12 = .ok (.aload_n 0, 1) := by decide +kernel
theorem dX2_roll_13 : decode cX2_roll 13 = .ok (.getfield 27, 3) := by decide +kernel
theorem dX2_roll_16 : decode cX2_roll 16 = .ok (.iadd, 1) := by decide +kernel
theorem dX2_roll_17 : decode cX2_roll 17 = .ok (.istore_n 1, 1) := by decide +kernel
theorem dX2_roll_18 : decode cX2_roll 18 = .ok (.aload_n 0, 1) := by decide +kernel
theorem dX2_roll_19 : decode cX2_roll 19 = .ok (.dup, 1) := by decide +kernel
theorem dX2_roll_20 : decode cX2_roll 20 = .ok (.getfield 30, 3) := by decide +kernel
theorem dX2_roll_23 : decode cX2_roll 23 = .ok (.iload_n 1, 1) := by decide +kernel
theorem dX2_roll_24 : decode cX2_roll 24 = .ok (.sipush 8000, 3) := by decide +kernel
theorem dX2_roll_27 : decode cX2_roll 27 = .ok (.invokestatic 68, 3) := by decide +kernel
theorem dX2_roll_30 : decode cX2_roll 30 = .ok (.iadd, 1) := by decide +kernel
theorem dX2_roll_31 : decode cX2_roll 31 = .ok (.putfield 30, 3) := by decide +kernel
theorem dX2_roll_34 : decode cX2_roll 34 = .ok (.iload_n 1, 1) := by decide +kernel
theorem dX2_roll_35 : decode cX2_roll 35 = .ok (.sipush 8000, 3) := by decide +kernel
theorem dX2_roll_38 : decode cX2_roll 38 = .ok (.invokestatic 71, 3) := by decide +kernel
theorem dX2_roll_41 : decode cX2_roll 41 = .ok (.istore_n 2, 1) := by decide +kernel
theorem dX2_roll_42 : decode cX2_roll 42 = .ok (.aload_n 0, 1) := by decide +kernel
theorem dX2_roll_43 : decode cX2_roll 43 = .ok (.iload_n 2, 1) := by decide +kernel
theorem dX2_roll_44 : decode cX2_roll 44 = .ok (.bipush 10, 2) := by decide +kernel
theorem dX2_roll_46 : decode cX2_roll 46 = .ok (.idiv, 1) := by decide +kernel
theorem dX2_roll_47 : decode cX2_roll 47 = .ok (.putfield 21, 3) := by decide +kernel
theorem dX2_roll_50 : decode cX2_roll 50 = .ok (.aload_n 0, 1) := by decide +kernel
theorem dX2_roll_51 : decode cX2_roll 51 = .ok (.iload_n 2, 1) := by decide +kernel
theorem dX2_roll_52 : decode cX2_roll 52 = .ok (.bipush 10, 2) := by decide +kernel
theorem dX2_roll_54 : decode cX2_roll 54 = .ok (.irem, 1) := by decide +kernel
theorem dX2_roll_55 : decode cX2_roll 55 = .ok (.putfield 24, 3) := by decide +kernel
theorem dX2_roll_58 : decode cX2_roll 58 = .ok (.return_, 1) := by decide +kernel
theorem dX2_hear_0 : decode cX2_hear 0 = .ok (.aload_n 0, 1) := by decide +kernel
theorem dX2_hear_1 : decode cX2_hear 1 = .ok (.dup, 1) := by decide +kernel
theorem dX2_hear_2 : decode cX2_hear 2 = .ok (.getfield 42, 3) := by decide +kernel
theorem dX2_hear_5 : decode cX2_hear 5 = .ok (.iconst 1, 1) := by decide +kernel
theorem dX2_hear_6 : decode cX2_hear 6 = .ok (.iadd, 1) := by decide +kernel
theorem dX2_hear_7 : decode cX2_hear 7 = .ok (.putfield 42, 3) := by decide +kernel
theorem dX2_hear_10 : decode cX2_hear 10 = .ok (.iload_n 1, 1) := by decide +kernel
theorem dX2_hear_11 : decode cX2_hear 11 = .ok (.sipush 128, 3) := by decide +kernel
theorem dX2_hear_14 : decode cX2_hear 14 = .ok (.irem, 1) := by decide +kernel
theorem dX2_hear_15 : decode cX2_hear 15 = .ok (.istore_n 2, 1) := by decide +kernel
theorem dX2_hear_16 : decode cX2_hear 16 = .ok (.iload_n 2, 1) := by decide +kernel
theorem dX2_hear_17 : decode cX2_hear 17 = .ok (.bipush 28, 2) := by decide +kernel
theorem dX2_hear_19 : decode cX2_hear 19 = .ok (.if_icmp .gt 20, 3) := by decide +kernel
theorem dX2_hear_22 : decode cX2_hear 22 = .ok (.aload_n 0, 1) := by decide +kernel
theorem dX2_hear_23 : decode cX2_hear 23 = .ok (.iload_n 2, 1) := by decide +kernel
theorem dX2_hear_24 : decode cX2_hear 24 = .ok (.putfield 33, 3) := by decide +kernel
theorem dX2_hear_27 : decode cX2_hear 27 = .ok (.aload_n 0, 1) := by decide +kernel
theorem dX2_hear_28 : decode cX2_hear 28 = .ok (.iload_n 1, 1) := by decide +kernel
theorem dX2_hear_29 : decode cX2_hear 29 = .ok (.sipush 128, 3) := by decide +kernel
theorem dX2_hear_32 : decode cX2_hear 32 = .ok (.idiv, 1) := by decide +kernel
theorem dX2_hear_33 : decode cX2_hear 33 = .ok (.putfield 36, 3) := by decide +kernel
theorem dX2_hear_36 : decode cX2_hear 36 = .ok (.goto 42, 3) := by decide +kernel
theorem dX2_hear_39 : decode cX2_hear 39 = .ok (.iload_n 1, 1) := by decide +kernel
theorem dX2_hear_40 : decode cX2_hear 40 = .ok (.bipush 31, 2) := by decide +kernel
theorem dX2_hear_42 : decode cX2_hear 42 = .ok (.if_icmp .ne 16, 3) := by decide +kernel
theorem dX2_hear_45 : decode cX2_hear 45 = .ok (.aload_n 0, 1) := by decide +kernel
theorem dX2_hear_46 : decode cX2_hear 46 = .ok (.iconst 0, 1) := by decide +kernel
theorem dX2_hear_47 : decode cX2_hear 47 = .ok (.putfield 33, 3) := by decide +kernel
theorem dX2_hear_50 : decode cX2_hear 50 = .ok (.aload_n 0, 1) := by decide +kernel
theorem dX2_hear_51 : decode cX2_hear 51 = .ok (.iconst 0, 1) := by decide +kernel
theorem dX2_hear_52 : decode cX2_hear 52 = .ok (.putfield 27, 3) := by decide +kernel
theorem dX2_hear_55 : decode cX2_hear 55 = .ok (.goto 23, 3) := by decide +kernel
theorem dX2_hear_58 : decode cX2_hear 58 = .ok (.iload_n 1, 1) := by decide +kernel
theorem dX2_hear_59 : decode cX2_hear 59 = .ok (.bipush 64, 2) := by decide +kernel
theorem dX2_hear_61 : decode cX2_hear 61 = .ok (.if_icmp .lt 17, 3) := by decide +kernel
theorem dX2_hear_64 : decode cX2_hear 64 = .ok (.iload_n 1, 1) := by decide +kernel
theorem dX2_hear_65 : decode cX2_hear 65 = .ok (.bipush 67, 2) := by decide +kernel
theorem dX2_hear_67 : decode cX2_hear 67 = .ok (.if_icmp .gt 11, 3) := by decide +kernel
theorem dX2_hear_70 : decode cX2_hear 70 = .ok (.aload_n 0, 1) := by decide +kernel
theorem dX2_hear_71 : decode cX2_hear 71 = .ok (.iload_n 1, 1) := by decide +kernel
theorem dX2_hear_72 : decode cX2_hear 72 = .ok (.bipush 64, 2) := by decide +kernel
theorem dX2_hear_74 : decode cX2_hear 74 = .ok (.isub, 1) := by decide +kernel
theorem dX2_hear_75 : decode cX2_hear 75 = .ok (.putfield 39, 3) := by decide +kernel
theorem dX2_hear_78 : decode cX2_hear 78 = .ok (.return_, 1) := by decide +kernel
theorem dX2_told_0 : decode cX2_told 0 = .ok (.iload_n 1, 1) := by decide +kernel
theorem dX2_told_1 : decode cX2_told 1 = .ok (.tableswitch 135 0 11 #[63, 68, 73, 78, 83, 92, 101, 106, 111, 116, 121, 126], 63) := by decide +kernel
theorem dX2_told_64 : decode cX2_told 64 = .ok (.aload_n 0, 1) := by decide +kernel
theorem dX2_told_65 : decode cX2_told 65 = .ok (.getfield 15, 3) := by decide +kernel
theorem dX2_told_68 : decode cX2_told 68 = .ok (.ireturn, 1) := by decide +kernel
theorem dX2_told_69 : decode cX2_told 69 = .ok (.aload_n 0, 1) := by decide +kernel
theorem dX2_told_70 : decode cX2_told 70 = .ok (.getfield 18, 3) := by decide +kernel
theorem dX2_told_73 : decode cX2_told 73 = .ok (.ireturn, 1) := by decide +kernel
theorem dX2_told_74 : decode cX2_told 74 = .ok (.aload_n 0, 1) := by decide +kernel
theorem dX2_told_75 : decode cX2_told 75 = .ok (.getfield 21, 3) := by decide +kernel
theorem dX2_told_78 : decode cX2_told 78 = .ok (.ireturn, 1) := by decide +kernel
theorem dX2_told_79 : decode cX2_told 79 = .ok (.aload_n 0, 1) := by decide +kernel
theorem dX2_told_80 : decode cX2_told 80 = .ok (.getfield 24, 3) := by decide +kernel
theorem dX2_told_83 : decode cX2_told 83 = .ok (.ireturn, 1) := by decide +kernel
theorem dX2_told_84 : decode cX2_told 84 = .ok (.aload_n 0, 1) := by decide +kernel
theorem dX2_told_85 : decode cX2_told 85 = .ok (.getfield 27, 3) := by decide +kernel
theorem dX2_told_88 : decode cX2_told 88 = .ok (.sipush 1000, 3) := by decide +kernel
theorem dX2_told_91 : decode cX2_told 91 = .ok (.iadd, 1) := by decide +kernel
theorem dX2_told_92 : decode cX2_told 92 = .ok (.ireturn, 1) := by decide +kernel
theorem dX2_told_93 : decode cX2_told 93 = .ok (.aload_n 0, 1) := by decide +kernel
theorem dX2_told_94 : decode cX2_told 94 = .ok (.invokevirtual 53, 3) := by decide +kernel
theorem dX2_told_97 : decode cX2_told 97 = .ok (.sipush 1000, 3) := by decide +kernel
theorem dX2_told_100 : decode cX2_told 100 = .ok (.iadd, 1) := by decide +kernel
theorem dX2_told_101 : decode cX2_told 101 = .ok (.ireturn, 1) := by decide +kernel
theorem dX2_told_102 : decode cX2_told 102 = .ok (.aload_n 0, 1) := by decide +kernel
theorem dX2_told_103 : decode cX2_told 103 = .ok (.getfield 33, 3) := by decide +kernel
theorem dX2_told_106 : decode cX2_told 106 = .ok (.ireturn, 1) := by decide +kernel
theorem dX2_told_107 : decode cX2_told 107 = .ok (.aload_n 0, 1) := by decide +kernel
theorem dX2_told_108 : decode cX2_told 108 = .ok (.getfield 36, 3) := by decide +kernel
theorem dX2_told_111 : decode cX2_told 111 = .ok (.ireturn, 1) := by decide +kernel
theorem dX2_told_112 : decode cX2_told 112 = .ok (.aload_n 0, 1) := by decide +kernel
theorem dX2_told_113 : decode cX2_told 113 = .ok (.getfield 39, 3) := by decide +kernel
theorem dX2_told_116 : decode cX2_told 116 = .ok (.ireturn, 1) := by decide +kernel
theorem dX2_told_117 : decode cX2_told 117 = .ok (.aload_n 0, 1) := by decide +kernel
theorem dX2_told_118 : decode cX2_told 118 = .ok (.invokevirtual 74, 3) := by decide +kernel
theorem dX2_told_121 : decode cX2_told 121 = .ok (.ireturn, 1) := by decide +kernel
theorem dX2_told_122 : decode cX2_told 122 = .ok (.aload_n 0, 1) := by decide +kernel
theorem dX2_told_123 : decode cX2_told 123 = .ok (.getfield 42, 3) := by decide +kernel
theorem dX2_told_126 : decode cX2_told 126 = .ok (.ireturn, 1) := by decide +kernel
theorem dX2_told_127 : decode cX2_told 127 = .ok (.aload_n 0, 1) := by decide +kernel
theorem dX2_told_128 : decode cX2_told 128 = .ok (.getfield 30, 3) := by decide +kernel
theorem dX2_told_131 : decode cX2_told 131 = .ok (.sipush 1000, 3) := by decide +kernel
theorem dX2_told_134 : decode cX2_told 134 = .ok (.iadd, 1) := by decide +kernel
theorem dX2_told_135 : decode cX2_told 135 = .ok (.ireturn, 1) := by decide +kernel
theorem dX2_told_136 : decode cX2_told 136 = .ok (.bipush (-2), 2) := by decide +kernel
theorem dX2_told_138 : decode cX2_told 138 = .ok (.ireturn, 1) := by decide +kernel
theorem dX3_init_0 : decode cX3_init 0 = .ok (.aload_n 0, 1) := by decide +kernel
theorem dX3_init_1 : decode cX3_init 1 = .ok (.invokespecial 3, 3) := by decide +kernel
theorem dX3_init_4 : decode cX3_init 4 = .ok (.aload_n 0, 1) := by decide +kernel
theorem dX3_init_5 : decode cX3_init 5 = .ok (.bipush 80, 2) := by decide +kernel
theorem dX3_init_7 : decode cX3_init 7 = .ok (.newarray .char, 2) := by decide +kernel
theorem dX3_init_9 : decode cX3_init 9 = .ok (.putfield 9, 3) := by decide +kernel
theorem dX3_init_12 : decode cX3_init 12 = .ok (.aload_n 0, 1) := by decide +kernel
theorem dX3_init_13 : decode cX3_init 13 = .ok (.iconst 3, 1) := by decide +kernel
theorem dX3_init_14 : decode cX3_init 14 = .ok (.newarray .int, 2) := by decide +kernel
theorem dX3_init_16 : decode cX3_init 16 = .ok (.putfield 15, 3) := by decide +kernel
theorem dX3_init_19 : decode cX3_init 19 = .ok (.return_, 1) := by decide +kernel
theorem dX3_append_0 : decode cX3_append 0 = .ok (.lload_n 1, 1) := by decide +kernel
theorem dX3_append_1 : decode cX3_append 1 = .ok (.invokestatic 19, 3) := by decide +kernel
theorem dX3_append_4 : decode cX3_append 4 = .ok (.istore_n 3, 1) := by decide +kernel
theorem dX3_append_5 : decode cX3_append 5 = .ok (.iload_n 3, 1) := by decide +kernel
theorem dX3_append_6 : decode cX3_append 6 = .ok (.iconst 1, 1) := by decide +kernel
theorem dX3_append_7 : decode cX3_append 7 = .ok (.if_icmp .ge 6, 3) := by decide +kernel
theorem dX3_append_10 : decode cX3_append 10 = .ok (.bipush (-2), 2) := by decide +kernel
theorem dX3_append_12 : decode cX3_append 12 = .ok (.ireturn, 1) := by decide +kernel
theorem dX3_append_13 : decode cX3_append 13 = .ok (.aload_n 0, 1) := by decide +kernel
theorem dX3_append_14 : decode cX3_append 14 = .ok (.getfield 23, 3) := by decide +kernel
theorem dX3_append_17 : decode cX3_append 17 = .ok (.iload_n 3, 1) := by decide +kernel
theorem dX3_append_18 : decode cX3_append 18 = .ok (.iadd, 1) := by decide +kernel
theorem dX3_append_19 : decode cX3_append 19 = .ok (.bipush 80, 2) := by decide +kernel
theorem dX3_append_21 : decode cX3_append 21 = .ok (.if_icmp .le 6, 3) := by decide +kernel
theorem dX3_append_24 : decode cX3_append 24 = .ok (.bipush (-4), 2) := by decide +kernel
theorem dX3_append_26 : decode cX3_append 26 = .ok (.ireturn, 1) := by decide +kernel
theorem dX3_append_27 : decode cX3_append 27 = .ok (.iconst 0, 1) := by decide +kernel
theorem dX3_append_28 : decode cX3_append 28 = .ok (.istore 4, 2) := by decide +kernel
theorem dX3_append_30 : decode cX3_append 30 = .ok (.iload 4, 2) := by decide +kernel
theorem dX3_append_32 : decode cX3_append 32 = .ok (.iload_n 3, 1) := by decide +kernel
theorem dX3_append_33 : decode cX3_append 33 = .ok (.if_icmp .ge 32, 3) := by decide +kernel
theorem dX3_append_36 : decode cX3_append 36 = .ok (.aload_n 0, 1) := by decide +kernel
theorem dX3_append_37 : decode cX3_append 37 = .ok (.getfield 9, 3) := by decide +kernel
theorem dX3_append_40 : decode cX3_append 40 = .ok (.aload_n 0, 1) := by decide +kernel
theorem dX3_append_41 : decode cX3_append 41 = .ok (.getfield 23, 3) := by decide +kernel
theorem dX3_append_44 : decode cX3_append 44 = .ok (.iload_n 3, 1) := by decide +kernel
theorem dX3_append_45 : decode cX3_append 45 = .ok (.iadd, 1) := by decide +kernel
theorem dX3_append_46 : decode cX3_append 46 = .ok (.iconst 1, 1) := by decide +kernel
theorem dX3_append_47 : decode cX3_append 47 = .ok (.isub, 1) := by decide +kernel
theorem dX3_append_48 : decode cX3_append 48 = .ok (.iload 4, 2) := by decide +kernel
theorem dX3_append_50 : decode cX3_append 50 = .ok (.isub, 1) := by decide +kernel
theorem dX3_append_51 : decode cX3_append 51 = .ok (.lload_n 1, 1) := by decide +kernel
theorem dX3_append_52 : decode cX3_append 52 = .ok (.iload 4, 2) := by decide +kernel
theorem dX3_append_54 : decode cX3_append 54 = .ok (.invokestatic 27, 3) := by decide +kernel
theorem dX3_append_57 : decode cX3_append 57 = .ok (.i2c, 1) := by decide +kernel
theorem dX3_append_58 : decode cX3_append 58 = .ok (.castore, 1) := by decide +kernel
theorem dX3_append_59 : decode cX3_append 59 = .ok (.iinc 4 1, 3) := by decide +kernel
theorem dX3_append_62 : decode cX3_append 62 = .ok (.goto (-32), 3) := by decide +kernel
theorem dX3_append_65 : decode cX3_append 65 = .ok (.aload_n 0, 1) := by decide +kernel
theorem dX3_append_66 : decode cX3_append 66 = .ok (.dup, 1) := by decide +kernel
theorem dX3_append_67 : decode cX3_append 67 = .ok (.getfield 23, 3) := by decide +kernel
theorem dX3_append_70 : decode cX3_append 70 = .ok (.iload_n 3, 1) := by decide +kernel
theorem dX3_append_71 : decode cX3_append 71 = .ok (.iadd, 1) := by decide +kernel
theorem dX3_append_72 : decode cX3_append 72 = .ok (.putfield 23, 3) := by decide +kernel
theorem dX3_append_75 : decode cX3_append 75 = .ok (.aload_n 0, 1) := by decide +kernel
theorem dX3_append_76 : decode cX3_append 76 = .ok (.getfield 23, 3) := by decide +kernel
theorem dX3_append_79 : decode cX3_append 79 = .ok (.ireturn, 1) := by decide +kernel
theorem dX3_countOf_0 : decode cX3_countOf 0 = .ok (.iconst 0, 1) := by decide +kernel
theorem dX3_countOf_1 : decode cX3_countOf 1 = .ok (.istore_n 2, 1) := by decide +kernel
theorem dX3_countOf_2 : decode cX3_countOf 2 = .ok (.iload_n 2, 1) := by decide +kernel
theorem dX3_countOf_3 : decode cX3_countOf 3 = .ok (.bipush 8, 2) := by decide +kernel
theorem dX3_countOf_5 : decode cX3_countOf 5 = .ok (.if_icmp .ge 34, 3) := by decide +kernel
theorem dX3_countOf_8 : decode cX3_countOf 8 = .ok (.lload_n 0, 1) := by decide +kernel
theorem dX3_countOf_9 : decode cX3_countOf 9 = .ok (.iload_n 2, 1) := by decide +kernel
theorem dX3_countOf_10 : decode cX3_countOf 10 = .ok (.invokestatic 27, 3) := by decide +kernel
theorem dX3_countOf_13 : decode cX3_countOf 13 = .ok (.ifCond .eq 26, 3) := by decide +kernel
theorem dX3_countOf_16 : decode cX3_countOf 16 = .ok (.lload_n 0, 1) := by decide +kernel
theorem dX3_countOf_17 : decode cX3_countOf 17 = .ok (.iload_n 2, 1) := by decide +kernel
theorem dX3_countOf_18 : decode cX3_countOf 18 = .ok (.invokestatic 27, 3) := by decide +kernel
theorem dX3_countOf_21 : decode cX3_countOf 21 = .ok (.bipush 33, 2) := by decide +kernel
theorem dX3_countOf_23 : decode cX3_countOf 23 = .ok (.bipush 126, 2) := by decide +kernel
theorem dX3_countOf_25 : decode cX3_countOf 25 = .ok (.invokestatic 31, 3) := by decide +kernel
theorem dX3_countOf_28 : decode cX3_countOf 28 = .ok (.ifCond .ne 5, 3) := by decide +kernel
theorem dX3_countOf_31 : decode cX3_countOf 31 = .ok (.iconst 0, 1) := by decide +kernel
theorem dX3_countOf_32 : decode cX3_countOf 32 = .ok (.ireturn, 1) := by decide +kernel
theorem dX3_countOf_33 : decode cX3_countOf 33 = .ok (.iinc 2 1, 3) := by decide +kernel
theorem dX3_countOf_36 : decode cX3_countOf 36 = .ok (.goto (-34), 3) := by decide +kernel
theorem dX3_countOf_39 : decode cX3_countOf 39 = .ok (.iload_n 2, 1) := by decide +kernel
theorem dX3_countOf_40 : decode cX3_countOf 40 = .ok (.istore_n 3, 1) := by decide +kernel
theorem dX3_countOf_41 : decode cX3_countOf 41 = .ok (.iload_n 3, 1) := by decide +kernel
theorem dX3_countOf_42 : decode cX3_countOf 42 = .ok (.bipush 8, 2) := by decide +kernel
theorem dX3_countOf_44 : decode cX3_countOf 44 = .ok (.if_icmp .ge 19, 3) := by decide +kernel
theorem dX3_countOf_47 : decode cX3_countOf 47 = .ok (.lload_n 0, 1) := by decide +kernel
theorem dX3_countOf_48 : decode cX3_countOf 48 = .ok (.iload_n 3, 1) := by decide +kernel
theorem dX3_countOf_49 : decode cX3_countOf 49 = .ok (.invokestatic 27, 3) := by decide +kernel
theorem dX3_countOf_52 : decode cX3_countOf 52 = .ok (.ifCond .eq 5, 3) := by decide +kernel
theorem dX3_countOf_55 : decode cX3_countOf 55 = .ok (.iconst 0, 1) := by decide +kernel
theorem dX3_countOf_56 : decode cX3_countOf 56 = .ok (.ireturn, 1) := by decide +kernel
theorem dX3_countOf_57 : decode cX3_countOf 57 = .ok (.iinc 3 1, 3) := by decide +kernel
theorem dX3_countOf_60 : decode cX3_countOf 60 = .ok (.goto (-19), 3) := by decide +kernel
theorem dX3_countOf_63 : decode cX3_countOf 63 = .ok (.iload_n 2, 1) := by decide +kernel
theorem dX3_countOf_64 : decode cX3_countOf 64 = .ok (.ireturn, 1) := by decide +kernel
theorem dX3_codeAt_0 : decode cX3_codeAt 0 = .ok (.lload_n 0, 1) := by decide +kernel
theorem dX3_codeAt_1 : decode cX3_codeAt 1 = .ok (.bipush 8, 2) := by decide +kernel
theorem dX3_codeAt_3 : decode cX3_codeAt 3 = .ok (.iload_n 2, 1) := by decide +kernel
theorem dX3_codeAt_4 : decode cX3_codeAt 4 = .ok (.imul, 1) := by decide +kernel
theorem dX3_codeAt_5 : decode cX3_codeAt 5 = .ok (.lushr, 1) := by decide +kernel
theorem dX3_codeAt_6 : decode cX3_codeAt 6 = .ok (.l2i, 1) := by decide +kernel
theorem dX3_codeAt_7 : decode cX3_codeAt 7 = .ok (.sipush 255, 3) := by decide +kernel
theorem dX3_codeAt_10 : decode cX3_codeAt 10 = .ok (.iand, 1) := by decide +kernel
theorem dX3_codeAt_11 : decode cX3_codeAt 11 = .ok (.ireturn, 1) := by decide +kernel
theorem dX3_clear_0 : decode cX3_clear 0 = .ok (.aload_n 0, 1) := by decide +kernel
theorem dX3_clear_1 : decode cX3_clear 1 = .ok (.getfield 23, 3) := by decide +kernel
theorem dX3_clear_4 : decode cX3_clear 4 = .ok (.istore_n 1, 1) := by decide +kernel
theorem dX3_clear_5 : decode cX3_clear 5 = .ok (.aload_n 0, 1) := by decide +kernel
theorem dX3_clear_6 : decode cX3_clear 6 = .ok (.iconst 0, 1) := by decide +kernel
theorem dX3_clear_7 : decode cX3_clear 7 = .ok (.putfield 23, 3) := by decide +kernel
theorem dX3_clear_10 : decode cX3_clear 10 = .ok (.iload_n 1, 1) := by decide +kernel
theorem dX3_clear_11 : decode cX3_clear 11 = .ok (.ireturn, 1) := by decide +kernel
theorem dX3_rewind_0 : decode cX3_rewind 0 = .ok (.aload_n 0, 1) := by decide +kernel
theorem dX3_rewind_1 : decode cX3_rewind 1 = .ok (.iconst 0, 1) := by decide +kernel
theorem dX3_rewind_2 : decode cX3_rewind 2 = .ok (.putfield 35, 3) := by decide +kernel
theorem dX3_rewind_5 : decode cX3_rewind 5 = .ok (.return_, 1) := by decide +kernel
theorem dX3_firstFault_0 : decode cX3_firstFault 0 = .ok (.aload_n 0, 1) := by decide +kernel
theorem dX3_firstFault_1 : decode cX3_firstFault 1 = .ok (.invokevirtual 38, 3) := by decide +kernel
theorem dX3_firstFault_4 : decode cX3_firstFault 4 = .ok (.iconst 0, 1) := by decide +kernel
theorem dX3_firstFault_5 : decode cX3_firstFault 5 = .ok (.istore_n 1, 1) := by decide +kernel
theorem dX3_firstFault_6 : decode cX3_firstFault 6 = .ok (.iload_n 1, 1) := by decide +kernel
theorem dX3_firstFault_7 : decode cX3_firstFault 7 = .ok (.bipush 80, 2) := by decide +kernel
theorem dX3_firstFault_9 : decode cX3_firstFault 9 = .ok (.if_icmp .ge 49, 3) := by decide +kernel
theorem dX3_firstFault_12 : decode cX3_firstFault 12 = .ok (.aload_n 0, 1) := by decide +kernel
theorem dX3_firstFault_13 : decode cX3_firstFault 13 = .ok (.invokevirtual 41, 3) := by decide +kernel
theorem dX3_firstFault_16 : decode cX3_firstFault 16 = .ok (.ifCond .ne 8, 3) := by decide +kernel
theorem dX3_firstFault_19 : decode cX3_firstFault 19 = .ok (.aload_n 0, 1) := by decide +kernel
theorem dX3_firstFault_20 : decode cX3_firstFault 20 = .ok (.getfield 35, 3) := by decide +kernel
theorem dX3_firstFault_23 : decode cX3_firstFault 23 = .ok (.ireturn, 1) := by decide +kernel
theorem dX3_firstFault_24 : decode cX3_firstFault 24 = .ok (.aload_n 0, 1) := by decide +kernel
theorem dX3_firstFault_25 : decode cX3_firstFault 25 = .ok (.getfield 35, 3) := by decide +kernel
theorem dX3_firstFault_28 : decode cX3_firstFault 28 = .ok (.aload_n 0, 1) := by decide +kernel
theorem dX3_firstFault_29 : decode cX3_firstFault 29 = .ok (.getfield 23, 3) := by decide +kernel
theorem dX3_firstFault_32 : decode cX3_firstFault 32 = .ok (.if_icmp .lt 6, 3) := by decide +kernel
theorem dX3_firstFault_35 : decode cX3_firstFault 35 = .ok (.bipush (-6), 2) := by decide +kernel
theorem dX3_firstFault_37 : decode cX3_firstFault 37 = .ok (.ireturn, 1) := by decide +kernel
theorem dX3_firstFault_38 : decode cX3_firstFault 38 = .ok (.aload_n 0, 1) := by decide +kernel
theorem dX3_firstFault_39 : decode cX3_firstFault 39 = .ok (.bipush 59, 2) := by decide +kernel
theorem dX3_firstFault_41 : decode cX3_firstFault 41 = .ok (.invokevirtual 45, 3) := by decide +kernel
theorem dX3_firstFault_44 : decode cX3_firstFault 44 = .ok (.ifCond .ne 8, 3) := by decide +kernel
theorem dX3_firstFault_47 : decode cX3_firstFault 47 = .ok (.aload_n 0, 1) := by decide +kernel
theorem dX3_firstFault_48 : decode cX3_firstFault 48 = .ok (.getfield 35, 3) := by decide +kernel
theorem dX3_firstFault_51 : decode cX3_firstFault 51 = .ok (.ireturn, 1) := by decide +kernel
theorem dX3_firstFault_52 : decode cX3_firstFault 52 = .ok (.iinc 1 1, 3) := by decide +kernel
theorem dX3_firstFault_55 : decode cX3_firstFault 55 = .ok (.goto (-49), 3) := by decide +kernel
theorem dX3_firstFault_58 : decode cX3_firstFault 58 = .ok (.aload_n 0, 1) := by decide +kernel
theorem dX3_firstFault_59 : decode cX3_firstFault 59 = .ok (.getfield 35, 3) := by decide +kernel
theorem dX3_firstFault_62 : decode cX3_firstFault 62 = .ok (.ireturn, 1) := by decide +kernel
theorem dX3_readsOrder_0 : decode cX3_readsOrder 0 = .ok (.aload_n 0, 1) := by decide +kernel
theorem dX3_readsOrder_1 : decode cX3_readsOrder 1 = .ok (.aload_n 0, 1) := by decide +kernel
theorem dX3_readsOrder_2 : decode cX3_readsOrder 2 = .ok (.invokevirtual 49, 3) := by decide +kernel
theorem dX3_readsOrder_5 : decode cX3_readsOrder 5 = .ok (.putfield 53, 3) := by decide +kernel
theorem dX3_readsOrder_8 : decode cX3_readsOrder 8 = .ok (.aload_n 0, 1) := by decide +kernel
theorem dX3_readsOrder_9 : decode cX3_readsOrder 9 = .ok (.iconst 0, 1) := by decide +kernel
theorem dX3_readsOrder_10 : decode cX3_readsOrder 10 = .ok (.putfield 56, 3) := by decide +kernel
theorem dX3_readsOrder_13 : decode cX3_readsOrder 13 = .ok (.aload_n 0, 1) := by decide +kernel
theorem dX3_readsOrder_14 : decode cX3_readsOrder 14 = .ok (.getfield 53, 3) := by decide +kernel
theorem dX3_readsOrder_17 : decode cX3_readsOrder 17 = .ok (.lookupswitch 210 #[(102, 99), (111, 43), (115, 154), (116, 195)], 43) := by decide +kernel
theorem dX3_readsOrder_60 : decode cX3_readsOrder 60 = .ok (.aload_n 0, 1) := by decide +kernel
theorem dX3_readsOrder_61 : decode cX3_readsOrder 61 = .ok (.dup, 1) := by decide +kernel
theorem dX3_readsOrder_62 : decode cX3_readsOrder 62 = .ok (.getfield 35, 3) := by decide +kernel
theorem dX3_readsOrder_65 : decode cX3_readsOrder 65 = .ok (.iconst 1, 1) := by decide +kernel
theorem dX3_readsOrder_66 : decode cX3_readsOrder 66 = .ok (.iadd, 1) := by decide +kernel
theorem dX3_readsOrder_67 : decode cX3_readsOrder 67 = .ok (.putfield 35, 3) := by decide +kernel
theorem dX3_readsOrder_70 : decode cX3_readsOrder 70 = .ok (.aload_n 0, 1) := by decide +kernel
theorem dX3_readsOrder_71 : decode cX3_readsOrder 71 = .ok (.invokevirtual 59, 3) := by decide +kernel
theorem dX3_readsOrder_74 : decode cX3_readsOrder 74 = .ok (.ifCond .eq 40, 3) := by decide +kernel
theorem dX3_readsOrder_77 : decode cX3_readsOrder 77 = .ok (.aload_n 0, 1) := by decide +kernel
theorem dX3_readsOrder_78 : decode cX3_readsOrder 78 = .ok (.bipush 58, 2) := by decide +kernel
theorem dX3_readsOrder_80 : decode cX3_readsOrder 80 = .ok (.invokevirtual 45, 3) := by decide +kernel
theorem dX3_readsOrder_83 : decode cX3_readsOrder 83 = .ok (.ifCond .eq 31, 3) := by decide +kernel
theorem dX3_readsOrder_86 : decode cX3_readsOrder 86 = .ok (.aload_n 0, 1) := by decide +kernel
theorem dX3_readsOrder_87 : decode cX3_readsOrder 87 = .ok (.invokevirtual 59, 3) := by decide +kernel
theorem dX3_readsOrder_90 : decode cX3_readsOrder 90 = .ok (.ifCond .eq 24, 3) := by decide +kernel
theorem dX3_readsOrder_93 : decode cX3_readsOrder 93 = .ok (.aload_n 0, 1) := by decide +kernel
theorem dX3_readsOrder_94 : decode cX3_readsOrder 94 = .ok (.bipush 33, 2) := by decide +kernel
theorem dX3_readsOrder_96 : decode cX3_readsOrder 96 = .ok (.invokevirtual 45, 3) := by decide +kernel
theorem dX3_readsOrder_99 : decode cX3_readsOrder 99 = .ok (.ifCond .eq 15, 3) := by decide +kernel
theorem dX3_readsOrder_102 : decode cX3_readsOrder 102 = .ok (.aload_n 0, 1) := by decide +kernel
theorem dX3_readsOrder_103 : decode cX3_readsOrder 103 = .ok (.iconst 3, 1) := by decide +kernel
theorem dX3_readsOrder_104 : decode cX3_readsOrder 104 = .ok (.invokevirtual 62, 3) := by decide +kernel
theorem dX3_readsOrder_107 : decode cX3_readsOrder 107 = .ok (.ifCond .eq 7, 3) := by decide +kernel
theorem dX3_readsOrder_110 : decode cX3_readsOrder 110 = .ok (.iconst 1, 1) := by decide +kernel
theorem dX3_readsOrder_111 : decode cX3_readsOrder 111 = .ok (.goto 4, 3) := by decide +kernel
theorem dX3_readsOrder_114 : decode cX3_readsOrder 114 = .ok (.iconst 0, 1) := by decide +kernel
theorem dX3_readsOrder_115 : decode cX3_readsOrder 115 = .ok (.ireturn, 1) := by decide +kernel
theorem dX3_readsOrder_116 : decode cX3_readsOrder 116 = .ok (.aload_n 0, 1) := by decide +kernel
theorem dX3_readsOrder_117 : decode cX3_readsOrder 117 = .ok (.dup, 1) := by decide +kernel
theorem dX3_readsOrder_118 : decode cX3_readsOrder 118 = .ok (.getfield 35, 3) := by decide +kernel
theorem dX3_readsOrder_121 : decode cX3_readsOrder 121 = .ok (.iconst 1, 1) := by decide +kernel
theorem dX3_readsOrder_122 : decode cX3_readsOrder 122 = .ok (.iadd, 1) := by decide +kernel
theorem dX3_readsOrder_123 : decode cX3_readsOrder 123 = .ok (.putfield 35, 3) := by decide +kernel
theorem dX3_readsOrder_126 : decode cX3_readsOrder 126 = .ok (.aload_n 0, 1) := by decide +kernel
theorem dX3_readsOrder_127 : decode cX3_readsOrder 127 = .ok (.invokevirtual 59, 3) := by decide +kernel
theorem dX3_readsOrder_130 : decode cX3_readsOrder 130 = .ok (.ifCond .eq 39, 3) := by decide +kernel
theorem dX3_readsOrder_133 : decode cX3_readsOrder 133 = .ok (.aload_n 0, 1) := by decide +kernel
theorem dX3_readsOrder_134 : decode cX3_readsOrder 134 = .ok (.bipush 44, 2) := by decide +kernel
theorem dX3_readsOrder_136 : decode cX3_readsOrder 136 = .ok (.invokevirtual 45, 3) := by decide +kernel
theorem dX3_readsOrder_139 : decode cX3_readsOrder 139 = .ok (.ifCond .eq 30, 3) := by decide +kernel
theorem dX3_readsOrder_142 : decode cX3_readsOrder 142 = .ok (.aload_n 0, 1) := by decide +kernel
theorem dX3_readsOrder_143 : decode cX3_readsOrder 143 = .ok (.invokevirtual 59, 3) := by decide +kernel
theorem dX3_readsOrder_146 : decode cX3_readsOrder 146 = .ok (.ifCond .eq 23, 3) := by decide +kernel
theorem dX3_readsOrder_149 : decode cX3_readsOrder 149 = .ok (.aload_n 0, 1) := by decide +kernel
theorem dX3_readsOrder_150 : decode cX3_readsOrder 150 = .ok (.bipush 44, 2) := by decide +kernel
theorem dX3_readsOrder_152 : decode cX3_readsOrder 152 = .ok (.invokevirtual 45, 3) := by decide +kernel
theorem dX3_readsOrder_155 : decode cX3_readsOrder 155 = .ok (.ifCond .eq 14, 3) := by decide +kernel
theorem dX3_readsOrder_158 : decode cX3_readsOrder 158 = .ok (.aload_n 0, 1) := by decide +kernel
theorem dX3_readsOrder_159 : decode cX3_readsOrder 159 = .ok (.invokevirtual 59, 3) := by decide +kernel
theorem dX3_readsOrder_162 : decode cX3_readsOrder 162 = .ok (.ifCond .eq 7, 3) := by decide +kernel
theorem dX3_readsOrder_165 : decode cX3_readsOrder 165 = .ok (.iconst 1, 1) := by decide +kernel
theorem dX3_readsOrder_166 : decode cX3_readsOrder 166 = .ok (.goto 4, 3) := by decide +kernel
theorem dX3_readsOrder_169 : decode cX3_readsOrder 169 = .ok (.iconst 0, 1) := by decide +kernel
theorem dX3_readsOrder_170 : decode cX3_readsOrder 170 = .ok (.ireturn, 1) := by decide +kernel
theorem dX3_readsOrder_171 : decode cX3_readsOrder 171 = .ok (.aload_n 0, 1) := by decide +kernel
theorem dX3_readsOrder_172 : decode cX3_readsOrder 172 = .ok (.dup, 1) := by decide +kernel
theorem dX3_readsOrder_173 : decode cX3_readsOrder 173 = .ok (.getfield 35, 3) := by decide +kernel
theorem dX3_readsOrder_176 : decode cX3_readsOrder 176 = .ok (.iconst 1, 1) := by decide +kernel
theorem dX3_readsOrder_177 : decode cX3_readsOrder 177 = .ok (.iadd, 1) := by decide +kernel
theorem dX3_readsOrder_178 : decode cX3_readsOrder 178 = .ok (.putfield 35, 3) := by decide +kernel
theorem dX3_readsOrder_181 : decode cX3_readsOrder 181 = .ok (.aload_n 0, 1) := by decide +kernel
theorem dX3_readsOrder_182 : decode cX3_readsOrder 182 = .ok (.bipush 7, 2) := by decide +kernel
theorem dX3_readsOrder_184 : decode cX3_readsOrder 184 = .ok (.invokevirtual 62, 3) := by decide +kernel
theorem dX3_readsOrder_187 : decode cX3_readsOrder 187 = .ok (.ifCond .eq 23, 3) := by decide +kernel
theorem dX3_readsOrder_190 : decode cX3_readsOrder 190 = .ok (.aload_n 0, 1) := by decide +kernel
theorem dX3_readsOrder_191 : decode cX3_readsOrder 191 = .ok (.bipush 42, 2) := by decide +kernel
theorem dX3_readsOrder_193 : decode cX3_readsOrder 193 = .ok (.invokevirtual 45, 3) := by decide +kernel
theorem dX3_readsOrder_196 : decode cX3_readsOrder 196 = .ok (.ifCond .eq 14, 3) := by decide +kernel
theorem dX3_readsOrder_199 : decode cX3_readsOrder 199 = .ok (.aload_n 0, 1) := by decide +kernel
theorem dX3_readsOrder_200 : decode cX3_readsOrder 200 = .ok (.invokevirtual 59, 3) := by decide +kernel
theorem dX3_readsOrder_203 : decode cX3_readsOrder 203 = .ok (.ifCond .eq 7, 3) := by decide +kernel
theorem dX3_readsOrder_206 : decode cX3_readsOrder 206 = .ok (.iconst 1, 1) := by decide +kernel
theorem dX3_readsOrder_207 : decode cX3_readsOrder 207 = .ok (.goto 4, 3) := by decide +kernel
theorem dX3_readsOrder_210 : decode cX3_readsOrder 210 = .ok (.iconst 0, 1) := by decide +kernel
theorem dX3_readsOrder_211 : decode cX3_readsOrder 211 = .ok (.ireturn, 1) := by decide +kernel
theorem dX3_readsOrder_212 : decode cX3_readsOrder 212 = .ok (.aload_n 0, 1) := by decide +kernel
theorem dX3_readsOrder_213 : decode cX3_readsOrder 213 = .ok (.dup, 1) := by decide +kernel
theorem dX3_readsOrder_214 : decode cX3_readsOrder 214 = .ok (.getfield 35, 3) := by decide +kernel
theorem dX3_readsOrder_217 : decode cX3_readsOrder 217 = .ok (.iconst 1, 1) := by decide +kernel
theorem dX3_readsOrder_218 : decode cX3_readsOrder 218 = .ok (.iadd, 1) := by decide +kernel
theorem dX3_readsOrder_219 : decode cX3_readsOrder 219 = .ok (.putfield 35, 3) := by decide +kernel
theorem dX3_readsOrder_222 : decode cX3_readsOrder 222 = .ok (.aload_n 0, 1) := by decide +kernel
theorem dX3_readsOrder_223 : decode cX3_readsOrder 223 = .ok (.invokevirtual 59, 3) := by decide +kernel
theorem dX3_readsOrder_226 : decode cX3_readsOrder 226 = .ok (.ireturn, 1) := by decide +kernel
theorem dX3_readsOrder_227 : decode cX3_readsOrder 227 = .ok (.iconst 0, 1) := by decide +kernel
theorem dX3_readsOrder_228 : decode cX3_readsOrder 228 = .ok (.ireturn, 1) := by decide +kernel
theorem dX3_here_0 : decode cX3_here 0 = .ok (.aload_n 0, 1) := by decide +kernel
theorem dX3_here_1 : decode cX3_here 1 = .ok (.getfield 35, 3) := by decide +kernel
theorem dX3_here_4 : decode cX3_here 4 = .ok (.aload_n 0, 1) := by decide +kernel
theorem dX3_here_5 : decode cX3_here 5 = .ok (.getfield 23, 3) := by decide +kernel
theorem dX3_here_8 : decode cX3_here 8 = .ok (.if_icmp .ge 24, 3) := by decide +kernel
theorem dX3_here_11 : decode cX3_here 11 = .ok (.aload_n 0, 1) := by decide +kernel
theorem dX3_here_12 : decode cX3_here 12 = .ok (.getfield 35, 3) := by decide +kernel
theorem dX3_here_15 : decode cX3_here 15 = .ok (.bipush 80, 2) := by decide +kernel
theorem dX3_here_17 : decode cX3_here 17 = .ok (.if_icmp .ge 15, 3) := by decide +kernel
theorem dX3_here_20 : decode cX3_here 20 = .ok (.aload_n 0, 1) := by decide +kernel
theorem dX3_here_21 : decode cX3_here 21 = .ok (.getfield 9, 3) := by decide +kernel
theorem dX3_here_24 : decode cX3_here 24 = .ok (.aload_n 0, 1) := by decide +kernel
theorem dX3_here_25 : decode cX3_here 25 = .ok (.getfield 35, 3) := by decide +kernel
theorem dX3_here_28 : decode cX3_here 28 = .ok (.caload, 1) := by decide +kernel
theorem dX3_here_29 : decode cX3_here 29 = .ok (.goto 4, 3) := by decide +kernel
theorem dX3_here_32 : decode cX3_here 32 = .ok (.iconst 0, 1) := by decide +kernel
theorem dX3_here_33 : decode cX3_here 33 = .ok (.ireturn, 1) := by decide +kernel
theorem dX3_reads_0 : decode cX3_reads 0 = .ok (.aload_n 0, 1) := by decide +kernel
theorem dX3_reads_1 : decode cX3_reads 1 = .ok (.invokevirtual 49, 3) := by decide +kernel
theorem dX3_reads_4 : decode cX3_reads 4 = .ok (.iload_n 1, 1) := by decide +kernel
theorem dX3_reads_5 : decode cX3_reads 5 = .ok (.if_icmp .eq 5, 3) := by decide +kernel
theorem dX3_reads_8 : decode cX3_reads 8 = .ok (.iconst 0, 1) := by decide +kernel
theorem dX3_reads_9 : decode cX3_reads 9 = .ok (.ireturn, 1) := by decide +kernel
theorem dX3_reads_10 : decode cX3_reads 10 = .ok (.aload_n 0, 1) := by decide +kernel
theorem dX3_reads_11 : decode cX3_reads 11 = .ok (.dup, 1) := by decide +kernel
theorem dX3_reads_12 : decode cX3_reads 12 = .ok (.getfield 35, 3) := by decide +kernel
theorem dX3_reads_15 : decode cX3_reads 15 = .ok (.iconst 1, 1) := by decide +kernel
theorem dX3_reads_16 : decode cX3_reads 16 = .ok (.iadd, 1) := by decide +kernel
theorem dX3_reads_17 : decode cX3_reads 17 = .ok (.putfield 35, 3) := by decide +kernel
theorem dX3_reads_20 : decode cX3_reads 20 = .ok (.iconst 1, 1) := by decide +kernel
theorem dX3_reads_21 : decode cX3_reads 21 = .ok (.ireturn, 1) := by decide +kernel
theorem dX3_readsDigit_0 : decode cX3_readsDigit 0 = .ok (.aload_n 0, 1) := by decide +kernel
theorem dX3_readsDigit_1 : decode cX3_readsDigit 1 = .ok (.invokevirtual 49, 3) := by decide +kernel
theorem dX3_readsDigit_4 : decode cX3_readsDigit 4 = .ok (.bipush 48, 2) := by decide +kernel
theorem dX3_readsDigit_6 : decode cX3_readsDigit 6 = .ok (.bipush 48, 2) := by decide +kernel
theorem dX3_readsDigit_8 : decode cX3_readsDigit 8 = .ok (.iload_n 1, 1) := by decide +kernel
theorem dX3_readsDigit_9 : decode cX3_readsDigit 9 = .ok (.iadd, 1) := by decide +kernel
theorem dX3_readsDigit_10 : decode cX3_readsDigit 10 = .ok (.invokestatic 31, 3) := by decide +kernel
theorem dX3_readsDigit_13 : decode cX3_readsDigit 13 = .ok (.ifCond .ne 5, 3) := by decide +kernel
theorem dX3_readsDigit_16 : decode cX3_readsDigit 16 = .ok (.iconst 0, 1) := by decide +kernel
theorem dX3_readsDigit_17 : decode cX3_readsDigit 17 = .ok (.ireturn, 1) := by decide +kernel
theorem dX3_readsDigit_18 : decode cX3_readsDigit 18 = .ok (.aload_n 0, 1) := by decide +kernel
theorem dX3_readsDigit_19 : decode cX3_readsDigit 19 = .ok (.aload_n 0, 1) := by decide +kernel
theorem dX3_readsDigit_20 : decode cX3_readsDigit 20 = .ok (.invokevirtual 49, 3) := by decide +kernel
theorem dX3_readsDigit_23 : decode cX3_readsDigit 23 = .ok (.bipush 48, 2) := by decide +kernel
theorem dX3_readsDigit_25 : decode cX3_readsDigit 25 = .ok (.isub, 1) := by decide +kernel
theorem dX3_readsDigit_26 : decode cX3_readsDigit 26 = .ok (.invokevirtual 65, 3) := by decide +kernel
theorem dX3_readsDigit_29 : decode cX3_readsDigit 29 = .ok (.aload_n 0, 1) := by decide +kernel
theorem dX3_readsDigit_30 : decode cX3_readsDigit 30 = .ok (.dup, 1) := by decide +kernel
theorem dX3_readsDigit_31 : decode cX3_readsDigit 31 = .ok (.getfield 35, 3) := by decide +kernel
theorem dX3_readsDigit_34 : decode cX3_readsDigit 34 = .ok (.iconst 1, 1) := by decide +kernel
theorem dX3_readsDigit_35 : decode cX3_readsDigit 35 = .ok (.iadd, 1) := by decide +kernel
theorem dX3_readsDigit_36 : decode cX3_readsDigit 36 = .ok (.putfield 35, 3) := by decide +kernel
theorem dX3_readsDigit_39 : decode cX3_readsDigit 39 = .ok (.iconst 1, 1) := by decide +kernel
theorem dX3_readsDigit_40 : decode cX3_readsDigit 40 = .ok (.ireturn, 1) := by decide +kernel
theorem dX3_readsNumber_0 : decode cX3_readsNumber 0 = .ok (.aload_n 0, 1) := by decide +kernel
theorem dX3_readsNumber_1 : decode cX3_readsNumber 1 = .ok (.invokevirtual 49, 3) := by decide +kernel
theorem dX3_readsNumber_4 : decode cX3_readsNumber 4 = .ok (.bipush 48, 2) := by decide +kernel
theorem dX3_readsNumber_6 : decode cX3_readsNumber 6 = .ok (.bipush 57, 2) := by decide +kernel
theorem dX3_readsNumber_8 : decode cX3_readsNumber 8 = .ok (.invokestatic 31, 3) := by decide +kernel
theorem dX3_readsNumber_11 : decode cX3_readsNumber 11 = .ok (.ifCond .ne 5, 3) := by decide +kernel
theorem dX3_readsNumber_14 : decode cX3_readsNumber 14 = .ok (.iconst 0, 1) := by decide +kernel
theorem dX3_readsNumber_15 : decode cX3_readsNumber 15 = .ok (.ireturn, 1) := by decide +kernel
theorem dX3_readsNumber_16 : decode cX3_readsNumber 16 = .ok (.aload_n 0, 1) := by decide +kernel
theorem dX3_readsNumber_17 : decode cX3_readsNumber 17 = .ok (.invokevirtual 49, 3) := by decide +kernel
theorem dX3_readsNumber_20 : decode cX3_readsNumber 20 = .ok (.bipush 48, 2) := by decide +kernel
theorem dX3_readsNumber_22 : decode cX3_readsNumber 22 = .ok (.isub, 1) := by decide +kernel
theorem dX3_readsNumber_23 : decode cX3_readsNumber 23 = .ok (.istore_n 1, 1) := by decide +kernel
theorem dX3_readsNumber_24 : decode cX3_readsNumber 24 = .ok (.aload_n 0, 1) := by decide +kernel
theorem dX3_readsNumber_25 : decode cX3_readsNumber 25 = .ok (.dup, 1) := by decide +kernel
theorem dX3_readsNumber_26 : decode cX3_readsNumber 26 = .ok (.getfield 35, 3) := by decide +kernel
theorem dX3_readsNumber_29 : decode cX3_readsNumber 29 = .ok (.iconst 1, 1) := by decide +kernel
theorem dX3_readsNumber_30 : decode cX3_readsNumber 30 = .ok (.iadd, 1) := by decide +kernel
theorem dX3_readsNumber_31 : decode cX3_readsNumber 31 = .ok (.putfield 35, 3) := by decide +kernel
theorem dX3_readsNumber_34 : decode cX3_readsNumber 34 = .ok (.iconst 0, 1) := by decide +kernel
theorem dX3_readsNumber_35 : decode cX3_readsNumber 35 = .ok (.istore_n 2, 1) := by decide +kernel
theorem dX3_readsNumber_36 : decode cX3_readsNumber 36 = .ok (.iload_n 2, 1) := by decide +kernel
theorem dX3_readsNumber_37 : decode cX3_readsNumber 37 = .ok (.iconst 2, 1) := by decide +kernel
theorem dX3_readsNumber_38 : decode cX3_readsNumber 38 = .ok (.if_icmp .ge 50, 3) := by decide +kernel
theorem dX3_readsNumber_41 : decode cX3_readsNumber 41 = .ok (.iload_n 1, 1) := by decide +kernel
theorem dX3_readsNumber_42 : decode cX3_readsNumber 42 = .ok (.ifCond .le 46, 3) := by decide +kernel
theorem dX3_readsNumber_45 : decode cX3_readsNumber 45 = .ok (.aload_n 0, 1) := by decide +kernel
theorem dX3_readsNumber_46 : decode cX3_readsNumber 46 = .ok (.invokevirtual 49, 3) := by decide +kernel
theorem dX3_readsNumber_49 : decode cX3_readsNumber 49 = .ok (.bipush 48, 2) := by decide +kernel
theorem dX3_readsNumber_51 : decode cX3_readsNumber 51 = .ok (.bipush 57, 2) := by decide +kernel
theorem dX3_readsNumber_53 : decode cX3_readsNumber 53 = .ok (.invokestatic 31, 3) := by decide +kernel
theorem dX3_readsNumber_56 : decode cX3_readsNumber 56 = .ok (.ifCond .eq 32, 3) := by decide +kernel
theorem dX3_readsNumber_59 : decode cX3_readsNumber 59 = .ok (.iload_n 1, 1) := by decide +kernel
theorem dX3_readsNumber_60 : decode cX3_readsNumber 60 = .ok (.bipush 10, 2) := by decide +kernel
theorem dX3_readsNumber_62 : decode cX3_readsNumber 62 = .ok (.imul, 1) := by decide +kernel
theorem dX3_readsNumber_63 : decode cX3_readsNumber 63 = .ok (.aload_n 0, 1) := by decide +kernel
theorem dX3_readsNumber_64 : decode cX3_readsNumber 64 = .ok (.invokevirtual 49, 3) := by decide +kernel
theorem dX3_readsNumber_67 : decode cX3_readsNumber 67 = .ok (.iadd, 1) := by decide +kernel
theorem dX3_readsNumber_68 : decode cX3_readsNumber 68 = .ok (.bipush 48, 2) := by decide +kernel
theorem dX3_readsNumber_70 : decode cX3_readsNumber 70 = .ok (.isub, 1) := by decide +kernel
theorem dX3_readsNumber_71 : decode cX3_readsNumber 71 = .ok (.istore_n 1, 1) := by decide +kernel
theorem dX3_readsNumber_72 : decode cX3_readsNumber 72 = .ok (.aload_n 0, 1) := by decide +kernel
theorem dX3_readsNumber_73 : decode cX3_readsNumber 73 = .ok (.dup, 1) := by decide +kernel
theorem dX3_readsNumber_74 : decode cX3_readsNumber 74 = .ok (.getfield 35, 3) := by decide +kernel
theorem dX3_readsNumber_77 : decode cX3_readsNumber 77 = .ok (.iconst 1, 1) := by decide +kernel
theorem dX3_readsNumber_78 : decode cX3_readsNumber 78 = .ok (.iadd, 1) := by decide +kernel
theorem dX3_readsNumber_79 : decode cX3_readsNumber 79 = .ok (.putfield 35, 3) := by decide +kernel
theorem dX3_readsNumber_82 : decode cX3_readsNumber 82 = .ok (.iinc 2 1, 3) := by decide +kernel
theorem dX3_readsNumber_85 : decode cX3_readsNumber 85 = .ok (.goto (-49), 3) := by decide +kernel
theorem dX3_readsNumber_88 : decode cX3_readsNumber 88 = .ok (.aload_n 0, 1) := by decide +kernel
theorem dX3_readsNumber_89 : decode cX3_readsNumber 89 = .ok (.iload_n 1, 1) := by decide +kernel
theorem dX3_readsNumber_90 : decode cX3_readsNumber 90 = .ok (.invokevirtual 65, 3) := by decide +kernel
theorem dX3_readsNumber_93 : decode cX3_readsNumber 93 = .ok (.iconst 1, 1) := by decide +kernel
theorem dX3_readsNumber_94 : decode cX3_readsNumber 94 = .ok (.ireturn, 1) := by decide +kernel
theorem dX3_hold_0 : decode cX3_hold 0 = .ok (.aload_n 0, 1) := by decide +kernel
theorem dX3_hold_1 : decode cX3_hold 1 = .ok (.getfield 56, 3) := by decide +kernel
theorem dX3_hold_4 : decode cX3_hold 4 = .ok (.iconst 3, 1) := by decide +kernel
theorem dX3_hold_5 : decode cX3_hold 5 = .ok (.if_icmp .ge 23, 3) := by decide +kernel
theorem dX3_hold_8 : decode cX3_hold 8 = .ok (.aload_n 0, 1) := by decide +kernel
theorem dX3_hold_9 : decode cX3_hold 9 = .ok (.getfield 15, 3) := by decide +kernel
theorem dX3_hold_12 : decode cX3_hold 12 = .ok (.aload_n 0, 1) := by decide +kernel
theorem dX3_hold_13 : decode cX3_hold 13 = .ok (.getfield 56, 3) := by decide +kernel
theorem dX3_hold_16 : decode cX3_hold 16 = .ok (.iload_n 1, 1) := by decide +kernel
theorem dX3_hold_17 : decode cX3_hold 17 = .ok (.iastore, 1) := by decide +kernel
theorem dX3_hold_18 : decode cX3_hold 18 = .ok (.aload_n 0, 1) := by decide +kernel
theorem dX3_hold_19 : decode cX3_hold 19 = .ok (.dup, 1) := by decide +kernel
theorem dX3_hold_20 : decode cX3_hold 20 = .ok (.getfield 56, 3) := by decide +kernel
theorem dX3_hold_23 : decode cX3_hold 23 = .ok (.iconst 1, 1) := by decide +kernel
theorem dX3_hold_24 : decode cX3_hold 24 = .ok (.iadd, 1) := by decide +kernel
theorem dX3_hold_25 : decode cX3_hold 25 = .ok (.putfield 56, 3) := by decide +kernel
theorem dX3_hold_28 : decode cX3_hold 28 = .ok (.return_, 1) := by decide +kernel
theorem dX4_init_0 : decode cX4_init 0 = .ok (.aload_n 0, 1) := by decide +kernel
theorem dX4_init_1 : decode cX4_init 1 = .ok (.invokespecial 3, 3) := by decide +kernel
theorem dX4_init_4 : decode cX4_init 4 = .ok (.aload_n 0, 1) := by decide +kernel
theorem dX4_init_5 : decode cX4_init 5 = .ok (.bipush 20, 2) := by decide +kernel
theorem dX4_init_7 : decode cX4_init 7 = .ok (.newarray .int, 2) := by decide +kernel
theorem dX4_init_9 : decode cX4_init 9 = .ok (.putfield 9, 3) := by decide +kernel
theorem dX4_init_12 : decode cX4_init 12 = .ok (.aload_n 0, 1) := by decide +kernel
theorem dX4_init_13 : decode cX4_init 13 = .ok (.bipush 20, 2) := by decide +kernel
theorem dX4_init_15 : decode cX4_init 15 = .ok (.newarray .int, 2) := by decide +kernel
theorem dX4_init_17 : decode cX4_init 17 = .ok (.putfield 15, 3) := by decide +kernel
theorem dX4_init_20 : decode cX4_init 20 = .ok (.aload_n 0, 1) := by decide +kernel
theorem dX4_init_21 : decode cX4_init 21 = .ok (.bipush 20, 2) := by decide +kernel
theorem dX4_init_23 : decode cX4_init 23 = .ok (.newarray .int, 2) := by decide +kernel
theorem dX4_init_25 : decode cX4_init 25 = .ok (.putfield 18, 3) := by decide +kernel
theorem dX4_init_28 : decode cX4_init 28 = .ok (.return_, 1) := by decide +kernel
theorem dX4_copyFrom_0 : decode cX4_copyFrom 0 = .ok (.aload_n 1, 1) := by decide +kernel
theorem dX4_copyFrom_1 : decode cX4_copyFrom 1 = .ok (.getfield 9, 3) := by decide +kernel
theorem dX4_copyFrom_4 : decode cX4_copyFrom 4 = .ok (.iconst 0, 1) := by decide +kernel
theorem dX4_copyFrom_5 : decode cX4_copyFrom 5 = .ok (.aload_n 0, 1) := by decide +kernel
theorem dX4_copyFrom_6 : decode cX4_copyFrom 6 = .ok (.getfield 9, 3) := by decide +kernel
theorem dX4_copyFrom_9 : decode cX4_copyFrom 9 = .ok (.iconst 0, 1) := by decide +kernel
theorem dX4_copyFrom_10 : decode cX4_copyFrom 10 = .ok (.bipush 20, 2) := by decide +kernel
theorem dX4_copyFrom_12 : decode cX4_copyFrom 12 = .ok (.invokestatic 21, 3) := by decide +kernel
theorem dX4_copyFrom_15 : decode cX4_copyFrom 15 = .ok (.aload_n 1, 1) := by decide +kernel
theorem dX4_copyFrom_16 : decode cX4_copyFrom 16 = .ok (.getfield 15, 3) := by decide +kernel
theorem dX4_copyFrom_19 : decode cX4_copyFrom 19 = .ok (.iconst 0, 1) := by decide +kernel
theorem dX4_copyFrom_20 : decode cX4_copyFrom 20 = .ok (.aload_n 0, 1) := by decide +kernel
theorem dX4_copyFrom_21 : decode cX4_copyFrom 21 = .ok (.getfield 15, 3) := by decide +kernel
theorem dX4_copyFrom_24 : decode cX4_copyFrom 24 = .ok (.iconst 0, 1) := by decide +kernel
theorem dX4_copyFrom_25 : decode cX4_copyFrom 25 = .ok (.bipush 20, 2) := by decide +kernel
theorem dX4_copyFrom_27 : decode cX4_copyFrom 27 = .ok (.invokestatic 21, 3) := by decide +kernel
theorem dX4_copyFrom_30 : decode cX4_copyFrom 30 = .ok (.aload_n 1, 1) := by decide +kernel
theorem dX4_copyFrom_31 : decode cX4_copyFrom 31 = .ok (.getfield 18, 3) := by decide +kernel
theorem dX4_copyFrom_34 : decode cX4_copyFrom 34 = .ok (.iconst 0, 1) := by decide +kernel
theorem dX4_copyFrom_35 : decode cX4_copyFrom 35 = .ok (.aload_n 0, 1) := by decide +kernel
theorem dX4_copyFrom_36 : decode cX4_copyFrom 36 = .ok (.getfield 18, 3) := by decide +kernel
theorem dX4_copyFrom_39 : decode cX4_copyFrom 39 = .ok (.iconst 0, 1) := by decide +kernel
theorem dX4_copyFrom_40 : decode cX4_copyFrom 40 = .ok (.bipush 20, 2) := by decide +kernel
theorem dX4_copyFrom_42 : decode cX4_copyFrom 42 = .ok (.invokestatic 21, 3) := by decide +kernel
theorem dX4_copyFrom_45 : decode cX4_copyFrom 45 = .ok (.aload_n 0, 1) := by decide +kernel
theorem dX4_copyFrom_46 : decode cX4_copyFrom 46 = .ok (.aload_n 1, 1) := by decide +kernel
theorem dX4_copyFrom_47 : decode cX4_copyFrom 47 = .ok (.getfield 27, 3) := by decide +kernel
theorem dX4_copyFrom_50 : decode cX4_copyFrom 50 = .ok (.putfield 27, 3) := by decide +kernel
theorem dX4_copyFrom_53 : decode cX4_copyFrom 53 = .ok (.return_, 1) := by decide +kernel
theorem dX4_take_0 : decode cX4_take 0 = .ok (.iload_n 1, 1) := by decide +kernel
theorem dX4_take_1 : decode cX4_take 1 = .ok (.iconst 0, 1) := by decide +kernel
theorem dX4_take_2 : decode cX4_take 2 = .ok (.bipush 99, 2) := by decide +kernel
theorem dX4_take_4 : decode cX4_take 4 = .ok (.invokestatic 31, 3) := by decide +kernel
theorem dX4_take_7 : decode cX4_take 7 = .ok (.ifCond .eq 23, 3) := by decide +kernel
theorem dX4_take_10 : decode cX4_take 10 = .ok (.iload_n 2, 1) := by decide +kernel
theorem dX4_take_11 : decode cX4_take 11 = .ok (.iconst 0, 1) := by decide +kernel
theorem dX4_take_12 : decode cX4_take 12 = .ok (.sipush 255, 3) := by decide +kernel
theorem dX4_take_15 : decode cX4_take 15 = .ok (.invokestatic 31, 3) := by decide +kernel
theorem dX4_take_18 : decode cX4_take 18 = .ok (.ifCond .eq 12, 3) := by decide +kernel
theorem dX4_take_21 : decode cX4_take 21 = .ok (.iload_n 3, 1) := by decide +kernel
theorem dX4_take_22 : decode cX4_take 22 = .ok (.iconst 0, 1) := by decide +kernel
theorem dX4_take_23 : decode cX4_take 23 = .ok (.iconst 3, 1) := by decide +kernel
theorem dX4_take_24 : decode cX4_take 24 = .ok (.invokestatic 31, 3) := by decide +kernel
theorem dX4_take_27 : decode cX4_take 27 = .ok (.ifCond .ne 6, 3) := by decide +kernel
theorem dX4_take_30 : decode cX4_take 30 = .ok (.bipush (-2), 2) := by decide +kernel
theorem dX4_take_32 : decode cX4_take 32 = .ok (.ireturn, 1) := by decide +kernel
theorem dX4_take_33 : decode cX4_take 33 = .ok (.aload_n 0, 1) := by decide +kernel
theorem dX4_take_34 : decode cX4_take 34 = .ok (.getfield 27, 3) := by decide +kernel
theorem dX4_take_37 : decode cX4_take 37 = .ok (.bipush 20, 2) := by decide +kernel
theorem dX4_take_39 : decode cX4_take 39 = .ok (.if_icmp .lt 6, 3) := by decide +kernel
theorem dX4_take_42 : decode cX4_take 42 = .ok (.bipush (-4), 2) := by decide +kernel
theorem dX4_take_44 : decode cX4_take 44 = .ok (.ireturn, 1) := by decide +kernel
theorem dX4_take_45 : decode cX4_take 45 = .ok (.aload_n 0, 1) := by decide +kernel
theorem dX4_take_46 : decode cX4_take 46 = .ok (.getfield 27, 3) := by decide +kernel
theorem dX4_take_49 : decode cX4_take 49 = .ok (.istore 4, 2) := by decide +kernel
theorem dX4_take_51 : decode cX4_take 51 = .ok (.iload 4, 2) := by decide +kernel
theorem dX4_take_53 : decode cX4_take 53 = .ok (.ifCond .le 55, 3) := by decide +kernel
theorem dX4_take_56 : decode cX4_take 56 = .ok (.aload_n 0, 1) := by decide +kernel
theorem dX4_take_57 : decode cX4_take 57 = .ok (.getfield 18, 3) := by decide +kernel
theorem dX4_take_60 : decode cX4_take 60 = .ok (.iload 4, 2) := by decide +kernel
theorem dX4_take_62 : decode cX4_take 62 = .ok (.iconst 1, 1) := by decide +kernel
theorem dX4_take_63 : decode cX4_take 63 = .ok (.isub, 1) := by decide +kernel
theorem dX4_take_64 : decode cX4_take 64 = .ok (.iaload, 1) := by decide +kernel
theorem dX4_take_65 : decode cX4_take 65 = .ok (.iload_n 3, 1) := by decide +kernel
theorem dX4_take_66 : decode cX4_take 66 = .ok (.if_icmp .ge 42, 3) := by decide +kernel
theorem dX4_take_69 : decode cX4_take 69 = .ok (.aload_n 0, 1) := by decide +kernel
theorem dX4_take_70 : decode cX4_take 70 = .ok (.iload 4, 2) := by decide +kernel
theorem dX4_take_72 : decode cX4_take 72 = .ok (.aload_n 0, 1) := by decide +kernel
theorem dX4_take_73 : decode cX4_take 73 = .ok (.getfield 9, 3) := by decide +kernel
theorem dX4_take_76 : decode cX4_take 76 = .ok (.iload 4, 2) := by decide +kernel
theorem dX4_take_78 : decode cX4_take 78 = .ok (.iconst 1, 1) := by decide +kernel
theorem dX4_take_79 : decode cX4_take 79 = .ok (.isub, 1) := by decide +kernel
theorem dX4_take_80 : decode cX4_take 80 = .ok (.iaload, 1) := by decide +kernel
theorem dX4_take_81 : decode cX4_take 81 = .ok (.aload_n 0, 1) := by decide +kernel
theorem dX4_take_82 : decode cX4_take 82 = .ok (.getfield 15, 3) := by decide +kernel
theorem dX4_take_85 : decode cX4_take 85 = .ok (.iload 4, 2) := by decide +kernel
theorem dX4_take_87 : decode cX4_take 87 = .ok (.iconst 1, 1) := by decide +kernel
theorem dX4_take_88 : decode cX4_take 88 = .ok (.isub, 1) := by decide +kernel
theorem dX4_take_89 : decode cX4_take 89 = .ok (.iaload, 1) := by decide +kernel
theorem dX4_take_90 : decode cX4_take 90 = .ok (.aload_n 0, 1) := by decide +kernel
theorem dX4_take_91 : decode cX4_take 91 = .ok (.getfield 18, 3) := by decide +kernel
theorem dX4_take_94 : decode cX4_take 94 = .ok (.iload 4, 2) := by decide +kernel
theorem dX4_take_96 : decode cX4_take 96 = .ok (.iconst 1, 1) := by decide +kernel
theorem dX4_take_97 : decode cX4_take 97 = .ok (.isub, 1) := by decide +kernel
theorem dX4_take_98 : decode cX4_take 98 = .ok (.iaload, 1) := by decide +kernel
theorem dX4_take_99 : decode cX4_take 99 = .ok (.invokevirtual 35, 3) := by decide +kernel
theorem dX4_take_102 : decode cX4_take 102 = .ok (.iinc 4 (-1), 3) := by decide +kernel
theorem dX4_take_105 : decode cX4_take 105 = .ok (.goto (-54), 3) := by decide +kernel
theorem dX4_take_108 : decode cX4_take 108 = .ok (.aload_n 0, 1) := by decide +kernel
theorem dX4_take_109 : decode cX4_take 109 = .ok (.iload 4, 2) := by decide +kernel
theorem dX4_take_111 : decode cX4_take 111 = .ok (.iload_n 1, 1) := by decide +kernel
theorem dX4_take_112 : decode cX4_take 112 = .ok (.iload_n 2, 1) := by decide +kernel
theorem dX4_take_113 : decode cX4_take 113 = .ok (.iload_n 3, 1) := by decide +kernel
theorem dX4_take_114 : decode cX4_take 114 = .ok (.invokevirtual 35, 3) := by decide +kernel
theorem dX4_take_117 : decode cX4_take 117 = .ok (.aload_n 0, 1) := by decide +kernel
theorem dX4_take_118 : decode cX4_take 118 = .ok (.dup, 1) := by decide +kernel
theorem dX4_take_119 : decode cX4_take 119 = .ok (.getfield 27, 3) := by decide +kernel
theorem dX4_take_122 : decode cX4_take 122 = .ok (.iconst 1, 1) := by decide +kernel
theorem dX4_take_123 : decode cX4_take 123 = .ok (.iadd, 1) := by decide +kernel
theorem dX4_take_124 : decode cX4_take 124 = .ok (.putfield 27, 3) := by decide +kernel
theorem dX4_take_127 : decode cX4_take 127 = .ok (.aload_n 0, 1) := by decide +kernel
theorem dX4_take_128 : decode cX4_take 128 = .ok (.getfield 27, 3) := by decide +kernel
theorem dX4_take_131 : decode cX4_take 131 = .ok (.ireturn, 1) := by decide +kernel
theorem dX4_setRow_0 : decode cX4_setRow 0 = .ok (.aload_n 0, 1) := by decide +kernel
theorem dX4_setRow_1 : decode cX4_setRow 1 = .ok (.getfield 9, 3) := by decide +kernel
theorem dX4_setRow_4 : decode cX4_setRow 4 = .ok (.iload_n 1, 1) := by decide +kernel
theorem dX4_setRow_5 : decode cX4_setRow 5 = .ok (.iload_n 2, 1) := by decide +kernel
theorem dX4_setRow_6 : decode cX4_setRow 6 = .ok (.iastore, 1) := by decide +kernel
theorem dX4_setRow_7 : decode cX4_setRow 7 = .ok (.aload_n 0, 1) := by decide +kernel
theorem dX4_setRow_8 : decode cX4_setRow 8 = .ok (.getfield 15, 3) := by decide +kernel
theorem dX4_setRow_11 : decode cX4_setRow 11 = .ok (.iload_n 1, 1) := by decide +kernel
theorem dX4_setRow_12 : decode cX4_setRow 12 = .ok (.iload_n 3, 1) := by decide +kernel
theorem dX4_setRow_13 : decode cX4_setRow 13 = .ok (.iastore, 1) := by decide +kernel
theorem dX4_setRow_14 : decode cX4_setRow 14 = .ok (.aload_n 0, 1) := by decide +kernel
theorem dX4_setRow_15 : decode cX4_setRow 15 = .ok (.getfield 18, 3) := by decide +kernel
theorem dX4_setRow_18 : decode cX4_setRow 18 = .ok (.iload_n 1, 1) := by decide +kernel
theorem dX4_setRow_19 : decode cX4_setRow 19 = .ok (.iload 4, 2) := by decide +kernel
theorem dX4_setRow_21 : decode cX4_setRow 21 = .ok (.iastore, 1) := by decide +kernel
theorem dX4_setRow_22 : decode cX4_setRow 22 = .ok (.return_, 1) := by decide +kernel
theorem dX4_dropFirst_0 : decode cX4_dropFirst 0 = .ok (.iconst 1, 1) := by decide +kernel
theorem dX4_dropFirst_1 : decode cX4_dropFirst 1 = .ok (.istore_n 1, 1) := by decide +kernel
theorem dX4_dropFirst_2 : decode cX4_dropFirst 2 = .ok (.iload_n 1, 1) := by decide +kernel
theorem dX4_dropFirst_3 : decode cX4_dropFirst 3 = .ok (.aload_n 0, 1) := by decide +kernel
theorem dX4_dropFirst_4 : decode cX4_dropFirst 4 = .ok (.getfield 27, 3) := by decide +kernel
theorem dX4_dropFirst_7 : decode cX4_dropFirst 7 = .ok (.if_icmp .ge 34, 3) := by decide +kernel
theorem dX4_dropFirst_10 : decode cX4_dropFirst 10 = .ok (.aload_n 0, 1) := by decide +kernel
theorem dX4_dropFirst_11 : decode cX4_dropFirst 11 = .ok (.iload_n 1, 1) := by decide +kernel
theorem dX4_dropFirst_12 : decode cX4_dropFirst 12 = .ok (.iconst 1, 1) := by decide +kernel
theorem dX4_dropFirst_13 : decode cX4_dropFirst 13 = .ok (.isub, 1) := by decide +kernel
theorem dX4_dropFirst_14 : decode cX4_dropFirst 14 = .ok (.aload_n 0, 1) := by decide +kernel
theorem dX4_dropFirst_15 : decode cX4_dropFirst 15 = .ok (.getfield 9, 3) := by decide +kernel
theorem dX4_dropFirst_18 : decode cX4_dropFirst 18 = .ok (.iload_n 1, 1) := by decide +kernel
theorem dX4_dropFirst_19 : decode cX4_dropFirst 19 = .ok (.iaload, 1) := by decide +kernel
theorem dX4_dropFirst_20 : decode cX4_dropFirst 20 = .ok (.aload_n 0, 1) := by decide +kernel
theorem dX4_dropFirst_21 : decode cX4_dropFirst 21 = .ok (.getfield 15, 3) := by decide +kernel
theorem dX4_dropFirst_24 : decode cX4_dropFirst 24 = .ok (.iload_n 1, 1) := by decide +kernel
theorem dX4_dropFirst_25 : decode cX4_dropFirst 25 = .ok (.iaload, 1) := by decide +kernel
theorem dX4_dropFirst_26 : decode cX4_dropFirst 26 = .ok (.aload_n 0, 1) := by decide +kernel
theorem dX4_dropFirst_27 : decode cX4_dropFirst 27 = .ok (.getfield 18, 3) := by decide +kernel
theorem dX4_dropFirst_30 : decode cX4_dropFirst 30 = .ok (.iload_n 1, 1) := by decide +kernel
theorem dX4_dropFirst_31 : decode cX4_dropFirst 31 = .ok (.iaload, 1) := by decide +kernel
theorem dX4_dropFirst_32 : decode cX4_dropFirst 32 = .ok (.invokevirtual 35, 3) := by decide +kernel
theorem dX4_dropFirst_35 : decode cX4_dropFirst 35 = .ok (.iinc 1 1, 3) := by decide +kernel
theorem dX4_dropFirst_38 : decode cX4_dropFirst 38 = .ok (.goto (-36), 3) := by decide +kernel
theorem dX4_dropFirst_41 : decode cX4_dropFirst 41 = .ok (.aload_n 0, 1) := by decide +kernel
theorem dX4_dropFirst_42 : decode cX4_dropFirst 42 = .ok (.iconst 0, 1) := by decide +kernel
theorem dX4_dropFirst_43 : decode cX4_dropFirst 43 = .ok (.aload_n 0, 1) := by decide +kernel
theorem dX4_dropFirst_44 : decode cX4_dropFirst 44 = .ok (.getfield 27, 3) := by decide +kernel
theorem dX4_dropFirst_47 : decode cX4_dropFirst 47 = .ok (.iconst 1, 1) := by decide +kernel
theorem dX4_dropFirst_48 : decode cX4_dropFirst 48 = .ok (.isub, 1) := by decide +kernel
theorem dX4_dropFirst_49 : decode cX4_dropFirst 49 = .ok (.invokestatic 39, 3) := by decide +kernel
theorem dX4_dropFirst_52 : decode cX4_dropFirst 52 = .ok (.putfield 27, 3) := by decide +kernel
theorem dX4_dropFirst_55 : decode cX4_dropFirst 55 = .ok (.return_, 1) := by decide +kernel
theorem dX4_told_0 : decode cX4_told 0 = .ok (.iload_n 1, 1) := by decide +kernel
theorem dX4_told_1 : decode cX4_told 1 = .ok (.iconst 0, 1) := by decide +kernel
theorem dX4_told_2 : decode cX4_told 2 = .ok (.aload_n 0, 1) := by decide +kernel
theorem dX4_told_3 : decode cX4_told 3 = .ok (.getfield 27, 3) := by decide +kernel
theorem dX4_told_6 : decode cX4_told 6 = .ok (.iconst 1, 1) := by decide +kernel
theorem dX4_told_7 : decode cX4_told 7 = .ok (.isub, 1) := by decide +kernel
theorem dX4_told_8 : decode cX4_told 8 = .ok (.invokestatic 31, 3) := by decide +kernel
theorem dX4_told_11 : decode cX4_told 11 = .ok (.ifCond .ne 5, 3) := by decide +kernel
theorem dX4_told_14 : decode cX4_told 14 = .ok (.iconst (-1), 1) := by decide +kernel
theorem dX4_told_15 : decode cX4_told 15 = .ok (.ireturn, 1) := by decide +kernel
theorem dX4_told_16 : decode cX4_told 16 = .ok (.iload_n 2, 1) := by decide +kernel
theorem dX4_told_17 : decode cX4_told 17 = .ok (.tableswitch 48 0 2 #[27, 34, 41], 27) := by decide +kernel
theorem dX4_told_44 : decode cX4_told 44 = .ok (.aload_n 0, 1) := by decide +kernel
theorem dX4_told_45 : decode cX4_told 45 = .ok (.getfield 9, 3) := by decide +kernel
theorem dX4_told_48 : decode cX4_told 48 = .ok (.iload_n 1, 1) := by decide +kernel
theorem dX4_told_49 : decode cX4_told 49 = .ok (.iaload, 1) := by decide +kernel
theorem dX4_told_50 : decode cX4_told 50 = .ok (.ireturn, 1) := by decide +kernel
theorem dX4_told_51 : decode cX4_told 51 = .ok (.aload_n 0, 1) := by decide +kernel
theorem dX4_told_52 : decode cX4_told 52 = .ok (.getfield 15, 3) := by decide +kernel
theorem dX4_told_55 : decode cX4_told 55 = .ok (.iload_n 1, 1) := by decide +kernel
theorem dX4_told_56 : decode cX4_told 56 = .ok (.iaload, 1) := by decide +kernel
theorem dX4_told_57 : decode cX4_told 57 = .ok (.ireturn, 1) := by decide +kernel
theorem dX4_told_58 : decode cX4_told 58 = .ok (.aload_n 0, 1) := by decide +kernel
theorem dX4_told_59 : decode cX4_told 59 = .ok (.getfield 18, 3) := by decide +kernel
theorem dX4_told_62 : decode cX4_told 62 = .ok (.iload_n 1, 1) := by decide +kernel
theorem dX4_told_63 : decode cX4_told 63 = .ok (.iaload, 1) := by decide +kernel
theorem dX4_told_64 : decode cX4_told 64 = .ok (.ireturn, 1) := by decide +kernel
theorem dX4_told_65 : decode cX4_told 65 = .ok (.bipush (-2), 2) := by decide +kernel
theorem dX4_told_67 : decode cX4_told 67 = .ok (.ireturn, 1) := by decide +kernel
theorem dX5_init_0 : decode cX5_init 0 = .ok (.aload_n 0, 1) := by decide +kernel
theorem dX5_init_1 : decode cX5_init 1 = .ok (.invokespecial 3, 3) := by decide +kernel
theorem dX5_init_4 : decode cX5_init 4 = .ok (.aload_n 0, 1) := by decide +kernel
theorem dX5_init_5 : decode cX5_init 5 = .ok (.new 9, 3) := by decide +kernel
theorem dX5_init_8 : decode cX5_init 8 = .ok (.dup, 1) := by decide +kernel
theorem dX5_init_9 : decode cX5_init 9 = .ok (.invokespecial 11, 3) := by decide +kernel
theorem dX5_init_12 : decode cX5_init 12 = .ok (.putfield 12, 3) := by decide +kernel
theorem dX5_init_15 : decode cX5_init 15 = .ok (.aload_n 0, 1) := by decide +kernel
theorem dX5_init_16 : decode cX5_init 16 = .ok (.new 9, 3) := by decide +kernel
theorem dX5_init_19 : decode cX5_init 19 = .ok (.dup, 1) := by decide +kernel
theorem dX5_init_20 : decode cX5_init 20 = .ok (.invokespecial 11, 3) := by decide +kernel
theorem dX5_init_23 : decode cX5_init 23 = .ok (.putfield 16, 3) := by decide +kernel
theorem dX5_init_26 : decode cX5_init 26 = .ok (.aload_n 0, 1) := by decide +kernel
theorem dX5_init_27 : decode cX5_init 27 = .ok (.new 19, 3) := by decide +kernel
theorem dX5_init_30 : decode cX5_init 30 = .ok (.dup, 1) := by decide +kernel
theorem dX5_init_31 : decode cX5_init 31 = .ok (.invokespecial 21, 3) := by decide +kernel
theorem dX5_init_34 : decode cX5_init 34 = .ok (.putfield 22, 3) := by decide +kernel
theorem dX5_init_37 : decode cX5_init 37 = .ok (.aload_n 0, 1) := by decide +kernel
theorem dX5_init_38 : decode cX5_init 38 = .ok (.iconst 2, 1) := by decide +kernel
theorem dX5_init_39 : decode cX5_init 39 = .ok (.anewarray 9, 3) := by decide +kernel
theorem dX5_init_42 : decode cX5_init 42 = .ok (.putfield 26, 3) := by decide +kernel
theorem dX5_init_45 : decode cX5_init 45 = .ok (.aload_n 0, 1) := by decide +kernel
theorem dX5_init_46 : decode cX5_init 46 = .ok (.iconst 2, 1) := by decide +kernel
theorem dX5_init_47 : decode cX5_init 47 = .ok (.newarray .boolean, 2) := by decide +kernel
theorem dX5_init_49 : decode cX5_init 49 = .ok (.putfield 30, 3) := by decide +kernel
theorem dX5_init_52 : decode cX5_init 52 = .ok (.aload_n 0, 1) := by decide +kernel
theorem dX5_init_53 : decode cX5_init 53 = .ok (.new 34, 3) := by decide +kernel
theorem dX5_init_56 : decode cX5_init 56 = .ok (.dup, 1) := by decide +kernel
theorem dX5_init_57 : decode cX5_init 57 = .ok (.invokespecial 36, 3) := by decide +kernel
theorem dX5_init_60 : decode cX5_init 60 = .ok (.putfield 37, 3) := by decide +kernel
theorem dX5_init_63 : decode cX5_init 63 = .ok (.iconst 0, 1) := by decide +kernel
theorem dX5_init_64 : decode cX5_init 64 = .ok (.istore_n 1, 1) := by decide +kernel
theorem dX5_init_65 : decode cX5_init 65 = .ok (.iload_n 1, 1) := by decide +kernel
theorem dX5_init_66 : decode cX5_init 66 = .ok (.iconst 2, 1) := by decide +kernel
theorem dX5_init_67 : decode cX5_init 67 = .ok (.if_icmp .ge 22, 3) := by decide +kernel
theorem dX5_init_70 : decode cX5_init 70 = .ok (.aload_n 0, 1) := by decide +kernel
theorem dX5_init_71 : decode cX5_init 71 = .ok (.getfield 26, 3) := by decide +kernel
theorem dX5_init_74 : decode cX5_init 74 = .ok (.iload_n 1, 1) := by decide +kernel
theorem dX5_init_75 : decode cX5_init 75 = .ok (.new 9, 3) := by decide +kernel
theorem dX5_init_78 : decode cX5_init 78 = .ok (.dup, 1) := by decide +kernel
theorem dX5_init_79 : decode cX5_init 79 = .ok (.invokespecial 11, 3) := by decide +kernel
theorem dX5_init_82 : decode cX5_init 82 = .ok (.aastore, 1) := by decide +kernel
theorem dX5_init_83 : decode cX5_init 83 = .ok (.iinc 1 1, 3) := by decide +kernel
theorem dX5_init_86 : decode cX5_init 86 = .ok (.goto (-21), 3) := by decide +kernel
theorem dX5_init_89 : decode cX5_init 89 = .ok (.return_, 1) := by decide +kernel
theorem dX5_loco_0 : decode cX5_loco 0 = .ok (.aload_n 0, 1) := by decide +kernel
theorem dX5_loco_1 : decode cX5_loco 1 = .ok (.getfield 22, 3) := by decide +kernel
theorem dX5_loco_4 : decode cX5_loco 4 = .ok (.aload_n 0, 1) := by decide +kernel
theorem dX5_loco_5 : decode cX5_loco 5 = .ok (.getfield 12, 3) := by decide +kernel
theorem dX5_loco_8 : decode cX5_loco 8 = .ok (.invokevirtual 41, 3) := by decide +kernel
theorem dX5_loco_11 : decode cX5_loco 11 = .ok (.aload_n 0, 1) := by decide +kernel
theorem dX5_loco_12 : decode cX5_loco 12 = .ok (.getfield 22, 3) := by decide +kernel
theorem dX5_loco_15 : decode cX5_loco 15 = .ok (.aload_n 0, 1) := by decide +kernel
theorem dX5_loco_16 : decode cX5_loco 16 = .ok (.getfield 12, 3) := by decide +kernel
theorem dX5_loco_19 : decode cX5_loco 19 = .ok (.iload_n 1, 1) := by decide +kernel
theorem dX5_loco_20 : decode cX5_loco 20 = .ok (.iload_n 2, 1) := by decide +kernel
theorem dX5_loco_21 : decode cX5_loco 21 = .ok (.iload_n 3, 1) := by decide +kernel
theorem dX5_loco_22 : decode cX5_loco 22 = .ok (.iload 4, 2) := by decide +kernel
theorem dX5_loco_24 : decode cX5_loco 24 = .ok (.invokevirtual 45, 3) := by decide +kernel
theorem dX5_loco_27 : decode cX5_loco 27 = .ok (.invokevirtual 49, 3) := by decide +kernel
theorem dX5_loco_30 : decode cX5_loco 30 = .ok (.ireturn, 1) := by decide +kernel
theorem dX5_lift_0 : decode cX5_lift 0 = .ok (.aload_n 0, 1) := by decide +kernel
theorem dX5_lift_1 : decode cX5_lift 1 = .ok (.getfield 22, 3) := by decide +kernel
theorem dX5_lift_4 : decode cX5_lift 4 = .ok (.aload_n 0, 1) := by decide +kernel
theorem dX5_lift_5 : decode cX5_lift 5 = .ok (.getfield 12, 3) := by decide +kernel
theorem dX5_lift_8 : decode cX5_lift 8 = .ok (.invokevirtual 41, 3) := by decide +kernel
theorem dX5_lift_11 : decode cX5_lift 11 = .ok (.aload_n 0, 1) := by decide +kernel
theorem dX5_lift_12 : decode cX5_lift 12 = .ok (.getfield 22, 3) := by decide +kernel
theorem dX5_lift_15 : decode cX5_lift 15 = .ok (.aload_n 0, 1) := by decide +kernel
theorem dX5_lift_16 : decode cX5_lift 16 = .ok (.getfield 12, 3) := by decide +kernel
theorem dX5_lift_19 : decode cX5_lift 19 = .ok (.iload_n 1, 1) := by decide +kernel
theorem dX5_lift_20 : decode cX5_lift 20 = .ok (.invokevirtual 53, 3) := by decide +kernel
theorem dX5_lift_23 : decode cX5_lift 23 = .ok (.invokevirtual 49, 3) := by decide +kernel
theorem dX5_lift_26 : decode cX5_lift 26 = .ok (.ireturn, 1) := by decide +kernel
theorem dX5_noise_0 : decode cX5_noise 0 = .ok (.aload_n 0, 1) := by decide +kernel
theorem dX5_noise_1 : decode cX5_noise 1 = .ok (.getfield 22, 3) := by decide +kernel
theorem dX5_noise_4 : decode cX5_noise 4 = .ok (.aload_n 0, 1) := by decide +kernel
theorem dX5_noise_5 : decode cX5_noise 5 = .ok (.getfield 12, 3) := by decide +kernel
theorem dX5_noise_8 : decode cX5_noise 8 = .ok (.invokevirtual 41, 3) := by decide +kernel
theorem dX5_noise_11 : decode cX5_noise 11 = .ok (.aload_n 0, 1) := by decide +kernel
theorem dX5_noise_12 : decode cX5_noise 12 = .ok (.getfield 22, 3) := by decide +kernel
theorem dX5_noise_15 : decode cX5_noise 15 = .ok (.aload_n 0, 1) := by decide +kernel
theorem dX5_noise_16 : decode cX5_noise 16 = .ok (.getfield 12, 3) := by decide +kernel
theorem dX5_noise_19 : decode cX5_noise 19 = .ok (.iload_n 1, 1) := by decide +kernel
theorem dX5_noise_20 : decode cX5_noise 20 = .ok (.invokevirtual 56, 3) := by decide +kernel
theorem dX5_noise_23 : decode cX5_noise 23 = .ok (.invokevirtual 49, 3) := by decide +kernel
theorem dX5_noise_26 : decode cX5_noise 26 = .ok (.ireturn, 1) := by decide +kernel
theorem dX5_order_0 : decode cX5_order 0 = .ok (.aload_n 0, 1) := by decide +kernel
theorem dX5_order_1 : decode cX5_order 1 = .ok (.getfield 22, 3) := by decide +kernel
theorem dX5_order_4 : decode cX5_order 4 = .ok (.aload_n 0, 1) := by decide +kernel
theorem dX5_order_5 : decode cX5_order 5 = .ok (.getfield 12, 3) := by decide +kernel
theorem dX5_order_8 : decode cX5_order 8 = .ok (.invokevirtual 41, 3) := by decide +kernel
theorem dX5_order_11 : decode cX5_order 11 = .ok (.aload_n 0, 1) := by decide +kernel
theorem dX5_order_12 : decode cX5_order 12 = .ok (.getfield 22, 3) := by decide +kernel
theorem dX5_order_15 : decode cX5_order 15 = .ok (.aload_n 0, 1) := by decide +kernel
theorem dX5_order_16 : decode cX5_order 16 = .ok (.getfield 12, 3) := by decide +kernel
theorem dX5_order_19 : decode cX5_order 19 = .ok (.getfield 59, 3) := by decide +kernel
theorem dX5_order_22 : decode cX5_order 22 = .ok (.iload_n 1, 1) := by decide +kernel
theorem dX5_order_23 : decode cX5_order 23 = .ok (.iload_n 2, 1) := by decide +kernel
theorem dX5_order_24 : decode cX5_order 24 = .ok (.iload_n 3, 1) := by decide +kernel
theorem dX5_order_25 : decode cX5_order 25 = .ok (.invokevirtual 63, 3) := by decide +kernel
theorem dX5_order_28 : decode cX5_order 28 = .ok (.invokevirtual 49, 3) := by decide +kernel
theorem dX5_order_31 : decode cX5_order 31 = .ok (.ireturn, 1) := by decide +kernel
theorem dX5_frame_0 : decode cX5_frame 0 = .ok (.aload_n 0, 1) := by decide +kernel
theorem dX5_frame_1 : decode cX5_frame 1 = .ok (.getfield 22, 3) := by decide +kernel
theorem dX5_frame_4 : decode cX5_frame 4 = .ok (.aload_n 0, 1) := by decide +kernel
theorem dX5_frame_5 : decode cX5_frame 5 = .ok (.getfield 12, 3) := by decide +kernel
theorem dX5_frame_8 : decode cX5_frame 8 = .ok (.invokevirtual 41, 3) := by decide +kernel
theorem dX5_frame_11 : decode cX5_frame 11 = .ok (.aload_n 0, 1) := by decide +kernel
theorem dX5_frame_12 : decode cX5_frame 12 = .ok (.getfield 22, 3) := by decide +kernel
theorem dX5_frame_15 : decode cX5_frame 15 = .ok (.aload_n 0, 1) := by decide +kernel
theorem dX5_frame_16 : decode cX5_frame 16 = .ok (.getfield 12, 3) := by decide +kernel
theorem dX5_frame_19 : decode cX5_frame 19 = .ok (.iload_n 1, 1) := by decide +kernel
theorem dX5_frame_20 : decode cX5_frame 20 = .ok (.iload_n 2, 1) := by decide +kernel
theorem dX5_frame_21 : decode cX5_frame 21 = .ok (.iload_n 3, 1) := by decide +kernel
theorem dX5_frame_22 : decode cX5_frame 22 = .ok (.invokevirtual 69, 3) := by decide +kernel
theorem dX5_frame_25 : decode cX5_frame 25 = .ok (.invokevirtual 49, 3) := by decide +kernel
theorem dX5_frame_28 : decode cX5_frame 28 = .ok (.ireturn, 1) := by decide +kernel
theorem dX5_shorts_0 : decode cX5_shorts 0 = .ok (.aload_n 0, 1) := by decide +kernel
theorem dX5_shorts_1 : decode cX5_shorts 1 = .ok (.getfield 22, 3) := by decide +kernel
theorem dX5_shorts_4 : decode cX5_shorts 4 = .ok (.aload_n 0, 1) := by decide +kernel
theorem dX5_shorts_5 : decode cX5_shorts 5 = .ok (.getfield 12, 3) := by decide +kernel
theorem dX5_shorts_8 : decode cX5_shorts 8 = .ok (.invokevirtual 41, 3) := by decide +kernel
theorem dX5_shorts_11 : decode cX5_shorts 11 = .ok (.aload_n 0, 1) := by decide +kernel
theorem dX5_shorts_12 : decode cX5_shorts 12 = .ok (.getfield 22, 3) := by decide +kernel
theorem dX5_shorts_15 : decode cX5_shorts 15 = .ok (.aload_n 0, 1) := by decide +kernel
theorem dX5_shorts_16 : decode cX5_shorts 16 = .ok (.getfield 12, 3) := by decide +kernel
theorem dX5_shorts_19 : decode cX5_shorts 19 = .ok (.iload_n 1, 1) := by decide +kernel
theorem dX5_shorts_20 : decode cX5_shorts 20 = .ok (.iload_n 2, 1) := by decide +kernel
theorem dX5_shorts_21 : decode cX5_shorts 21 = .ok (.invokevirtual 72, 3) := by decide +kernel
theorem dX5_shorts_24 : decode cX5_shorts 24 = .ok (.invokevirtual 49, 3) := by decide +kernel
theorem dX5_shorts_27 : decode cX5_shorts 27 = .ok (.ireturn, 1) := by decide +kernel
theorem dX5_pass_0 : decode cX5_pass 0 = .ok (.aload_n 0, 1) := by decide +kernel
theorem dX5_pass_1 : decode cX5_pass 1 = .ok (.getfield 22, 3) := by decide +kernel
theorem dX5_pass_4 : decode cX5_pass 4 = .ok (.aload_n 0, 1) := by decide +kernel
theorem dX5_pass_5 : decode cX5_pass 5 = .ok (.getfield 12, 3) := by decide +kernel
theorem dX5_pass_8 : decode cX5_pass 8 = .ok (.invokevirtual 41, 3) := by decide +kernel
theorem dX5_pass_11 : decode cX5_pass 11 = .ok (.aload_n 0, 1) := by decide +kernel
theorem dX5_pass_12 : decode cX5_pass 12 = .ok (.getfield 22, 3) := by decide +kernel
theorem dX5_pass_15 : decode cX5_pass 15 = .ok (.aload_n 0, 1) := by decide +kernel
theorem dX5_pass_16 : decode cX5_pass 16 = .ok (.getfield 12, 3) := by decide +kernel
theorem dX5_pass_19 : decode cX5_pass 19 = .ok (.iload_n 1, 1) := by decide +kernel
theorem dX5_pass_20 : decode cX5_pass 20 = .ok (.invokevirtual 76, 3) := by decide +kernel
theorem dX5_pass_23 : decode cX5_pass 23 = .ok (.invokevirtual 49, 3) := by decide +kernel
theorem dX5_pass_26 : decode cX5_pass 26 = .ok (.ireturn, 1) := by decide +kernel
theorem dX5_of_0 : decode cX5_of 0 = .ok (.aload_n 0, 1) := by decide +kernel
theorem dX5_of_1 : decode cX5_of 1 = .ok (.getfield 12, 3) := by decide +kernel
theorem dX5_of_4 : decode cX5_of 4 = .ok (.iload_n 1, 1) := by decide +kernel
theorem dX5_of_5 : decode cX5_of 5 = .ok (.invokevirtual 79, 3) := by decide +kernel
theorem dX5_of_8 : decode cX5_of 8 = .ok (.astore_n 3, 1) := by decide +kernel
theorem dX5_of_9 : decode cX5_of 9 = .ok (.aload_n 3, 1) := by decide +kernel
theorem dX5_of_10 : decode cX5_of 10 = .ok (.ifnonnull 7, 3) := by decide +kernel
theorem dX5_of_13 : decode cX5_of 13 = .ok (.iconst (-1), 1) := by decide +kernel
theorem dX5_of_14 : decode cX5_of 14 = .ok (.goto 8, 3) := by decide +kernel
theorem dX5_of_17 : decode cX5_of 17 = .ok (.aload_n 3, 1) := by decide +kernel
theorem dX5_of_18 : decode cX5_of 18 = .ok (.iload_n 2, 1) := by decide +kernel
theorem dX5_of_19 : decode cX5_of 19 = .ok (.invokevirtual 83, 3) := by decide +kernel
theorem dX5_of_22 : decode cX5_of 22 = .ok (.ireturn, 1) := by decide +kernel
theorem dX5_address_0 : decode cX5_address 0 = .ok (.aload_n 0, 1) := by decide +kernel
theorem dX5_address_1 : decode cX5_address 1 = .ok (.getfield 12, 3) := by decide +kernel
theorem dX5_address_4 : decode cX5_address 4 = .ok (.iload_n 1, 1) := by decide +kernel
theorem dX5_address_5 : decode cX5_address 5 = .ok (.invokevirtual 88, 3) := by decide +kernel
theorem dX5_address_8 : decode cX5_address 8 = .ok (.astore_n 2, 1) := by decide +kernel
theorem dX5_address_9 : decode cX5_address 9 = .ok (.aload_n 2, 1) := by decide +kernel
theorem dX5_address_10 : decode cX5_address 10 = .ok (.ifnonnull 7, 3) := by decide +kernel
theorem dX5_address_13 : decode cX5_address 13 = .ok (.iconst (-1), 1) := by decide +kernel
theorem dX5_address_14 : decode cX5_address 14 = .ok (.goto 7, 3) := by decide +kernel
theorem dX5_address_17 : decode cX5_address 17 = .ok (.aload_n 2, 1) := by decide +kernel
theorem dX5_address_18 : decode cX5_address 18 = .ok (.getfield 91, 3) := by decide +kernel
theorem dX5_address_21 : decode cX5_address 21 = .ok (.ireturn, 1) := by decide +kernel
theorem dX5_waiting_0 : decode cX5_waiting 0 = .ok (.aload_n 0, 1) := by decide +kernel
theorem dX5_waiting_1 : decode cX5_waiting 1 = .ok (.getfield 12, 3) := by decide +kernel
theorem dX5_waiting_4 : decode cX5_waiting 4 = .ok (.getfield 59, 3) := by decide +kernel
theorem dX5_waiting_7 : decode cX5_waiting 7 = .ok (.iload_n 1, 1) := by decide +kernel
theorem dX5_waiting_8 : decode cX5_waiting 8 = .ok (.iload_n 2, 1) := by decide +kernel
theorem dX5_waiting_9 : decode cX5_waiting 9 = .ok (.invokevirtual 95, 3) := by decide +kernel
theorem dX5_waiting_12 : decode cX5_waiting 12 = .ok (.ireturn, 1) := by decide +kernel
theorem dX5_block_0 : decode cX5_block 0 = .ok (.iload_n 1, 1) := by decide +kernel
theorem dX5_block_1 : decode cX5_block 1 = .ok (.invokestatic 97, 3) := by decide +kernel
theorem dX5_block_4 : decode cX5_block 4 = .ok (.ifCond .ne 5, 3) := by decide +kernel
theorem dX5_block_7 : decode cX5_block 7 = .ok (.iconst (-1), 1) := by decide +kernel
theorem dX5_block_8 : decode cX5_block 8 = .ok (.ireturn, 1) := by decide +kernel
theorem dX5_block_9 : decode cX5_block 9 = .ok (.iload_n 2, 1) := by decide +kernel
theorem dX5_block_10 : decode cX5_block 10 = .ok (.lookupswitch 45 #[(0, 26), (1, 36)], 26) := by decide +kernel
theorem dX5_block_36 : decode cX5_block 36 = .ok (.aload_n 0, 1) := by decide +kernel
theorem dX5_block_37 : decode cX5_block 37 = .ok (.getfield 12, 3) := by decide +kernel
theorem dX5_block_40 : decode cX5_block 40 = .ok (.getfield 101, 3) := by decide +kernel
theorem dX5_block_43 : decode cX5_block 43 = .ok (.iload_n 1, 1) := by decide +kernel
theorem dX5_block_44 : decode cX5_block 44 = .ok (.iaload, 1) := by decide +kernel
theorem dX5_block_45 : decode cX5_block 45 = .ok (.ireturn, 1) := by decide +kernel
theorem dX5_block_46 : decode cX5_block 46 = .ok (.aload_n 0, 1) := by decide +kernel
theorem dX5_block_47 : decode cX5_block 47 = .ok (.getfield 12, 3) := by decide +kernel
theorem dX5_block_50 : decode cX5_block 50 = .ok (.iload_n 1, 1) := by decide +kernel
theorem dX5_block_51 : decode cX5_block 51 = .ok (.invokevirtual 105, 3) := by decide +kernel
theorem dX5_block_54 : decode cX5_block 54 = .ok (.ireturn, 1) := by decide +kernel
theorem dX5_block_55 : decode cX5_block 55 = .ok (.bipush (-2), 2) := by decide +kernel
theorem dX5_block_57 : decode cX5_block 57 = .ok (.ireturn, 1) := by decide +kernel
theorem dX5_count_0 : decode cX5_count 0 = .ok (.iload_n 1, 1) := by decide +kernel
theorem dX5_count_1 : decode cX5_count 1 = .ok (.tableswitch 166 0 11 #[63, 71, 79, 90, 98, 106, 114, 122, 130, 138, 150, 158], 63) := by decide +kernel
theorem dX5_count_64 : decode cX5_count 64 = .ok (.aload_n 0, 1) := by decide +kernel
theorem dX5_count_65 : decode cX5_count 65 = .ok (.getfield 12, 3) := by decide +kernel
theorem dX5_count_68 : decode cX5_count 68 = .ok (.getfield 108, 3) := by decide +kernel
theorem dX5_count_71 : decode cX5_count 71 = .ok (.ireturn, 1) := by decide +kernel
theorem dX5_count_72 : decode cX5_count 72 = .ok (.aload_n 0, 1) := by decide +kernel
theorem dX5_count_73 : decode cX5_count 73 = .ok (.getfield 12, 3) := by decide +kernel
theorem dX5_count_76 : decode cX5_count 76 = .ok (.getfield 111, 3) := by decide +kernel
theorem dX5_count_79 : decode cX5_count 79 = .ok (.ireturn, 1) := by decide +kernel
theorem dX5_count_80 : decode cX5_count 80 = .ok (.aload_n 0, 1) := by decide +kernel
theorem dX5_count_81 : decode cX5_count 81 = .ok (.getfield 12, 3) := by decide +kernel
theorem dX5_count_84 : decode cX5_count 84 = .ok (.getfield 59, 3) := by decide +kernel
theorem dX5_count_87 : decode cX5_count 87 = .ok (.getfield 114, 3) := by decide +kernel
theorem dX5_count_90 : decode cX5_count 90 = .ok (.ireturn, 1) := by decide +kernel
theorem dX5_count_91 : decode cX5_count 91 = .ok (.aload_n 0, 1) := by decide +kernel
theorem dX5_count_92 : decode cX5_count 92 = .ok (.getfield 12, 3) := by decide +kernel
theorem dX5_count_95 : decode cX5_count 95 = .ok (.getfield 117, 3) := by decide +kernel
theorem dX5_count_98 : decode cX5_count 98 = .ok (.ireturn, 1) := by decide +kernel
theorem dX5_count_99 : decode cX5_count 99 = .ok (.aload_n 0, 1) := by decide +kernel
theorem dX5_count_100 : decode cX5_count 100 = .ok (.getfield 12, 3) := by decide +kernel
theorem dX5_count_103 : decode cX5_count 103 = .ok (.getfield 120, 3) := by decide +kernel
theorem dX5_count_106 : decode cX5_count 106 = .ok (.ireturn, 1) := by decide +kernel
theorem dX5_count_107 : decode cX5_count 107 = .ok (.aload_n 0, 1) := by decide +kernel
theorem dX5_count_108 : decode cX5_count 108 = .ok (.getfield 12, 3) := by decide +kernel
theorem dX5_count_111 : decode cX5_count 111 = .ok (.getfield 123, 3) := by decide +kernel
theorem dX5_count_114 : decode cX5_count 114 = .ok (.ireturn, 1) := by decide +kernel
theorem dX5_count_115 : decode cX5_count 115 = .ok (.aload_n 0, 1) := by decide +kernel
theorem dX5_count_116 : decode cX5_count 116 = .ok (.getfield 12, 3) := by decide +kernel
theorem dX5_count_119 : decode cX5_count 119 = .ok (.getfield 126, 3) := by decide +kernel
theorem dX5_count_122 : decode cX5_count 122 = .ok (.ireturn, 1) := by decide +kernel
theorem dX5_count_123 : decode cX5_count 123 = .ok (.aload_n 0, 1) := by decide +kernel
theorem dX5_count_124 : decode cX5_count 124 = .ok (.getfield 12, 3) := by decide +kernel
theorem dX5_count_127 : decode cX5_count 127 = .ok (.invokevirtual 129, 3) := by decide +kernel
theorem dX5_count_130 : decode cX5_count 130 = .ok (.ireturn, 1) := by decide +kernel
theorem dX5_count_131 : decode cX5_count 131 = .ok (.aload_n 0, 1) := by decide +kernel
theorem dX5_count_132 : decode cX5_count 132 = .ok (.getfield 12, 3) := by decide +kernel
theorem dX5_count_135 : decode cX5_count 135 = .ok (.invokevirtual 133, 3) := by decide +kernel
theorem dX5_count_138 : decode cX5_count 138 = .ok (.ireturn, 1) := by decide +kernel
theorem dX5_count_139 : decode cX5_count 139 = .ok (.aload_n 0, 1) := by decide +kernel
theorem dX5_count_140 : decode cX5_count 140 = .ok (.getfield 12, 3) := by decide +kernel
theorem dX5_count_143 : decode cX5_count 143 = .ok (.invokevirtual 136, 3) := by decide +kernel
theorem dX5_count_146 : decode cX5_count 146 = .ok (.sipush 10000, 3) := by decide +kernel
theorem dX5_count_149 : decode cX5_count 149 = .ok (.iadd, 1) := by decide +kernel
theorem dX5_count_150 : decode cX5_count 150 = .ok (.ireturn, 1) := by decide +kernel
theorem dX5_count_151 : decode cX5_count 151 = .ok (.aload_n 0, 1) := by decide +kernel
theorem dX5_count_152 : decode cX5_count 152 = .ok (.getfield 37, 3) := by decide +kernel
theorem dX5_count_155 : decode cX5_count 155 = .ok (.getfield 139, 3) := by decide +kernel
theorem dX5_count_158 : decode cX5_count 158 = .ok (.ireturn, 1) := by decide +kernel
theorem dX5_count_159 : decode cX5_count 159 = .ok (.aload_n 0, 1) := by decide +kernel
theorem dX5_count_160 : decode cX5_count 160 = .ok (.getfield 22, 3) := by decide +kernel
theorem dX5_count_163 : decode cX5_count 163 = .ok (.getfield 142, 3) := by decide +kernel
theorem dX5_count_166 : decode cX5_count 166 = .ok (.ireturn, 1) := by decide +kernel
theorem dX5_count_167 : decode cX5_count 167 = .ok (.bipush (-2), 2) := by decide +kernel
theorem dX5_count_169 : decode cX5_count 169 = .ok (.ireturn, 1) := by decide +kernel
theorem dX5_reaches_0 : decode cX5_reaches 0 = .ok (.aload_n 0, 1) := by decide +kernel
theorem dX5_reaches_1 : decode cX5_reaches 1 = .ok (.getfield 16, 3) := by decide +kernel
theorem dX5_reaches_4 : decode cX5_reaches 4 = .ok (.aload_n 0, 1) := by decide +kernel
theorem dX5_reaches_5 : decode cX5_reaches 5 = .ok (.getfield 12, 3) := by decide +kernel
theorem dX5_reaches_8 : decode cX5_reaches 8 = .ok (.invokevirtual 143, 3) := by decide +kernel
theorem dX5_reaches_11 : decode cX5_reaches 11 = .ok (.aload_n 0, 1) := by decide +kernel
theorem dX5_reaches_12 : decode cX5_reaches 12 = .ok (.getfield 16, 3) := by decide +kernel
theorem dX5_reaches_15 : decode cX5_reaches 15 = .ok (.iload_n 1, 1) := by decide +kernel
theorem dX5_reaches_16 : decode cX5_reaches 16 = .ok (.invokevirtual 79, 3) := by decide +kernel
theorem dX5_reaches_19 : decode cX5_reaches 19 = .ok (.astore_n 3, 1) := by decide +kernel
theorem dX5_reaches_20 : decode cX5_reaches 20 = .ok (.aload_n 3, 1) := by decide +kernel
theorem dX5_reaches_21 : decode cX5_reaches 21 = .ok (.ifnull 10, 3) := by decide +kernel
theorem dX5_reaches_24 : decode cX5_reaches 24 = .ok (.iload_n 2, 1) := by decide +kernel
theorem dX5_reaches_25 : decode cX5_reaches 25 = .ok (.invokestatic 97, 3) := by decide +kernel
theorem dX5_reaches_28 : decode cX5_reaches 28 = .ok (.ifCond .ne 5, 3) := by decide +kernel
theorem dX5_reaches_31 : decode cX5_reaches 31 = .ok (.iconst (-1), 1) := by decide +kernel
theorem dX5_reaches_32 : decode cX5_reaches 32 = .ok (.ireturn, 1) := by decide +kernel
theorem dX5_reaches_33 : decode cX5_reaches 33 = .ok (.iconst 0, 1) := by decide +kernel
theorem dX5_reaches_34 : decode cX5_reaches 34 = .ok (.istore 4, 2) := by decide +kernel
theorem dX5_reaches_36 : decode cX5_reaches 36 = .ok (.iload 4, 2) := by decide +kernel
theorem dX5_reaches_38 : decode cX5_reaches 38 = .ok (.sipush 1000, 3) := by decide +kernel
theorem dX5_reaches_41 : decode cX5_reaches 41 = .ok (.if_icmp .gt 28, 3) := by decide +kernel
theorem dX5_reaches_44 : decode cX5_reaches 44 = .ok (.aload_n 3, 1) := by decide +kernel
theorem dX5_reaches_45 : decode cX5_reaches 45 = .ok (.invokevirtual 146, 3) := by decide +kernel
theorem dX5_reaches_48 : decode cX5_reaches 48 = .ok (.iload_n 2, 1) := by decide +kernel
theorem dX5_reaches_49 : decode cX5_reaches 49 = .ok (.if_icmp .ne 6, 3) := by decide +kernel
theorem dX5_reaches_52 : decode cX5_reaches 52 = .ok (.iload 4, 2) := by decide +kernel
theorem dX5_reaches_54 : decode cX5_reaches 54 = .ok (.ireturn, 1) := by decide +kernel
theorem dX5_reaches_55 : decode cX5_reaches 55 = .ok (.aload_n 0, 1) := by decide +kernel
theorem dX5_reaches_56 : decode cX5_reaches 56 = .ok (.getfield 16, 3) := by decide +kernel
theorem dX5_reaches_59 : decode cX5_reaches 59 = .ok (.invokevirtual 149, 3) := by decide +kernel
theorem dX5_reaches_62 : decode cX5_reaches 62 = .ok (.pop, 1) := by decide +kernel
theorem dX5_reaches_63 : decode cX5_reaches 63 = .ok (.iinc 4 1, 3) := by decide +kernel
theorem dX5_reaches_66 : decode cX5_reaches 66 = .ok (.goto (-30), 3) := by decide +kernel
theorem dX5_reaches_69 : decode cX5_reaches 69 = .ok (.bipush (-6), 2) := by decide +kernel
theorem dX5_reaches_71 : decode cX5_reaches 71 = .ok (.ireturn, 1) := by decide +kernel
theorem dX5_settles_0 : decode cX5_settles 0 = .ok (.aload_n 0, 1) := by decide +kernel
theorem dX5_settles_1 : decode cX5_settles 1 = .ok (.getfield 12, 3) := by decide +kernel
theorem dX5_settles_4 : decode cX5_settles 4 = .ok (.iload_n 1, 1) := by decide +kernel
theorem dX5_settles_5 : decode cX5_settles 5 = .ok (.invokevirtual 79, 3) := by decide +kernel
theorem dX5_settles_8 : decode cX5_settles 8 = .ok (.astore_n 2, 1) := by decide +kernel
theorem dX5_settles_9 : decode cX5_settles 9 = .ok (.aload_n 2, 1) := by decide +kernel
theorem dX5_settles_10 : decode cX5_settles 10 = .ok (.ifnonnull 7, 3) := by decide +kernel
theorem dX5_settles_13 : decode cX5_settles 13 = .ok (.iconst (-1), 1) := by decide +kernel
theorem dX5_settles_14 : decode cX5_settles 14 = .ok (.goto 7, 3) := by decide +kernel
theorem dX5_settles_17 : decode cX5_settles 17 = .ok (.aload_n 2, 1) := by decide +kernel
theorem dX5_settles_18 : decode cX5_settles 18 = .ok (.invokevirtual 152, 3) := by decide +kernel
theorem dX5_settles_21 : decode cX5_settles 21 = .ok (.ireturn, 1) := by decide +kernel
theorem dX5_meets_0 : decode cX5_meets 0 = .ok (.aload_n 0, 1) := by decide +kernel
theorem dX5_meets_1 : decode cX5_meets 1 = .ok (.getfield 16, 3) := by decide +kernel
theorem dX5_meets_4 : decode cX5_meets 4 = .ok (.aload_n 0, 1) := by decide +kernel
theorem dX5_meets_5 : decode cX5_meets 5 = .ok (.getfield 12, 3) := by decide +kernel
theorem dX5_meets_8 : decode cX5_meets 8 = .ok (.invokevirtual 143, 3) := by decide +kernel
theorem dX5_meets_11 : decode cX5_meets 11 = .ok (.aload_n 0, 1) := by decide +kernel
theorem dX5_meets_12 : decode cX5_meets 12 = .ok (.getfield 16, 3) := by decide +kernel
theorem dX5_meets_15 : decode cX5_meets 15 = .ok (.iload_n 1, 1) := by decide +kernel
theorem dX5_meets_16 : decode cX5_meets 16 = .ok (.invokevirtual 79, 3) := by decide +kernel
theorem dX5_meets_19 : decode cX5_meets 19 = .ok (.astore_n 3, 1) := by decide +kernel
theorem dX5_meets_20 : decode cX5_meets 20 = .ok (.aload_n 0, 1) := by decide +kernel
theorem dX5_meets_21 : decode cX5_meets 21 = .ok (.getfield 16, 3) := by decide +kernel
theorem dX5_meets_24 : decode cX5_meets 24 = .ok (.iload_n 2, 1) := by decide +kernel
theorem dX5_meets_25 : decode cX5_meets 25 = .ok (.invokevirtual 79, 3) := by decide +kernel
theorem dX5_meets_28 : decode cX5_meets 28 = .ok (.astore 4, 2) := by decide +kernel
theorem dX5_meets_30 : decode cX5_meets 30 = .ok (.aload_n 3, 1) := by decide +kernel
theorem dX5_meets_31 : decode cX5_meets 31 = .ok (.ifnull 8, 3) := by decide +kernel
theorem dX5_meets_34 : decode cX5_meets 34 = .ok (.aload 4, 2) := by decide +kernel
theorem dX5_meets_36 : decode cX5_meets 36 = .ok (.ifnonnull 5, 3) := by decide +kernel
theorem dX5_meets_39 : decode cX5_meets 39 = .ok (.iconst (-1), 1) := by decide +kernel
theorem dX5_meets_40 : decode cX5_meets 40 = .ok (.ireturn, 1) := by decide +kernel
theorem dX5_meets_41 : decode cX5_meets 41 = .ok (.iload_n 1, 1) := by decide +kernel
theorem dX5_meets_42 : decode cX5_meets 42 = .ok (.iload_n 2, 1) := by decide +kernel
theorem dX5_meets_43 : decode cX5_meets 43 = .ok (.if_icmp .ne 6, 3) := by decide +kernel
theorem dX5_meets_46 : decode cX5_meets 46 = .ok (.bipush (-2), 2) := by decide +kernel
theorem dX5_meets_48 : decode cX5_meets 48 = .ok (.ireturn, 1) := by decide +kernel
theorem dX5_meets_49 : decode cX5_meets 49 = .ok (.iconst 0, 1) := by decide +kernel
theorem dX5_meets_50 : decode cX5_meets 50 = .ok (.istore 5, 2) := by decide +kernel
theorem dX5_meets_52 : decode cX5_meets 52 = .ok (.iload 5, 2) := by decide +kernel
theorem dX5_meets_54 : decode cX5_meets 54 = .ok (.sipush 1000, 3) := by decide +kernel
theorem dX5_meets_57 : decode cX5_meets 57 = .ok (.if_icmp .gt 32, 3) := by decide +kernel
theorem dX5_meets_60 : decode cX5_meets 60 = .ok (.aload_n 3, 1) := by decide +kernel
theorem dX5_meets_61 : decode cX5_meets 61 = .ok (.invokevirtual 146, 3) := by decide +kernel
theorem dX5_meets_64 : decode cX5_meets 64 = .ok (.aload 4, 2) := by decide +kernel
theorem dX5_meets_66 : decode cX5_meets 66 = .ok (.invokevirtual 146, 3) := by decide +kernel
theorem dX5_meets_69 : decode cX5_meets 69 = .ok (.if_icmp .ne 6, 3) := by decide +kernel
theorem dX5_meets_72 : decode cX5_meets 72 = .ok (.iload 5, 2) := by decide +kernel
theorem dX5_meets_74 : decode cX5_meets 74 = .ok (.ireturn, 1) := by decide +kernel
theorem dX5_meets_75 : decode cX5_meets 75 = .ok (.aload_n 0, 1) := by decide +kernel
theorem dX5_meets_76 : decode cX5_meets 76 = .ok (.getfield 16, 3) := by decide +kernel
theorem dX5_meets_79 : decode cX5_meets 79 = .ok (.invokevirtual 149, 3) := by decide +kernel
theorem dX5_meets_82 : decode cX5_meets 82 = .ok (.pop, 1) := by decide +kernel
theorem dX5_meets_83 : decode cX5_meets 83 = .ok (.iinc 5 1, 3) := by decide +kernel
theorem dX5_meets_86 : decode cX5_meets 86 = .ok (.goto (-34), 3) := by decide +kernel
theorem dX5_meets_89 : decode cX5_meets 89 = .ok (.bipush (-6), 2) := by decide +kernel
theorem dX5_meets_91 : decode cX5_meets 91 = .ok (.ireturn, 1) := by decide +kernel
theorem dX5_stepFor_0 : decode cX5_stepFor 0 = .ok (.aload_n 0, 1) := by decide +kernel
theorem dX5_stepFor_1 : decode cX5_stepFor 1 = .ok (.getfield 12, 3) := by decide +kernel
theorem dX5_stepFor_4 : decode cX5_stepFor 4 = .ok (.iload_n 1, 1) := by decide +kernel
theorem dX5_stepFor_5 : decode cX5_stepFor 5 = .ok (.invokevirtual 79, 3) := by decide +kernel
theorem dX5_stepFor_8 : decode cX5_stepFor 8 = .ok (.astore_n 3, 1) := by decide +kernel
theorem dX5_stepFor_9 : decode cX5_stepFor 9 = .ok (.aload_n 3, 1) := by decide +kernel
theorem dX5_stepFor_10 : decode cX5_stepFor 10 = .ok (.ifnonnull 5, 3) := by decide +kernel
theorem dX5_stepFor_13 : decode cX5_stepFor 13 = .ok (.iconst (-1), 1) := by decide +kernel
theorem dX5_stepFor_14 : decode cX5_stepFor 14 = .ok (.ireturn, 1) := by decide +kernel
theorem dX5_stepFor_15 : decode cX5_stepFor 15 = .ok (.iload_n 2, 1) := by decide +kernel
theorem dX5_stepFor_16 : decode cX5_stepFor 16 = .ok (.iconst 0, 1) := by decide +kernel
theorem dX5_stepFor_17 : decode cX5_stepFor 17 = .ok (.sipush 280, 3) := by decide +kernel
theorem dX5_stepFor_20 : decode cX5_stepFor 20 = .ok (.invokestatic 155, 3) := by decide +kernel
theorem dX5_stepFor_23 : decode cX5_stepFor 23 = .ok (.ifCond .ne 6, 3) := by decide +kernel
theorem dX5_stepFor_26 : decode cX5_stepFor 26 = .ok (.bipush (-2), 2) := by decide +kernel
theorem dX5_stepFor_28 : decode cX5_stepFor 28 = .ok (.ireturn, 1) := by decide +kernel
theorem dX5_stepFor_29 : decode cX5_stepFor 29 = .ok (.iconst 0, 1) := by decide +kernel
theorem dX5_stepFor_30 : decode cX5_stepFor 30 = .ok (.istore 4, 2) := by decide +kernel
theorem dX5_stepFor_32 : decode cX5_stepFor 32 = .ok (.iload 4, 2) := by decide +kernel
theorem dX5_stepFor_34 : decode cX5_stepFor 34 = .ok (.bipush 28, 2) := by decide +kernel
theorem dX5_stepFor_36 : decode cX5_stepFor 36 = .ok (.if_icmp .ge 22, 3) := by decide +kernel
theorem dX5_stepFor_39 : decode cX5_stepFor 39 = .ok (.aload_n 3, 1) := by decide +kernel
theorem dX5_stepFor_40 : decode cX5_stepFor 40 = .ok (.getfield 159, 3) := by decide +kernel
theorem dX5_stepFor_43 : decode cX5_stepFor 43 = .ok (.iload 4, 2) := by decide +kernel
theorem dX5_stepFor_45 : decode cX5_stepFor 45 = .ok (.invokestatic 162, 3) := by decide +kernel
theorem dX5_stepFor_48 : decode cX5_stepFor 48 = .ok (.iload_n 2, 1) := by decide +kernel
theorem dX5_stepFor_49 : decode cX5_stepFor 49 = .ok (.if_icmp .ge 9, 3) := by decide +kernel
theorem dX5_stepFor_52 : decode cX5_stepFor 52 = .ok (.iinc 4 1, 3) := by decide +kernel
theorem dX5_stepFor_55 : decode cX5_stepFor 55 = .ok (.goto (-23), 3) := by decide +kernel
theorem dX5_stepFor_58 : decode cX5_stepFor 58 = .ok (.iload 4, 2) := by decide +kernel
theorem dX5_stepFor_60 : decode cX5_stepFor 60 = .ok (.ireturn, 1) := by decide +kernel
theorem dX5_put_0 : decode cX5_put 0 = .ok (.aload_n 0, 1) := by decide +kernel
theorem dX5_put_1 : decode cX5_put 1 = .ok (.getfield 37, 3) := by decide +kernel
theorem dX5_put_4 : decode cX5_put 4 = .ok (.lload_n 1, 1) := by decide +kernel
theorem dX5_put_5 : decode cX5_put 5 = .ok (.invokevirtual 165, 3) := by decide +kernel
theorem dX5_put_8 : decode cX5_put 8 = .ok (.ireturn, 1) := by decide +kernel
theorem dX5_wipe_0 : decode cX5_wipe 0 = .ok (.aload_n 0, 1) := by decide +kernel
theorem dX5_wipe_1 : decode cX5_wipe 1 = .ok (.getfield 37, 3) := by decide +kernel
theorem dX5_wipe_4 : decode cX5_wipe 4 = .ok (.invokevirtual 169, 3) := by decide +kernel
theorem dX5_wipe_7 : decode cX5_wipe 7 = .ok (.ireturn, 1) := by decide +kernel
theorem dX5_fault_0 : decode cX5_fault 0 = .ok (.aload_n 0, 1) := by decide +kernel
theorem dX5_fault_1 : decode cX5_fault 1 = .ok (.getfield 37, 3) := by decide +kernel
theorem dX5_fault_4 : decode cX5_fault 4 = .ok (.invokevirtual 172, 3) := by decide +kernel
theorem dX5_fault_7 : decode cX5_fault 7 = .ok (.ireturn, 1) := by decide +kernel
theorem dX5_carryOut_0 : decode cX5_carryOut 0 = .ok (.aload_n 0, 1) := by decide +kernel
theorem dX5_carryOut_1 : decode cX5_carryOut 1 = .ok (.getfield 37, 3) := by decide +kernel
theorem dX5_carryOut_4 : decode cX5_carryOut 4 = .ok (.invokevirtual 172, 3) := by decide +kernel
theorem dX5_carryOut_7 : decode cX5_carryOut 7 = .ok (.bipush (-6), 2) := by decide +kernel
theorem dX5_carryOut_9 : decode cX5_carryOut 9 = .ok (.if_icmp .eq 6, 3) := by decide +kernel
theorem dX5_carryOut_12 : decode cX5_carryOut 12 = .ok (.bipush (-3), 2) := by decide +kernel
theorem dX5_carryOut_14 : decode cX5_carryOut 14 = .ok (.ireturn, 1) := by decide +kernel
theorem dX5_carryOut_15 : decode cX5_carryOut 15 = .ok (.aload_n 0, 1) := by decide +kernel
theorem dX5_carryOut_16 : decode cX5_carryOut 16 = .ok (.getfield 22, 3) := by decide +kernel
theorem dX5_carryOut_19 : decode cX5_carryOut 19 = .ok (.aload_n 0, 1) := by decide +kernel
theorem dX5_carryOut_20 : decode cX5_carryOut 20 = .ok (.getfield 12, 3) := by decide +kernel
theorem dX5_carryOut_23 : decode cX5_carryOut 23 = .ok (.invokevirtual 41, 3) := by decide +kernel
theorem dX5_carryOut_26 : decode cX5_carryOut 26 = .ok (.aload_n 0, 1) := by decide +kernel
theorem dX5_carryOut_27 : decode cX5_carryOut 27 = .ok (.getfield 37, 3) := by decide +kernel
theorem dX5_carryOut_30 : decode cX5_carryOut 30 = .ok (.invokevirtual 175, 3) := by decide +kernel
theorem dX5_carryOut_33 : decode cX5_carryOut 33 = .ok (.iconst 0, 1) := by decide +kernel
theorem dX5_carryOut_34 : decode cX5_carryOut 34 = .ok (.istore_n 1, 1) := by decide +kernel
theorem dX5_carryOut_35 : decode cX5_carryOut 35 = .ok (.iconst 1, 1) := by decide +kernel
theorem dX5_carryOut_36 : decode cX5_carryOut 36 = .ok (.istore_n 2, 1) := by decide +kernel
theorem dX5_carryOut_37 : decode cX5_carryOut 37 = .ok (.iload_n 2, 1) := by decide +kernel
theorem dX5_carryOut_38 : decode cX5_carryOut 38 = .ok (.ifCond .eq 42, 3) := by decide +kernel
theorem dX5_carryOut_41 : decode cX5_carryOut 41 = .ok (.iload_n 1, 1) := by decide +kernel
theorem dX5_carryOut_42 : decode cX5_carryOut 42 = .ok (.bipush 80, 2) := by decide +kernel
theorem dX5_carryOut_44 : decode cX5_carryOut 44 = .ok (.if_icmp .ge 36, 3) := by decide +kernel
theorem dX5_carryOut_47 : decode cX5_carryOut 47 = .ok (.aload_n 0, 1) := by decide +kernel
theorem dX5_carryOut_48 : decode cX5_carryOut 48 = .ok (.getfield 37, 3) := by decide +kernel
theorem dX5_carryOut_51 : decode cX5_carryOut 51 = .ok (.invokevirtual 178, 3) := by decide +kernel
theorem dX5_carryOut_54 : decode cX5_carryOut 54 = .ok (.ifCond .eq 26, 3) := by decide +kernel
theorem dX5_carryOut_57 : decode cX5_carryOut 57 = .ok (.aload_n 0, 1) := by decide +kernel
theorem dX5_carryOut_58 : decode cX5_carryOut 58 = .ok (.invokevirtual 182, 3) := by decide +kernel
theorem dX5_carryOut_61 : decode cX5_carryOut 61 = .ok (.ifCond .eq 19, 3) := by decide +kernel
theorem dX5_carryOut_64 : decode cX5_carryOut 64 = .ok (.iinc 1 1, 3) := by decide +kernel
theorem dX5_carryOut_67 : decode cX5_carryOut 67 = .ok (.aload_n 0, 1) := by decide +kernel
theorem dX5_carryOut_68 : decode cX5_carryOut 68 = .ok (.getfield 37, 3) := by decide +kernel
theorem dX5_carryOut_71 : decode cX5_carryOut 71 = .ok (.bipush 59, 2) := by decide +kernel
theorem dX5_carryOut_73 : decode cX5_carryOut 73 = .ok (.invokevirtual 185, 3) := by decide +kernel
theorem dX5_carryOut_76 : decode cX5_carryOut 76 = .ok (.istore_n 2, 1) := by decide +kernel
theorem dX5_carryOut_77 : decode cX5_carryOut 77 = .ok (.goto (-40), 3) := by decide +kernel
theorem dX5_carryOut_80 : decode cX5_carryOut 80 = .ok (.aload_n 0, 1) := by decide +kernel
theorem dX5_carryOut_81 : decode cX5_carryOut 81 = .ok (.getfield 37, 3) := by decide +kernel
theorem dX5_carryOut_84 : decode cX5_carryOut 84 = .ok (.invokevirtual 169, 3) := by decide +kernel
theorem dX5_carryOut_87 : decode cX5_carryOut 87 = .ok (.pop, 1) := by decide +kernel
theorem dX5_carryOut_88 : decode cX5_carryOut 88 = .ok (.aload_n 0, 1) := by decide +kernel
theorem dX5_carryOut_89 : decode cX5_carryOut 89 = .ok (.getfield 22, 3) := by decide +kernel
theorem dX5_carryOut_92 : decode cX5_carryOut 92 = .ok (.iload_n 1, 1) := by decide +kernel
theorem dX5_carryOut_93 : decode cX5_carryOut 93 = .ok (.invokevirtual 49, 3) := by decide +kernel
theorem dX5_carryOut_96 : decode cX5_carryOut 96 = .ok (.ireturn, 1) := by decide +kernel
theorem dX5_undo_0 : decode cX5_undo 0 = .ok (.aload_n 0, 1) := by decide +kernel
theorem dX5_undo_1 : decode cX5_undo 1 = .ok (.getfield 22, 3) := by decide +kernel
theorem dX5_undo_4 : decode cX5_undo 4 = .ok (.aload_n 0, 1) := by decide +kernel
theorem dX5_undo_5 : decode cX5_undo 5 = .ok (.getfield 12, 3) := by decide +kernel
theorem dX5_undo_8 : decode cX5_undo 8 = .ok (.invokevirtual 188, 3) := by decide +kernel
theorem dX5_undo_11 : decode cX5_undo 11 = .ok (.ireturn, 1) := by decide +kernel
theorem dX5_save_0 : decode cX5_save 0 = .ok (.iload_n 1, 1) := by decide +kernel
theorem dX5_save_1 : decode cX5_save 1 = .ok (.iconst 0, 1) := by decide +kernel
theorem dX5_save_2 : decode cX5_save 2 = .ok (.iconst 1, 1) := by decide +kernel
theorem dX5_save_3 : decode cX5_save 3 = .ok (.invokestatic 155, 3) := by decide +kernel
theorem dX5_save_6 : decode cX5_save 6 = .ok (.ifCond .ne 6, 3) := by decide +kernel
theorem dX5_save_9 : decode cX5_save 9 = .ok (.bipush (-2), 2) := by decide +kernel
theorem dX5_save_11 : decode cX5_save 11 = .ok (.ireturn, 1) := by decide +kernel
theorem dX5_save_12 : decode cX5_save 12 = .ok (.aload_n 0, 1) := by decide +kernel
theorem dX5_save_13 : decode cX5_save 13 = .ok (.getfield 26, 3) := by decide +kernel
theorem dX5_save_16 : decode cX5_save 16 = .ok (.iload_n 1, 1) := by decide +kernel
theorem dX5_save_17 : decode cX5_save 17 = .ok (.aaload, 1) := by decide +kernel
theorem dX5_save_18 : decode cX5_save 18 = .ok (.aload_n 0, 1) := by decide +kernel
theorem dX5_save_19 : decode cX5_save 19 = .ok (.getfield 12, 3) := by decide +kernel
theorem dX5_save_22 : decode cX5_save 22 = .ok (.invokevirtual 143, 3) := by decide +kernel
theorem dX5_save_25 : decode cX5_save 25 = .ok (.aload_n 0, 1) := by decide +kernel
theorem dX5_save_26 : decode cX5_save 26 = .ok (.getfield 30, 3) := by decide +kernel
theorem dX5_save_29 : decode cX5_save 29 = .ok (.iload_n 1, 1) := by decide +kernel
theorem dX5_save_30 : decode cX5_save 30 = .ok (.iconst 1, 1) := by decide +kernel
theorem dX5_save_31 : decode cX5_save 31 = .ok (.bastore, 1) := by decide +kernel
theorem dX5_save_32 : decode cX5_save 32 = .ok (.aload_n 0, 1) := by decide +kernel
theorem dX5_save_33 : decode cX5_save 33 = .ok (.getfield 12, 3) := by decide +kernel
theorem dX5_save_36 : decode cX5_save 36 = .ok (.getfield 111, 3) := by decide +kernel
theorem dX5_save_39 : decode cX5_save 39 = .ok (.ireturn, 1) := by decide +kernel
theorem dX5_restore_0 : decode cX5_restore 0 = .ok (.iload_n 1, 1) := by decide +kernel
theorem dX5_restore_1 : decode cX5_restore 1 = .ok (.iconst 0, 1) := by decide +kernel
theorem dX5_restore_2 : decode cX5_restore 2 = .ok (.iconst 1, 1) := by decide +kernel
theorem dX5_restore_3 : decode cX5_restore 3 = .ok (.invokestatic 155, 3) := by decide +kernel
theorem dX5_restore_6 : decode cX5_restore 6 = .ok (.ifCond .ne 6, 3) := by decide +kernel
theorem dX5_restore_9 : decode cX5_restore 9 = .ok (.bipush (-2), 2) := by decide +kernel
theorem dX5_restore_11 : decode cX5_restore 11 = .ok (.ireturn, 1) := by decide +kernel
theorem dX5_restore_12 : decode cX5_restore 12 = .ok (.aload_n 0, 1) := by decide +kernel
theorem dX5_restore_13 : decode cX5_restore 13 = .ok (.getfield 30, 3) := by decide +kernel
theorem dX5_restore_16 : decode cX5_restore 16 = .ok (.iload_n 1, 1) := by decide +kernel
theorem dX5_restore_17 : decode cX5_restore 17 = .ok (.baload, 1) := by decide +kernel
theorem dX5_restore_18 : decode cX5_restore 18 = .ok (.ifCond .ne 6, 3) := by decide +kernel
theorem dX5_restore_21 : decode cX5_restore 21 = .ok (.bipush (-5), 2) := by decide +kernel
theorem dX5_restore_23 : decode cX5_restore 23 = .ok (.ireturn, 1) := by decide +kernel
theorem dX5_restore_24 : decode cX5_restore 24 = .ok (.aload_n 0, 1) := by decide +kernel
theorem dX5_restore_25 : decode cX5_restore 25 = .ok (.getfield 22, 3) := by decide +kernel
theorem dX5_restore_28 : decode cX5_restore 28 = .ok (.aload_n 0, 1) := by decide +kernel
theorem dX5_restore_29 : decode cX5_restore 29 = .ok (.getfield 12, 3) := by decide +kernel
theorem dX5_restore_32 : decode cX5_restore 32 = .ok (.invokevirtual 41, 3) := by decide +kernel
theorem dX5_restore_35 : decode cX5_restore 35 = .ok (.aload_n 0, 1) := by decide +kernel
theorem dX5_restore_36 : decode cX5_restore 36 = .ok (.getfield 12, 3) := by decide +kernel
theorem dX5_restore_39 : decode cX5_restore 39 = .ok (.aload_n 0, 1) := by decide +kernel
theorem dX5_restore_40 : decode cX5_restore 40 = .ok (.getfield 26, 3) := by decide +kernel
theorem dX5_restore_43 : decode cX5_restore 43 = .ok (.iload_n 1, 1) := by decide +kernel
theorem dX5_restore_44 : decode cX5_restore 44 = .ok (.aaload, 1) := by decide +kernel
theorem dX5_restore_45 : decode cX5_restore 45 = .ok (.invokevirtual 143, 3) := by decide +kernel
theorem dX5_restore_48 : decode cX5_restore 48 = .ok (.aload_n 0, 1) := by decide +kernel
theorem dX5_restore_49 : decode cX5_restore 49 = .ok (.getfield 22, 3) := by decide +kernel
theorem dX5_restore_52 : decode cX5_restore 52 = .ok (.aload_n 0, 1) := by decide +kernel
theorem dX5_restore_53 : decode cX5_restore 53 = .ok (.getfield 12, 3) := by decide +kernel
theorem dX5_restore_56 : decode cX5_restore 56 = .ok (.getfield 111, 3) := by decide +kernel
theorem dX5_restore_59 : decode cX5_restore 59 = .ok (.invokevirtual 49, 3) := by decide +kernel
theorem dX5_restore_62 : decode cX5_restore 62 = .ok (.ireturn, 1) := by decide +kernel
theorem dX5_carriesOne_0 : decode cX5_carriesOne 0 = .ok (.iconst (-1), 1) := by decide +kernel
theorem dX5_carriesOne_1 : decode cX5_carriesOne 1 = .ok (.istore_n 1, 1) := by decide +kernel
theorem dX5_carriesOne_2 : decode cX5_carriesOne 2 = .ok (.aload_n 0, 1) := by decide +kernel
theorem dX5_carriesOne_3 : decode cX5_carriesOne 3 = .ok (.getfield 37, 3) := by decide +kernel
theorem dX5_carriesOne_6 : decode cX5_carriesOne 6 = .ok (.getfield 192, 3) := by decide +kernel
theorem dX5_carriesOne_9 : decode cX5_carriesOne 9 = .ok (.lookupswitch 171 #[(102, 84), (111, 43), (115, 122), (116, 151)], 43) := by decide +kernel
theorem dX5_carriesOne_52 : decode cX5_carriesOne 52 = .ok (.aload_n 0, 1) := by decide +kernel
theorem dX5_carriesOne_53 : decode cX5_carriesOne 53 = .ok (.getfield 12, 3) := by decide +kernel
theorem dX5_carriesOne_56 : decode cX5_carriesOne 56 = .ok (.getfield 59, 3) := by decide +kernel
theorem dX5_carriesOne_59 : decode cX5_carriesOne 59 = .ok (.aload_n 0, 1) := by decide +kernel
theorem dX5_carriesOne_60 : decode cX5_carriesOne 60 = .ok (.getfield 37, 3) := by decide +kernel
theorem dX5_carriesOne_63 : decode cX5_carriesOne 63 = .ok (.getfield 195, 3) := by decide +kernel
theorem dX5_carriesOne_66 : decode cX5_carriesOne 66 = .ok (.iconst 0, 1) := by decide +kernel
theorem dX5_carriesOne_67 : decode cX5_carriesOne 67 = .ok (.iaload, 1) := by decide +kernel
theorem dX5_carriesOne_68 : decode cX5_carriesOne 68 = .ok (.aload_n 0, 1) := by decide +kernel
theorem dX5_carriesOne_69 : decode cX5_carriesOne 69 = .ok (.getfield 37, 3) := by decide +kernel
theorem dX5_carriesOne_72 : decode cX5_carriesOne 72 = .ok (.getfield 195, 3) := by decide +kernel
theorem dX5_carriesOne_75 : decode cX5_carriesOne 75 = .ok (.iconst 1, 1) := by decide +kernel
theorem dX5_carriesOne_76 : decode cX5_carriesOne 76 = .ok (.iaload, 1) := by decide +kernel
theorem dX5_carriesOne_77 : decode cX5_carriesOne 77 = .ok (.aload_n 0, 1) := by decide +kernel
theorem dX5_carriesOne_78 : decode cX5_carriesOne 78 = .ok (.getfield 37, 3) := by decide +kernel
theorem dX5_carriesOne_81 : decode cX5_carriesOne 81 = .ok (.getfield 195, 3) := by decide +kernel
theorem dX5_carriesOne_84 : decode cX5_carriesOne 84 = .ok (.iconst 2, 1) := by decide +kernel
theorem dX5_carriesOne_85 : decode cX5_carriesOne 85 = .ok (.iaload, 1) := by decide +kernel
theorem dX5_carriesOne_86 : decode cX5_carriesOne 86 = .ok (.invokevirtual 63, 3) := by decide +kernel
theorem dX5_carriesOne_89 : decode cX5_carriesOne 89 = .ok (.istore_n 1, 1) := by decide +kernel
theorem dX5_carriesOne_90 : decode cX5_carriesOne 90 = .ok (.goto 90, 3) := by decide +kernel
theorem dX5_carriesOne_93 : decode cX5_carriesOne 93 = .ok (.aload_n 0, 1) := by decide +kernel
theorem dX5_carriesOne_94 : decode cX5_carriesOne 94 = .ok (.getfield 12, 3) := by decide +kernel
theorem dX5_carriesOne_97 : decode cX5_carriesOne 97 = .ok (.aload_n 0, 1) := by decide +kernel
theorem dX5_carriesOne_98 : decode cX5_carriesOne 98 = .ok (.getfield 37, 3) := by decide +kernel
theorem dX5_carriesOne_101 : decode cX5_carriesOne 101 = .ok (.getfield 195, 3) := by decide +kernel
theorem dX5_carriesOne_104 : decode cX5_carriesOne 104 = .ok (.iconst 0, 1) := by decide +kernel
theorem dX5_carriesOne_105 : decode cX5_carriesOne 105 = .ok (.iaload, 1) := by decide +kernel
theorem dX5_carriesOne_106 : decode cX5_carriesOne 106 = .ok (.aload_n 0, 1) := by decide +kernel
theorem dX5_carriesOne_107 : decode cX5_carriesOne 107 = .ok (.getfield 37, 3) := by decide +kernel
theorem dX5_carriesOne_110 : decode cX5_carriesOne 110 = .ok (.getfield 195, 3) := by decide +kernel
theorem dX5_carriesOne_113 : decode cX5_carriesOne 113 = .ok (.iconst 1, 1) := by decide +kernel
theorem dX5_carriesOne_114 : decode cX5_carriesOne 114 = .ok (.iaload, 1) := by decide +kernel
theorem dX5_carriesOne_115 : decode cX5_carriesOne 115 = .ok (.aload_n 0, 1) := by decide +kernel
theorem dX5_carriesOne_116 : decode cX5_carriesOne 116 = .ok (.getfield 37, 3) := by decide +kernel
theorem dX5_carriesOne_119 : decode cX5_carriesOne 119 = .ok (.getfield 195, 3) := by decide +kernel
theorem dX5_carriesOne_122 : decode cX5_carriesOne 122 = .ok (.iconst 2, 1) := by decide +kernel
theorem dX5_carriesOne_123 : decode cX5_carriesOne 123 = .ok (.iaload, 1) := by decide +kernel
theorem dX5_carriesOne_124 : decode cX5_carriesOne 124 = .ok (.invokevirtual 69, 3) := by decide +kernel
theorem dX5_carriesOne_127 : decode cX5_carriesOne 127 = .ok (.istore_n 1, 1) := by decide +kernel
theorem dX5_carriesOne_128 : decode cX5_carriesOne 128 = .ok (.goto 52, 3) := by decide +kernel
theorem dX5_carriesOne_131 : decode cX5_carriesOne 131 = .ok (.aload_n 0, 1) := by decide +kernel
theorem dX5_carriesOne_132 : decode cX5_carriesOne 132 = .ok (.getfield 12, 3) := by decide +kernel
theorem dX5_carriesOne_135 : decode cX5_carriesOne 135 = .ok (.aload_n 0, 1) := by decide +kernel
theorem dX5_carriesOne_136 : decode cX5_carriesOne 136 = .ok (.getfield 37, 3) := by decide +kernel
theorem dX5_carriesOne_139 : decode cX5_carriesOne 139 = .ok (.getfield 195, 3) := by decide +kernel
theorem dX5_carriesOne_142 : decode cX5_carriesOne 142 = .ok (.iconst 0, 1) := by decide +kernel
theorem dX5_carriesOne_143 : decode cX5_carriesOne 143 = .ok (.iaload, 1) := by decide +kernel
theorem dX5_carriesOne_144 : decode cX5_carriesOne 144 = .ok (.aload_n 0, 1) := by decide +kernel
theorem dX5_carriesOne_145 : decode cX5_carriesOne 145 = .ok (.getfield 37, 3) := by decide +kernel
theorem dX5_carriesOne_148 : decode cX5_carriesOne 148 = .ok (.getfield 195, 3) := by decide +kernel
theorem dX5_carriesOne_151 : decode cX5_carriesOne 151 = .ok (.iconst 1, 1) := by decide +kernel
theorem dX5_carriesOne_152 : decode cX5_carriesOne 152 = .ok (.iaload, 1) := by decide +kernel
theorem dX5_carriesOne_153 : decode cX5_carriesOne 153 = .ok (.invokevirtual 72, 3) := by decide +kernel
theorem dX5_carriesOne_156 : decode cX5_carriesOne 156 = .ok (.istore_n 1, 1) := by decide +kernel
theorem dX5_carriesOne_157 : decode cX5_carriesOne 157 = .ok (.goto 23, 3) := by decide +kernel
theorem dX5_carriesOne_160 : decode cX5_carriesOne 160 = .ok (.aload_n 0, 1) := by decide +kernel
theorem dX5_carriesOne_161 : decode cX5_carriesOne 161 = .ok (.getfield 12, 3) := by decide +kernel
theorem dX5_carriesOne_164 : decode cX5_carriesOne 164 = .ok (.aload_n 0, 1) := by decide +kernel
theorem dX5_carriesOne_165 : decode cX5_carriesOne 165 = .ok (.getfield 37, 3) := by decide +kernel
theorem dX5_carriesOne_168 : decode cX5_carriesOne 168 = .ok (.getfield 195, 3) := by decide +kernel
theorem dX5_carriesOne_171 : decode cX5_carriesOne 171 = .ok (.iconst 0, 1) := by decide +kernel
theorem dX5_carriesOne_172 : decode cX5_carriesOne 172 = .ok (.iaload, 1) := by decide +kernel
theorem dX5_carriesOne_173 : decode cX5_carriesOne 173 = .ok (.invokevirtual 76, 3) := by decide +kernel
theorem dX5_carriesOne_176 : decode cX5_carriesOne 176 = .ok (.istore_n 1, 1) := by decide +kernel
theorem dX5_carriesOne_177 : decode cX5_carriesOne 177 = .ok (.goto 3, 3) := by decide +kernel
theorem dX5_carriesOne_180 : decode cX5_carriesOne 180 = .ok (.iload_n 1, 1) := by decide +kernel
theorem dX5_carriesOne_181 : decode cX5_carriesOne 181 = .ok (.ifCond .lt 7, 3) := by decide +kernel
theorem dX5_carriesOne_184 : decode cX5_carriesOne 184 = .ok (.iconst 1, 1) := by decide +kernel
theorem dX5_carriesOne_185 : decode cX5_carriesOne 185 = .ok (.goto 4, 3) := by decide +kernel
theorem dX5_carriesOne_188 : decode cX5_carriesOne 188 = .ok (.iconst 0, 1) := by decide +kernel
theorem dX5_carriesOne_189 : decode cX5_carriesOne 189 = .ok (.ireturn, 1) := by decide +kernel
theorem dX5_within_0 : decode cX5_within 0 = .ok (.iload_n 0, 1) := by decide +kernel
theorem dX5_within_1 : decode cX5_within 1 = .ok (.iload_n 1, 1) := by decide +kernel
theorem dX5_within_2 : decode cX5_within 2 = .ok (.if_icmp .lt 12, 3) := by decide +kernel
theorem dX5_within_5 : decode cX5_within 5 = .ok (.iload_n 0, 1) := by decide +kernel
theorem dX5_within_6 : decode cX5_within 6 = .ok (.iload_n 2, 1) := by decide +kernel
theorem dX5_within_7 : decode cX5_within 7 = .ok (.if_icmp .gt 7, 3) := by decide +kernel
theorem dX5_within_10 : decode cX5_within 10 = .ok (.iconst 1, 1) := by decide +kernel
theorem dX5_within_11 : decode cX5_within 11 = .ok (.goto 4, 3) := by decide +kernel
theorem dX5_within_14 : decode cX5_within 14 = .ok (.iconst 0, 1) := by decide +kernel
theorem dX5_within_15 : decode cX5_within 15 = .ok (.ireturn, 1) := by decide +kernel
theorem dX5_isBlock_0 : decode cX5_isBlock 0 = .ok (.iload_n 0, 1) := by decide +kernel
theorem dX5_isBlock_1 : decode cX5_isBlock 1 = .ok (.iconst 0, 1) := by decide +kernel
theorem dX5_isBlock_2 : decode cX5_isBlock 2 = .ok (.bipush 7, 2) := by decide +kernel
theorem dX5_isBlock_4 : decode cX5_isBlock 4 = .ok (.invokestatic 155, 3) := by decide +kernel
theorem dX5_isBlock_7 : decode cX5_isBlock 7 = .ok (.ireturn, 1) := by decide +kernel
theorem dX5_curveSpeed_0 : decode cX5_curveSpeed 0 = .ok (.iload_n 1, 1) := by decide +kernel
theorem dX5_curveSpeed_1 : decode cX5_curveSpeed 1 = .ok (.iload_n 1, 1) := by decide +kernel
theorem dX5_curveSpeed_2 : decode cX5_curveSpeed 2 = .ok (.imul, 1) := by decide +kernel
theorem dX5_curveSpeed_3 : decode cX5_curveSpeed 3 = .ok (.bipush 10, 2) := by decide +kernel
theorem dX5_curveSpeed_5 : decode cX5_curveSpeed 5 = .ok (.imul, 1) := by decide +kernel
theorem dX5_curveSpeed_6 : decode cX5_curveSpeed 6 = .ok (.bipush 28, 2) := by decide +kernel
theorem dX5_curveSpeed_8 : decode cX5_curveSpeed 8 = .ok (.idiv, 1) := by decide +kernel
theorem dX5_curveSpeed_9 : decode cX5_curveSpeed 9 = .ok (.istore_n 2, 1) := by decide +kernel
theorem dX5_curveSpeed_10 : decode cX5_curveSpeed 10 = .ok (.iload_n 0, 1) := by decide +kernel
theorem dX5_curveSpeed_11 : decode cX5_curveSpeed 11 = .ok (.lookupswitch 34 #[(1, 25), (2, 27)], 25) := by decide +kernel
theorem dX5_curveSpeed_36 : decode cX5_curveSpeed 36 = .ok (.iload_n 2, 1) := by decide +kernel
theorem dX5_curveSpeed_37 : decode cX5_curveSpeed 37 = .ok (.ireturn, 1) := by decide +kernel
theorem dX5_curveSpeed_38 : decode cX5_curveSpeed 38 = .ok (.bipush 20, 2) := by decide +kernel
theorem dX5_curveSpeed_40 : decode cX5_curveSpeed 40 = .ok (.iload_n 1, 1) := by decide +kernel
theorem dX5_curveSpeed_41 : decode cX5_curveSpeed 41 = .ok (.imul, 1) := by decide +kernel
theorem dX5_curveSpeed_42 : decode cX5_curveSpeed 42 = .ok (.iload_n 2, 1) := by decide +kernel
theorem dX5_curveSpeed_43 : decode cX5_curveSpeed 43 = .ok (.isub, 1) := by decide +kernel
theorem dX5_curveSpeed_44 : decode cX5_curveSpeed 44 = .ok (.ireturn, 1) := by decide +kernel
theorem dX5_curveSpeed_45 : decode cX5_curveSpeed 45 = .ok (.bipush 10, 2) := by decide +kernel
theorem dX5_curveSpeed_47 : decode cX5_curveSpeed 47 = .ok (.iload_n 1, 1) := by decide +kernel
theorem dX5_curveSpeed_48 : decode cX5_curveSpeed 48 = .ok (.imul, 1) := by decide +kernel
theorem dX5_curveSpeed_49 : decode cX5_curveSpeed 49 = .ok (.ireturn, 1) := by decide +kernel
theorem dJ9_floorDiv_7cf53_0 : decode cJ9_floorDiv_7cf53 0 = .ok (.iload_n 0, 1) := by decide +kernel
theorem dJ9_floorDiv_7cf53_1 : decode cJ9_floorDiv_7cf53 1 = .ok (.iload_n 1, 1) := by decide +kernel
theorem dJ9_floorDiv_7cf53_2 : decode cJ9_floorDiv_7cf53 2 = .ok (.idiv, 1) := by decide +kernel
theorem dJ9_floorDiv_7cf53_3 : decode cJ9_floorDiv_7cf53 3 = .ok (.istore_n 2, 1) := by decide +kernel
theorem dJ9_floorDiv_7cf53_4 : decode cJ9_floorDiv_7cf53 4 = .ok (.iload_n 0, 1) := by decide +kernel
theorem dJ9_floorDiv_7cf53_5 : decode cJ9_floorDiv_7cf53 5 = .ok (.iload_n 1, 1) := by decide +kernel
theorem dJ9_floorDiv_7cf53_6 : decode cJ9_floorDiv_7cf53 6 = .ok (.ixor, 1) := by decide +kernel
theorem dJ9_floorDiv_7cf53_7 : decode cJ9_floorDiv_7cf53 7 = .ok (.ifCond .ge 14, 3) := by decide +kernel
theorem dJ9_floorDiv_7cf53_10 : decode cJ9_floorDiv_7cf53 10 = .ok (.iload_n 2, 1) := by decide +kernel
theorem dJ9_floorDiv_7cf53_11 : decode cJ9_floorDiv_7cf53 11 = .ok (.iload_n 1, 1) := by decide +kernel
theorem dJ9_floorDiv_7cf53_12 : decode cJ9_floorDiv_7cf53 12 = .ok (.imul, 1) := by decide +kernel
theorem dJ9_floorDiv_7cf53_13 : decode cJ9_floorDiv_7cf53 13 = .ok (.iload_n 0, 1) := by decide +kernel
theorem dJ9_floorDiv_7cf53_14 : decode cJ9_floorDiv_7cf53 14 = .ok (.if_icmp .eq 7, 3) := by decide +kernel
theorem dJ9_floorDiv_7cf53_17 : decode cJ9_floorDiv_7cf53 17 = .ok (.iload_n 2, 1) := by decide +kernel
theorem dJ9_floorDiv_7cf53_18 : decode cJ9_floorDiv_7cf53 18 = .ok (.iconst 1, 1) := by decide +kernel
theorem dJ9_floorDiv_7cf53_19 : decode cJ9_floorDiv_7cf53 19 = .ok (.isub, 1) := by decide +kernel
theorem dJ9_floorDiv_7cf53_20 : decode cJ9_floorDiv_7cf53 20 = .ok (.ireturn, 1) := by decide +kernel
theorem dJ9_floorDiv_7cf53_21 : decode cJ9_floorDiv_7cf53 21 = .ok (.iload_n 2, 1) := by decide +kernel
theorem dJ9_floorDiv_7cf53_22 : decode cJ9_floorDiv_7cf53 22 = .ok (.ireturn, 1) := by decide +kernel
theorem dJ9_floorMod_7cf53_0 : decode cJ9_floorMod_7cf53 0 = .ok (.iload_n 0, 1) := by decide +kernel
theorem dJ9_floorMod_7cf53_1 : decode cJ9_floorMod_7cf53 1 = .ok (.iload_n 1, 1) := by decide +kernel
theorem dJ9_floorMod_7cf53_2 : decode cJ9_floorMod_7cf53 2 = .ok (.irem, 1) := by decide +kernel
theorem dJ9_floorMod_7cf53_3 : decode cJ9_floorMod_7cf53 3 = .ok (.istore_n 2, 1) := by decide +kernel
theorem dJ9_floorMod_7cf53_4 : decode cJ9_floorMod_7cf53 4 = .ok (.iload_n 0, 1) := by decide +kernel
theorem dJ9_floorMod_7cf53_5 : decode cJ9_floorMod_7cf53 5 = .ok (.iload_n 1, 1) := by decide +kernel
theorem dJ9_floorMod_7cf53_6 : decode cJ9_floorMod_7cf53 6 = .ok (.ixor, 1) := by decide +kernel
theorem dJ9_floorMod_7cf53_7 : decode cJ9_floorMod_7cf53 7 = .ok (.ifCond .ge 11, 3) := by decide +kernel
theorem dJ9_floorMod_7cf53_10 : decode cJ9_floorMod_7cf53 10 = .ok (.iload_n 2, 1) := by decide +kernel
theorem dJ9_floorMod_7cf53_11 : decode cJ9_floorMod_7cf53 11 = .ok (.ifCond .eq 7, 3) := by decide +kernel
theorem dJ9_floorMod_7cf53_14 : decode cJ9_floorMod_7cf53 14 = .ok (.iload_n 2, 1) := by decide +kernel
theorem dJ9_floorMod_7cf53_15 : decode cJ9_floorMod_7cf53 15 = .ok (.iload_n 1, 1) := by decide +kernel
theorem dJ9_floorMod_7cf53_16 : decode cJ9_floorMod_7cf53 16 = .ok (.iadd, 1) := by decide +kernel
theorem dJ9_floorMod_7cf53_17 : decode cJ9_floorMod_7cf53 17 = .ok (.ireturn, 1) := by decide +kernel
theorem dJ9_floorMod_7cf53_18 : decode cJ9_floorMod_7cf53 18 = .ok (.iload_n 2, 1) := by decide +kernel
theorem dJ9_floorMod_7cf53_19 : decode cJ9_floorMod_7cf53 19 = .ok (.ireturn, 1) := by decide +kernel
theorem dJ9_abs_0f7a4_0 : decode cJ9_abs_0f7a4 0 = .ok (.iload_n 0, 1) := by decide +kernel
theorem dJ9_abs_0f7a4_1 : decode cJ9_abs_0f7a4 1 = .ok (.ifCond .ge 8, 3) := by decide +kernel
theorem dJ9_abs_0f7a4_4 : decode cJ9_abs_0f7a4 4 = .ok (.iload_n 0, 1) := by decide +kernel
theorem dJ9_abs_0f7a4_5 : decode cJ9_abs_0f7a4 5 = .ok (.ineg, 1) := by decide +kernel
theorem dJ9_abs_0f7a4_6 : decode cJ9_abs_0f7a4 6 = .ok (.goto 4, 3) := by decide +kernel
theorem dJ9_abs_0f7a4_9 : decode cJ9_abs_0f7a4 9 = .ok (.iload_n 0, 1) := by decide +kernel
theorem dJ9_abs_0f7a4_10 : decode cJ9_abs_0f7a4 10 = .ok (.ireturn, 1) := by decide +kernel
theorem dJ9_max_7cf53_0 : decode cJ9_max_7cf53 0 = .ok (.iload_n 0, 1) := by decide +kernel
theorem dJ9_max_7cf53_1 : decode cJ9_max_7cf53 1 = .ok (.iload_n 1, 1) := by decide +kernel
theorem dJ9_max_7cf53_2 : decode cJ9_max_7cf53 2 = .ok (.if_icmp .lt 7, 3) := by decide +kernel
theorem dJ9_max_7cf53_5 : decode cJ9_max_7cf53 5 = .ok (.iload_n 0, 1) := by decide +kernel
theorem dJ9_max_7cf53_6 : decode cJ9_max_7cf53 6 = .ok (.goto 4, 3) := by decide +kernel
theorem dJ9_max_7cf53_9 : decode cJ9_max_7cf53 9 = .ok (.iload_n 1, 1) := by decide +kernel
theorem dJ9_max_7cf53_10 : decode cJ9_max_7cf53 10 = .ok (.ireturn, 1) := by decide +kernel
theorem dJ9_min_7cf53_0 : decode cJ9_min_7cf53 0 = .ok (.iload_n 0, 1) := by decide +kernel
theorem dJ9_min_7cf53_1 : decode cJ9_min_7cf53 1 = .ok (.iload_n 1, 1) := by decide +kernel
theorem dJ9_min_7cf53_2 : decode cJ9_min_7cf53 2 = .ok (.if_icmp .gt 7, 3) := by decide +kernel
theorem dJ9_min_7cf53_5 : decode cJ9_min_7cf53 5 = .ok (.iload_n 0, 1) := by decide +kernel
theorem dJ9_min_7cf53_6 : decode cJ9_min_7cf53 6 = .ok (.goto 4, 3) := by decide +kernel
theorem dJ9_min_7cf53_9 : decode cJ9_min_7cf53 9 = .ok (.iload_n 1, 1) := by decide +kernel
theorem dJ9_min_7cf53_10 : decode cJ9_min_7cf53 10 = .ok (.ireturn, 1) := by decide +kernel
end
section
theorem dX6_init_0 : decode cX6_init 0 = .ok (.aload_n 0, 1) := by decide +kernel
theorem dX6_init_1 : decode cX6_init 1 = .ok (.invokespecial 1, 3) := by decide +kernel
theorem dX6_init_4 : decode cX6_init 4 = .ok (.aload_n 0, 1) := by decide +kernel
theorem dX6_init_5 : decode cX6_init 5 = .ok (.sipush 164, 3) := by decide +kernel
theorem dX6_init_8 : decode cX6_init 8 = .ok (.newarray .int, 2) := by decide +kernel
theorem dX6_init_10 : decode cX6_init 10 = .ok (.putfield 7, 3) := by decide +kernel
theorem dX6_init_13 : decode cX6_init 13 = .ok (.aload_n 0, 1) := by decide +kernel
theorem dX6_init_14 : decode cX6_init 14 = .ok (.sipush 164, 3) := by decide +kernel
theorem dX6_init_17 : decode cX6_init 17 = .ok (.newarray .int, 2) := by decide +kernel
theorem dX6_init_19 : decode cX6_init 19 = .ok (.putfield 13, 3) := by decide +kernel
theorem dX6_init_22 : decode cX6_init 22 = .ok (.aload_n 0, 1) := by decide +kernel
theorem dX6_init_23 : decode cX6_init 23 = .ok (.sipush 984, 3) := by decide +kernel
theorem dX6_init_26 : decode cX6_init 26 = .ok (.newarray .int, 2) := by decide +kernel
theorem dX6_init_28 : decode cX6_init 28 = .ok (.putfield 16, 3) := by decide +kernel
theorem dX6_init_31 : decode cX6_init 31 = .ok (.aload_n 0, 1) := by decide +kernel
theorem dX6_init_32 : decode cX6_init 32 = .ok (.sipush 328, 3) := by decide +kernel
theorem dX6_init_35 : decode cX6_init 35 = .ok (.newarray .int, 2) := by decide +kernel
theorem dX6_init_37 : decode cX6_init 37 = .ok (.putfield 19, 3) := by decide +kernel
theorem dX6_init_40 : decode cX6_init 40 = .ok (.aload_n 0, 1) := by decide +kernel
theorem dX6_init_41 : decode cX6_init 41 = .ok (.iconst 2, 1) := by decide +kernel
theorem dX6_init_42 : decode cX6_init 42 = .ok (.newarray .boolean, 2) := by decide +kernel
theorem dX6_init_44 : decode cX6_init 44 = .ok (.putfield 22, 3) := by decide +kernel
theorem dX6_init_47 : decode cX6_init 47 = .ok (.aload_n 0, 1) := by decide +kernel
theorem dX6_init_48 : decode cX6_init 48 = .ok (.bipush 80, 2) := by decide +kernel
theorem dX6_init_50 : decode cX6_init 50 = .ok (.newarray .int, 2) := by decide +kernel
theorem dX6_init_52 : decode cX6_init 52 = .ok (.putfield 26, 3) := by decide +kernel
theorem dX6_init_55 : decode cX6_init 55 = .ok (.aload_n 0, 1) := by decide +kernel
theorem dX6_init_56 : decode cX6_init 56 = .ok (.sipush 240, 3) := by decide +kernel
theorem dX6_init_59 : decode cX6_init 59 = .ok (.newarray .int, 2) := by decide +kernel
theorem dX6_init_61 : decode cX6_init 61 = .ok (.putfield 29, 3) := by decide +kernel
theorem dX6_init_64 : decode cX6_init 64 = .ok (.aload_n 0, 1) := by decide +kernel
theorem dX6_init_65 : decode cX6_init 65 = .ok (.iconst 0, 1) := by decide +kernel
theorem dX6_init_66 : decode cX6_init 66 = .ok (.putfield 32, 3) := by decide +kernel
theorem dX6_init_69 : decode cX6_init 69 = .ok (.return_, 1) := by decide +kernel
theorem dX6_in_0 : decode cX6_in 0 = .ok (.iload_n 0, 1) := by decide +kernel
theorem dX6_in_1 : decode cX6_in 1 = .ok (.iload_n 1, 1) := by decide +kernel
theorem dX6_in_2 : decode cX6_in 2 = .ok (.if_icmp .lt 12, 3) := by decide +kernel
theorem dX6_in_5 : decode cX6_in 5 = .ok (.iload_n 0, 1) := by decide +kernel
theorem dX6_in_6 : decode cX6_in 6 = .ok (.iload_n 2, 1) := by decide +kernel
theorem dX6_in_7 : decode cX6_in 7 = .ok (.if_icmp .gt 7, 3) := by decide +kernel
theorem dX6_in_10 : decode cX6_in 10 = .ok (.iconst 1, 1) := by decide +kernel
theorem dX6_in_11 : decode cX6_in 11 = .ok (.goto 4, 3) := by decide +kernel
theorem dX6_in_14 : decode cX6_in 14 = .ok (.iconst 0, 1) := by decide +kernel
theorem dX6_in_15 : decode cX6_in 15 = .ok (.ireturn, 1) := by decide +kernel
theorem dX6_get_0 : decode cX6_get 0 = .ok (.aload_n 0, 1) := by decide +kernel
theorem dX6_get_1 : decode cX6_get 1 = .ok (.getfield 7, 3) := by decide +kernel
theorem dX6_get_4 : decode cX6_get 4 = .ok (.bipush 16, 2) := by decide +kernel
theorem dX6_get_6 : decode cX6_get 6 = .ok (.bipush 11, 2) := by decide +kernel
theorem dX6_get_8 : decode cX6_get 8 = .ok (.iload_n 1, 1) := by decide +kernel
theorem dX6_get_9 : decode cX6_get 9 = .ok (.imul, 1) := by decide +kernel
theorem dX6_get_10 : decode cX6_get 10 = .ok (.iadd, 1) := by decide +kernel
theorem dX6_get_11 : decode cX6_get 11 = .ok (.iload_n 2, 1) := by decide +kernel
theorem dX6_get_12 : decode cX6_get 12 = .ok (.iadd, 1) := by decide +kernel
theorem dX6_get_13 : decode cX6_get 13 = .ok (.iaload, 1) := by decide +kernel
theorem dX6_get_14 : decode cX6_get 14 = .ok (.ireturn, 1) := by decide +kernel
theorem dX6_lay_0 : decode cX6_lay 0 = .ok (.aload_n 0, 1) := by decide +kernel
theorem dX6_lay_1 : decode cX6_lay 1 = .ok (.getfield 7, 3) := by decide +kernel
theorem dX6_lay_4 : decode cX6_lay 4 = .ok (.bipush 16, 2) := by decide +kernel
theorem dX6_lay_6 : decode cX6_lay 6 = .ok (.bipush 11, 2) := by decide +kernel
theorem dX6_lay_8 : decode cX6_lay 8 = .ok (.iload_n 1, 1) := by decide +kernel
theorem dX6_lay_9 : decode cX6_lay 9 = .ok (.imul, 1) := by decide +kernel
theorem dX6_lay_10 : decode cX6_lay 10 = .ok (.iadd, 1) := by decide +kernel
theorem dX6_lay_11 : decode cX6_lay 11 = .ok (.iload_n 2, 1) := by decide +kernel
theorem dX6_lay_12 : decode cX6_lay 12 = .ok (.iadd, 1) := by decide +kernel
theorem dX6_lay_13 : decode cX6_lay 13 = .ok (.iload_n 3, 1) := by decide +kernel
theorem dX6_lay_14 : decode cX6_lay 14 = .ok (.iastore, 1) := by decide +kernel
theorem dX6_lay_15 : decode cX6_lay 15 = .ok (.return_, 1) := by decide +kernel
theorem dX6_locoOf_0 : decode cX6_locoOf 0 = .ok (.iconst 0, 1) := by decide +kernel
theorem dX6_locoOf_1 : decode cX6_locoOf 1 = .ok (.istore_n 2, 1) := by decide +kernel
theorem dX6_locoOf_2 : decode cX6_locoOf 2 = .ok (.iload_n 2, 1) := by decide +kernel
theorem dX6_locoOf_3 : decode cX6_locoOf 3 = .ok (.aload_n 0, 1) := by decide +kernel
theorem dX6_locoOf_4 : decode cX6_locoOf 4 = .ok (.getfield 7, 3) := by decide +kernel
theorem dX6_locoOf_7 : decode cX6_locoOf 7 = .ok (.bipush 6, 2) := by decide +kernel
theorem dX6_locoOf_9 : decode cX6_locoOf 9 = .ok (.iaload, 1) := by decide +kernel
theorem dX6_locoOf_10 : decode cX6_locoOf 10 = .ok (.if_icmp .ge 21, 3) := by decide +kernel
theorem dX6_locoOf_13 : decode cX6_locoOf 13 = .ok (.aload_n 0, 1) := by decide +kernel
theorem dX6_locoOf_14 : decode cX6_locoOf 14 = .ok (.iload_n 2, 1) := by decide +kernel
theorem dX6_locoOf_15 : decode cX6_locoOf 15 = .ok (.iconst 0, 1) := by decide +kernel
theorem dX6_locoOf_16 : decode cX6_locoOf 16 = .ok (.invokevirtual 36, 3) := by decide +kernel
theorem dX6_locoOf_19 : decode cX6_locoOf 19 = .ok (.iload_n 1, 1) := by decide +kernel
theorem dX6_locoOf_20 : decode cX6_locoOf 20 = .ok (.if_icmp .ne 5, 3) := by decide +kernel
theorem dX6_locoOf_23 : decode cX6_locoOf 23 = .ok (.iload_n 2, 1) := by decide +kernel
theorem dX6_locoOf_24 : decode cX6_locoOf 24 = .ok (.ireturn, 1) := by decide +kernel
theorem dX6_locoOf_25 : decode cX6_locoOf 25 = .ok (.iinc 2 1, 3) := by decide +kernel
theorem dX6_locoOf_28 : decode cX6_locoOf 28 = .ok (.goto (-26), 3) := by decide +kernel
theorem dX6_locoOf_31 : decode cX6_locoOf 31 = .ok (.bipush (-6), 2) := by decide +kernel
theorem dX6_locoOf_33 : decode cX6_locoOf 33 = .ok (.ireturn, 1) := by decide +kernel
theorem dX6_records_0 : decode cX6_records 0 = .ok (.aload_n 0, 1) := by decide +kernel
theorem dX6_records_1 : decode cX6_records 1 = .ok (.getfield 40, 3) := by decide +kernel
theorem dX6_records_4 : decode cX6_records 4 = .ok (.bipush 6, 2) := by decide +kernel
theorem dX6_records_6 : decode cX6_records 6 = .ok (.if_icmp .ne 44, 3) := by decide +kernel
theorem dX6_records_9 : decode cX6_records 9 = .ok (.iconst 0, 1) := by decide +kernel
theorem dX6_records_10 : decode cX6_records 10 = .ok (.istore_n 1, 1) := by decide +kernel
theorem dX6_records_11 : decode cX6_records 11 = .ok (.iload_n 1, 1) := by decide +kernel
theorem dX6_records_12 : decode cX6_records 12 = .ok (.sipush 820, 3) := by decide +kernel
theorem dX6_records_15 : decode cX6_records 15 = .ok (.if_icmp .ge 25, 3) := by decide +kernel
theorem dX6_records_18 : decode cX6_records 18 = .ok (.aload_n 0, 1) := by decide +kernel
theorem dX6_records_19 : decode cX6_records 19 = .ok (.getfield 16, 3) := by decide +kernel
theorem dX6_records_22 : decode cX6_records 22 = .ok (.iload_n 1, 1) := by decide +kernel
theorem dX6_records_23 : decode cX6_records 23 = .ok (.aload_n 0, 1) := by decide +kernel
theorem dX6_records_24 : decode cX6_records 24 = .ok (.getfield 16, 3) := by decide +kernel
theorem dX6_records_27 : decode cX6_records 27 = .ok (.iload_n 1, 1) := by decide +kernel
theorem dX6_records_28 : decode cX6_records 28 = .ok (.sipush 164, 3) := by decide +kernel
theorem dX6_records_31 : decode cX6_records 31 = .ok (.iadd, 1) := by decide +kernel
theorem dX6_records_32 : decode cX6_records 32 = .ok (.iaload, 1) := by decide +kernel
theorem dX6_records_33 : decode cX6_records 33 = .ok (.iastore, 1) := by decide +kernel
theorem dX6_records_34 : decode cX6_records 34 = .ok (.iinc 1 1, 3) := by decide +kernel
theorem dX6_records_37 : decode cX6_records 37 = .ok (.goto (-26), 3) := by decide +kernel
theorem dX6_records_40 : decode cX6_records 40 = .ok (.aload_n 0, 1) := by decide +kernel
theorem dX6_records_41 : decode cX6_records 41 = .ok (.dup, 1) := by decide +kernel
theorem dX6_records_42 : decode cX6_records 42 = .ok (.getfield 40, 3) := by decide +kernel
theorem dX6_records_45 : decode cX6_records 45 = .ok (.iconst 1, 1) := by decide +kernel
theorem dX6_records_46 : decode cX6_records 46 = .ok (.isub, 1) := by decide +kernel
theorem dX6_records_47 : decode cX6_records 47 = .ok (.putfield 40, 3) := by decide +kernel
theorem dX6_records_50 : decode cX6_records 50 = .ok (.iconst 0, 1) := by decide +kernel
theorem dX6_records_51 : decode cX6_records 51 = .ok (.istore_n 1, 1) := by decide +kernel
theorem dX6_records_52 : decode cX6_records 52 = .ok (.iload_n 1, 1) := by decide +kernel
theorem dX6_records_53 : decode cX6_records 53 = .ok (.sipush 164, 3) := by decide +kernel
theorem dX6_records_56 : decode cX6_records 56 = .ok (.if_icmp .ge 30, 3) := by decide +kernel
theorem dX6_records_59 : decode cX6_records 59 = .ok (.aload_n 0, 1) := by decide +kernel
theorem dX6_records_60 : decode cX6_records 60 = .ok (.getfield 16, 3) := by decide +kernel
theorem dX6_records_63 : decode cX6_records 63 = .ok (.sipush 164, 3) := by decide +kernel
theorem dX6_records_66 : decode cX6_records 66 = .ok (.aload_n 0, 1) := by decide +kernel
theorem dX6_records_67 : decode cX6_records 67 = .ok (.getfield 40, 3) := by decide +kernel
theorem dX6_records_70 : decode cX6_records 70 = .ok (.imul, 1) := by decide +kernel
theorem dX6_records_71 : decode cX6_records 71 = .ok (.iload_n 1, 1) := by decide +kernel
theorem dX6_records_72 : decode cX6_records 72 = .ok (.iadd, 1) := by decide +kernel
theorem dX6_records_73 : decode cX6_records 73 = .ok (.aload_n 0, 1) := by decide +kernel
theorem dX6_records_74 : decode cX6_records 74 = .ok (.getfield 7, 3) := by decide +kernel
theorem dX6_records_77 : decode cX6_records 77 = .ok (.iload_n 1, 1) := by decide +kernel
theorem dX6_records_78 : decode cX6_records 78 = .ok (.iaload, 1) := by decide +kernel
theorem dX6_records_79 : decode cX6_records 79 = .ok (.iastore, 1) := by decide +kernel
theorem dX6_records_80 : decode cX6_records 80 = .ok (.iinc 1 1, 3) := by decide +kernel
theorem dX6_records_83 : decode cX6_records 83 = .ok (.goto (-31), 3) := by decide +kernel
theorem dX6_records_86 : decode cX6_records 86 = .ok (.aload_n 0, 1) := by decide +kernel
theorem dX6_records_87 : decode cX6_records 87 = .ok (.dup, 1) := by decide +kernel
theorem dX6_records_88 : decode cX6_records 88 = .ok (.getfield 40, 3) := by decide +kernel
theorem dX6_records_91 : decode cX6_records 91 = .ok (.iconst 1, 1) := by decide +kernel
theorem dX6_records_92 : decode cX6_records 92 = .ok (.iadd, 1) := by decide +kernel
theorem dX6_records_93 : decode cX6_records 93 = .ok (.putfield 40, 3) := by decide +kernel
theorem dX6_records_96 : decode cX6_records 96 = .ok (.return_, 1) := by decide +kernel
theorem dX6_putAside_0 : decode cX6_putAside 0 = .ok (.iconst 0, 1) := by decide +kernel
theorem dX6_putAside_1 : decode cX6_putAside 1 = .ok (.istore_n 1, 1) := by decide +kernel
theorem dX6_putAside_2 : decode cX6_putAside 2 = .ok (.iload_n 1, 1) := by decide +kernel
theorem dX6_putAside_3 : decode cX6_putAside 3 = .ok (.sipush 164, 3) := by decide +kernel
theorem dX6_putAside_6 : decode cX6_putAside 6 = .ok (.if_icmp .ge 21, 3) := by decide +kernel
theorem dX6_putAside_9 : decode cX6_putAside 9 = .ok (.aload_n 0, 1) := by decide +kernel
theorem dX6_putAside_10 : decode cX6_putAside 10 = .ok (.getfield 13, 3) := by decide +kernel
theorem dX6_putAside_13 : decode cX6_putAside 13 = .ok (.iload_n 1, 1) := by decide +kernel
theorem dX6_putAside_14 : decode cX6_putAside 14 = .ok (.aload_n 0, 1) := by decide +kernel
theorem dX6_putAside_15 : decode cX6_putAside 15 = .ok (.getfield 7, 3) := by decide +kernel
theorem dX6_putAside_18 : decode cX6_putAside 18 = .ok (.iload_n 1, 1) := by decide +kernel
theorem dX6_putAside_19 : decode cX6_putAside 19 = .ok (.iaload, 1) := by decide +kernel
theorem dX6_putAside_20 : decode cX6_putAside 20 = .ok (.iastore, 1) := by decide +kernel
theorem dX6_putAside_21 : decode cX6_putAside 21 = .ok (.iinc 1 1, 3) := by decide +kernel
theorem dX6_putAside_24 : decode cX6_putAside 24 = .ok (.goto (-22), 3) := by decide +kernel
theorem dX6_putAside_27 : decode cX6_putAside 27 = .ok (.return_, 1) := by decide +kernel
theorem dX6_takeBack_0 : decode cX6_takeBack 0 = .ok (.iconst 0, 1) := by decide +kernel
theorem dX6_takeBack_1 : decode cX6_takeBack 1 = .ok (.istore_n 1, 1) := by decide +kernel
theorem dX6_takeBack_2 : decode cX6_takeBack 2 = .ok (.iload_n 1, 1) := by decide +kernel
theorem dX6_takeBack_3 : decode cX6_takeBack 3 = .ok (.sipush 164, 3) := by decide +kernel
theorem dX6_takeBack_6 : decode cX6_takeBack 6 = .ok (.if_icmp .ge 21, 3) := by decide +kernel
theorem dX6_takeBack_9 : decode cX6_takeBack 9 = .ok (.aload_n 0, 1) := by decide +kernel
theorem dX6_takeBack_10 : decode cX6_takeBack 10 = .ok (.getfield 7, 3) := by decide +kernel
theorem dX6_takeBack_13 : decode cX6_takeBack 13 = .ok (.iload_n 1, 1) := by decide +kernel
theorem dX6_takeBack_14 : decode cX6_takeBack 14 = .ok (.aload_n 0, 1) := by decide +kernel
theorem dX6_takeBack_15 : decode cX6_takeBack 15 = .ok (.getfield 13, 3) := by decide +kernel
theorem dX6_takeBack_18 : decode cX6_takeBack 18 = .ok (.iload_n 1, 1) := by decide +kernel
theorem dX6_takeBack_19 : decode cX6_takeBack 19 = .ok (.iaload, 1) := by decide +kernel
theorem dX6_takeBack_20 : decode cX6_takeBack 20 = .ok (.iastore, 1) := by decide +kernel
theorem dX6_takeBack_21 : decode cX6_takeBack 21 = .ok (.iinc 1 1, 3) := by decide +kernel
theorem dX6_takeBack_24 : decode cX6_takeBack 24 = .ok (.goto (-22), 3) := by decide +kernel
theorem dX6_takeBack_27 : decode cX6_takeBack 27 = .ok (.return_, 1) := by decide +kernel
theorem dX6_blockOf_0 : decode cX6_blockOf 0 = .ok (.aload_n 0, 1) := by decide +kernel
theorem dX6_blockOf_1 : decode cX6_blockOf 1 = .ok (.iload_n 1, 1) := by decide +kernel
theorem dX6_blockOf_2 : decode cX6_blockOf 2 = .ok (.iconst 3, 1) := by decide +kernel
theorem dX6_blockOf_3 : decode cX6_blockOf 3 = .ok (.invokevirtual 36, 3) := by decide +kernel
theorem dX6_blockOf_6 : decode cX6_blockOf 6 = .ok (.bipush 100, 2) := by decide +kernel
theorem dX6_blockOf_8 : decode cX6_blockOf 8 = .ok (.idiv, 1) := by decide +kernel
theorem dX6_blockOf_9 : decode cX6_blockOf 9 = .ok (.ireturn, 1) := by decide +kernel
theorem dX6_isShort_0 : decode cX6_isShort 0 = .ok (.aload_n 0, 1) := by decide +kernel
theorem dX6_isShort_1 : decode cX6_isShort 1 = .ok (.getfield 7, 3) := by decide +kernel
theorem dX6_isShort_4 : decode cX6_isShort 4 = .ok (.bipush 8, 2) := by decide +kernel
theorem dX6_isShort_6 : decode cX6_isShort 6 = .ok (.aload_n 0, 1) := by decide +kernel
theorem dX6_isShort_7 : decode cX6_isShort 7 = .ok (.iload_n 1, 1) := by decide +kernel
theorem dX6_isShort_8 : decode cX6_isShort 8 = .ok (.invokevirtual 43, 3) := by decide +kernel
theorem dX6_isShort_11 : decode cX6_isShort 11 = .ok (.iadd, 1) := by decide +kernel
theorem dX6_isShort_12 : decode cX6_isShort 12 = .ok (.iaload, 1) := by decide +kernel
theorem dX6_isShort_13 : decode cX6_isShort 13 = .ok (.ifCond .le 7, 3) := by decide +kernel
theorem dX6_isShort_16 : decode cX6_isShort 16 = .ok (.iconst 1, 1) := by decide +kernel
theorem dX6_isShort_17 : decode cX6_isShort 17 = .ok (.goto 4, 3) := by decide +kernel
theorem dX6_isShort_20 : decode cX6_isShort 20 = .ok (.iconst 0, 1) := by decide +kernel
theorem dX6_isShort_21 : decode cX6_isShort 21 = .ok (.ireturn, 1) := by decide +kernel
theorem dX6_byCurve_0 : decode cX6_byCurve 0 = .ok (.iload_n 1, 1) := by decide +kernel
theorem dX6_byCurve_1 : decode cX6_byCurve 1 = .ok (.iload_n 1, 1) := by decide +kernel
theorem dX6_byCurve_2 : decode cX6_byCurve 2 = .ok (.imul, 1) := by decide +kernel
theorem dX6_byCurve_3 : decode cX6_byCurve 3 = .ok (.bipush 10, 2) := by decide +kernel
theorem dX6_byCurve_5 : decode cX6_byCurve 5 = .ok (.imul, 1) := by decide +kernel
theorem dX6_byCurve_6 : decode cX6_byCurve 6 = .ok (.bipush 28, 2) := by decide +kernel
theorem dX6_byCurve_8 : decode cX6_byCurve 8 = .ok (.idiv, 1) := by decide +kernel
theorem dX6_byCurve_9 : decode cX6_byCurve 9 = .ok (.istore_n 2, 1) := by decide +kernel
theorem dX6_byCurve_10 : decode cX6_byCurve 10 = .ok (.iload_n 0, 1) := by decide +kernel
theorem dX6_byCurve_11 : decode cX6_byCurve 11 = .ok (.ifCond .ne 10, 3) := by decide +kernel
theorem dX6_byCurve_14 : decode cX6_byCurve 14 = .ok (.bipush 10, 2) := by decide +kernel
theorem dX6_byCurve_16 : decode cX6_byCurve 16 = .ok (.iload_n 1, 1) := by decide +kernel
theorem dX6_byCurve_17 : decode cX6_byCurve 17 = .ok (.imul, 1) := by decide +kernel
theorem dX6_byCurve_18 : decode cX6_byCurve 18 = .ok (.goto 18, 3) := by decide +kernel
theorem dX6_byCurve_21 : decode cX6_byCurve 21 = .ok (.iload_n 0, 1) := by decide +kernel
theorem dX6_byCurve_22 : decode cX6_byCurve 22 = .ok (.iconst 1, 1) := by decide +kernel
theorem dX6_byCurve_23 : decode cX6_byCurve 23 = .ok (.if_icmp .ne 7, 3) := by decide +kernel
theorem dX6_byCurve_26 : decode cX6_byCurve 26 = .ok (.iload_n 2, 1) := by decide +kernel
theorem dX6_byCurve_27 : decode cX6_byCurve 27 = .ok (.goto 9, 3) := by decide +kernel
theorem dX6_byCurve_30 : decode cX6_byCurve 30 = .ok (.bipush 20, 2) := by decide +kernel
theorem dX6_byCurve_32 : decode cX6_byCurve 32 = .ok (.iload_n 1, 1) := by decide +kernel
theorem dX6_byCurve_33 : decode cX6_byCurve 33 = .ok (.imul, 1) := by decide +kernel
theorem dX6_byCurve_34 : decode cX6_byCurve 34 = .ok (.iload_n 2, 1) := by decide +kernel
theorem dX6_byCurve_35 : decode cX6_byCurve 35 = .ok (.isub, 1) := by decide +kernel
theorem dX6_byCurve_36 : decode cX6_byCurve 36 = .ok (.ireturn, 1) := by decide +kernel
theorem dX6_due_0 : decode cX6_due 0 = .ok (.aload_n 0, 1) := by decide +kernel
theorem dX6_due_1 : decode cX6_due 1 = .ok (.iload_n 1, 1) := by decide +kernel
theorem dX6_due_2 : decode cX6_due 2 = .ok (.iconst 2, 1) := by decide +kernel
theorem dX6_due_3 : decode cX6_due 3 = .ok (.invokevirtual 36, 3) := by decide +kernel
theorem dX6_due_6 : decode cX6_due 6 = .ok (.aload_n 0, 1) := by decide +kernel
theorem dX6_due_7 : decode cX6_due 7 = .ok (.iload_n 1, 1) := by decide +kernel
theorem dX6_due_8 : decode cX6_due 8 = .ok (.bipush 6, 2) := by decide +kernel
theorem dX6_due_10 : decode cX6_due 10 = .ok (.invokevirtual 36, 3) := by decide +kernel
theorem dX6_due_13 : decode cX6_due 13 = .ok (.invokestatic 47, 3) := by decide +kernel
theorem dX6_due_16 : decode cX6_due 16 = .ok (.istore_n 2, 1) := by decide +kernel
theorem dX6_due_17 : decode cX6_due 17 = .ok (.aload_n 0, 1) := by decide +kernel
theorem dX6_due_18 : decode cX6_due 18 = .ok (.iload_n 1, 1) := by decide +kernel
theorem dX6_due_19 : decode cX6_due 19 = .ok (.bipush 7, 2) := by decide +kernel
theorem dX6_due_21 : decode cX6_due 21 = .ok (.invokevirtual 36, 3) := by decide +kernel
theorem dX6_due_24 : decode cX6_due 24 = .ok (.iconst 1, 1) := by decide +kernel
theorem dX6_due_25 : decode cX6_due 25 = .ok (.if_icmp .ne 7, 3) := by decide +kernel
theorem dX6_due_28 : decode cX6_due 28 = .ok (.iload_n 2, 1) := by decide +kernel
theorem dX6_due_29 : decode cX6_due 29 = .ok (.goto 5, 3) := by decide +kernel
theorem dX6_due_32 : decode cX6_due 32 = .ok (.iload_n 2, 1) := by decide +kernel
theorem dX6_due_33 : decode cX6_due 33 = .ok (.ineg, 1) := by decide +kernel
theorem dX6_due_34 : decode cX6_due 34 = .ok (.ireturn, 1) := by decide +kernel
theorem dX6_hears_0 : decode cX6_hears 0 = .ok (.aload_n 0, 1) := by decide +kernel
theorem dX6_hears_1 : decode cX6_hears 1 = .ok (.iload_n 1, 1) := by decide +kernel
theorem dX6_hears_2 : decode cX6_hears 2 = .ok (.bipush 9, 2) := by decide +kernel
theorem dX6_hears_4 : decode cX6_hears 4 = .ok (.aload_n 0, 1) := by decide +kernel
theorem dX6_hears_5 : decode cX6_hears 5 = .ok (.iload_n 1, 1) := by decide +kernel
theorem dX6_hears_6 : decode cX6_hears 6 = .ok (.bipush 9, 2) := by decide +kernel
theorem dX6_hears_8 : decode cX6_hears 8 = .ok (.invokevirtual 36, 3) := by decide +kernel
theorem dX6_hears_11 : decode cX6_hears 11 = .ok (.iconst 1, 1) := by decide +kernel
theorem dX6_hears_12 : decode cX6_hears 12 = .ok (.iadd, 1) := by decide +kernel
theorem dX6_hears_13 : decode cX6_hears 13 = .ok (.invokevirtual 50, 3) := by decide +kernel
theorem dX6_hears_16 : decode cX6_hears 16 = .ok (.iload_n 2, 1) := by decide +kernel
theorem dX6_hears_17 : decode cX6_hears 17 = .ok (.bipush 31, 2) := by decide +kernel
theorem dX6_hears_19 : decode cX6_hears 19 = .ok (.if_icmp .ne 21, 3) := by decide +kernel
theorem dX6_hears_22 : decode cX6_hears 22 = .ok (.aload_n 0, 1) := by decide +kernel
theorem dX6_hears_23 : decode cX6_hears 23 = .ok (.iload_n 1, 1) := by decide +kernel
theorem dX6_hears_24 : decode cX6_hears 24 = .ok (.bipush 6, 2) := by decide +kernel
theorem dX6_hears_26 : decode cX6_hears 26 = .ok (.iconst 0, 1) := by decide +kernel
theorem dX6_hears_27 : decode cX6_hears 27 = .ok (.invokevirtual 50, 3) := by decide +kernel
theorem dX6_hears_30 : decode cX6_hears 30 = .ok (.aload_n 0, 1) := by decide +kernel
theorem dX6_hears_31 : decode cX6_hears 31 = .ok (.iload_n 1, 1) := by decide +kernel
theorem dX6_hears_32 : decode cX6_hears 32 = .ok (.iconst 5, 1) := by decide +kernel
theorem dX6_hears_33 : decode cX6_hears 33 = .ok (.iconst 0, 1) := by decide +kernel
theorem dX6_hears_34 : decode cX6_hears 34 = .ok (.invokevirtual 50, 3) := by decide +kernel
theorem dX6_hears_37 : decode cX6_hears 37 = .ok (.goto 66, 3) := by decide +kernel
theorem dX6_hears_40 : decode cX6_hears 40 = .ok (.iload_n 2, 1) := by decide +kernel
theorem dX6_hears_41 : decode cX6_hears 41 = .ok (.bipush 64, 2) := by decide +kernel
theorem dX6_hears_43 : decode cX6_hears 43 = .ok (.bipush 67, 2) := by decide +kernel
theorem dX6_hears_45 : decode cX6_hears 45 = .ok (.invokestatic 54, 3) := by decide +kernel
theorem dX6_hears_48 : decode cX6_hears 48 = .ok (.ifCond .eq 17, 3) := by decide +kernel
theorem dX6_hears_51 : decode cX6_hears 51 = .ok (.aload_n 0, 1) := by decide +kernel
theorem dX6_hears_52 : decode cX6_hears 52 = .ok (.iload_n 1, 1) := by decide +kernel
theorem dX6_hears_53 : decode cX6_hears 53 = .ok (.bipush 8, 2) := by decide +kernel
theorem dX6_hears_55 : decode cX6_hears 55 = .ok (.iload_n 2, 1) := by decide +kernel
theorem dX6_hears_56 : decode cX6_hears 56 = .ok (.bipush 64, 2) := by decide +kernel
theorem dX6_hears_58 : decode cX6_hears 58 = .ok (.isub, 1) := by decide +kernel
theorem dX6_hears_59 : decode cX6_hears 59 = .ok (.invokevirtual 50, 3) := by decide +kernel
theorem dX6_hears_62 : decode cX6_hears 62 = .ok (.goto 41, 3) := by decide +kernel
theorem dX6_hears_65 : decode cX6_hears 65 = .ok (.iload_n 2, 1) := by decide +kernel
theorem dX6_hears_66 : decode cX6_hears 66 = .ok (.sipush 128, 3) := by decide +kernel
theorem dX6_hears_69 : decode cX6_hears 69 = .ok (.irem, 1) := by decide +kernel
theorem dX6_hears_70 : decode cX6_hears 70 = .ok (.iconst 0, 1) := by decide +kernel
theorem dX6_hears_71 : decode cX6_hears 71 = .ok (.bipush 28, 2) := by decide +kernel
theorem dX6_hears_73 : decode cX6_hears 73 = .ok (.invokestatic 54, 3) := by decide +kernel
theorem dX6_hears_76 : decode cX6_hears 76 = .ok (.ifCond .eq 27, 3) := by decide +kernel
theorem dX6_hears_79 : decode cX6_hears 79 = .ok (.aload_n 0, 1) := by decide +kernel
theorem dX6_hears_80 : decode cX6_hears 80 = .ok (.iload_n 1, 1) := by decide +kernel
theorem dX6_hears_81 : decode cX6_hears 81 = .ok (.bipush 6, 2) := by decide +kernel
theorem dX6_hears_83 : decode cX6_hears 83 = .ok (.iload_n 2, 1) := by decide +kernel
theorem dX6_hears_84 : decode cX6_hears 84 = .ok (.sipush 128, 3) := by decide +kernel
theorem dX6_hears_87 : decode cX6_hears 87 = .ok (.irem, 1) := by decide +kernel
theorem dX6_hears_88 : decode cX6_hears 88 = .ok (.invokevirtual 50, 3) := by decide +kernel
theorem dX6_hears_91 : decode cX6_hears 91 = .ok (.aload_n 0, 1) := by decide +kernel
theorem dX6_hears_92 : decode cX6_hears 92 = .ok (.iload_n 1, 1) := by decide +kernel
theorem dX6_hears_93 : decode cX6_hears 93 = .ok (.bipush 7, 2) := by decide +kernel
theorem dX6_hears_95 : decode cX6_hears 95 = .ok (.iload_n 2, 1) := by decide +kernel
theorem dX6_hears_96 : decode cX6_hears 96 = .ok (.sipush 128, 3) := by decide +kernel
theorem dX6_hears_99 : decode cX6_hears 99 = .ok (.idiv, 1) := by decide +kernel
theorem dX6_hears_100 : decode cX6_hears 100 = .ok (.invokevirtual 50, 3) := by decide +kernel
theorem dX6_hears_103 : decode cX6_hears 103 = .ok (.return_, 1) := by decide +kernel
theorem dX6_comes_0 : decode cX6_comes 0 = .ok (.aload_n 0, 1) := by decide +kernel
theorem dX6_comes_1 : decode cX6_comes 1 = .ok (.getfield 7, 3) := by decide +kernel
theorem dX6_comes_4 : decode cX6_comes 4 = .ok (.iconst 3, 1) := by decide +kernel
theorem dX6_comes_5 : decode cX6_comes 5 = .ok (.dup2, 1) := by decide +kernel
theorem dX6_comes_6 : decode cX6_comes 6 = .ok (.iaload, 1) := by decide +kernel
theorem dX6_comes_7 : decode cX6_comes 7 = .ok (.iconst 1, 1) := by decide +kernel
theorem dX6_comes_8 : decode cX6_comes 8 = .ok (.iadd, 1) := by decide +kernel
theorem dX6_comes_9 : decode cX6_comes 9 = .ok (.iastore, 1) := by decide +kernel
theorem dX6_comes_10 : decode cX6_comes 10 = .ok (.iload_n 3, 1) := by decide +kernel
theorem dX6_comes_11 : decode cX6_comes 11 = .ok (.iload_n 1, 1) := by decide +kernel
theorem dX6_comes_12 : decode cX6_comes 12 = .ok (.iload_n 2, 1) := by decide +kernel
theorem dX6_comes_13 : decode cX6_comes 13 = .ok (.ixor, 1) := by decide +kernel
theorem dX6_comes_14 : decode cX6_comes 14 = .ok (.if_icmp .eq 15, 3) := by decide +kernel
theorem dX6_comes_17 : decode cX6_comes 17 = .ok (.aload_n 0, 1) := by decide +kernel
theorem dX6_comes_18 : decode cX6_comes 18 = .ok (.getfield 7, 3) := by decide +kernel
theorem dX6_comes_21 : decode cX6_comes 21 = .ok (.iconst 4, 1) := by decide +kernel
theorem dX6_comes_22 : decode cX6_comes 22 = .ok (.dup2, 1) := by decide +kernel
theorem dX6_comes_23 : decode cX6_comes 23 = .ok (.iaload, 1) := by decide +kernel
theorem dX6_comes_24 : decode cX6_comes 24 = .ok (.iconst 1, 1) := by decide +kernel
theorem dX6_comes_25 : decode cX6_comes 25 = .ok (.iadd, 1) := by decide +kernel
theorem dX6_comes_26 : decode cX6_comes 26 = .ok (.iastore, 1) := by decide +kernel
theorem dX6_comes_27 : decode cX6_comes 27 = .ok (.iconst 0, 1) := by decide +kernel
theorem dX6_comes_28 : decode cX6_comes 28 = .ok (.ireturn, 1) := by decide +kernel
theorem dX6_comes_29 : decode cX6_comes 29 = .ok (.iconst 0, 1) := by decide +kernel
theorem dX6_comes_30 : decode cX6_comes 30 = .ok (.istore 4, 2) := by decide +kernel
theorem dX6_comes_32 : decode cX6_comes 32 = .ok (.iconst 0, 1) := by decide +kernel
theorem dX6_comes_33 : decode cX6_comes 33 = .ok (.istore 5, 2) := by decide +kernel
theorem dX6_comes_35 : decode cX6_comes 35 = .ok (.iload 5, 2) := by decide +kernel
theorem dX6_comes_37 : decode cX6_comes 37 = .ok (.aload_n 0, 1) := by decide +kernel
theorem dX6_comes_38 : decode cX6_comes 38 = .ok (.getfield 7, 3) := by decide +kernel
theorem dX6_comes_41 : decode cX6_comes 41 = .ok (.bipush 6, 2) := by decide +kernel
theorem dX6_comes_43 : decode cX6_comes 43 = .ok (.iaload, 1) := by decide +kernel
theorem dX6_comes_44 : decode cX6_comes 44 = .ok (.if_icmp .ge 43, 3) := by decide +kernel
theorem dX6_comes_47 : decode cX6_comes 47 = .ok (.iload_n 1, 1) := by decide +kernel
theorem dX6_comes_48 : decode cX6_comes 48 = .ok (.ifCond .eq 14, 3) := by decide +kernel
theorem dX6_comes_51 : decode cX6_comes 51 = .ok (.aload_n 0, 1) := by decide +kernel
theorem dX6_comes_52 : decode cX6_comes 52 = .ok (.iload 5, 2) := by decide +kernel
theorem dX6_comes_54 : decode cX6_comes 54 = .ok (.iconst 0, 1) := by decide +kernel
theorem dX6_comes_55 : decode cX6_comes 55 = .ok (.invokevirtual 36, 3) := by decide +kernel
theorem dX6_comes_58 : decode cX6_comes 58 = .ok (.iload_n 1, 1) := by decide +kernel
theorem dX6_comes_59 : decode cX6_comes 59 = .ok (.if_icmp .ne 22, 3) := by decide +kernel
theorem dX6_comes_62 : decode cX6_comes 62 = .ok (.aload_n 0, 1) := by decide +kernel
theorem dX6_comes_63 : decode cX6_comes 63 = .ok (.iload 5, 2) := by decide +kernel
theorem dX6_comes_65 : decode cX6_comes 65 = .ok (.invokevirtual 58, 3) := by decide +kernel
theorem dX6_comes_68 : decode cX6_comes 68 = .ok (.ifCond .ne 13, 3) := by decide +kernel
theorem dX6_comes_71 : decode cX6_comes 71 = .ok (.aload_n 0, 1) := by decide +kernel
theorem dX6_comes_72 : decode cX6_comes 72 = .ok (.iload 5, 2) := by decide +kernel
theorem dX6_comes_74 : decode cX6_comes 74 = .ok (.iload_n 2, 1) := by decide +kernel
theorem dX6_comes_75 : decode cX6_comes 75 = .ok (.invokevirtual 62, 3) := by decide +kernel
theorem dX6_comes_78 : decode cX6_comes 78 = .ok (.iinc 4 1, 3) := by decide +kernel
theorem dX6_comes_81 : decode cX6_comes 81 = .ok (.iinc 5 1, 3) := by decide +kernel
theorem dX6_comes_84 : decode cX6_comes 84 = .ok (.goto (-49), 3) := by decide +kernel
theorem dX6_comes_87 : decode cX6_comes 87 = .ok (.iload 4, 2) := by decide +kernel
theorem dX6_comes_89 : decode cX6_comes 89 = .ok (.ireturn, 1) := by decide +kernel
theorem dX6_sends_0 : decode cX6_sends 0 = .ok (.aload_n 0, 1) := by decide +kernel
theorem dX6_sends_1 : decode cX6_sends 1 = .ok (.getfield 7, 3) := by decide +kernel
theorem dX6_sends_4 : decode cX6_sends 4 = .ok (.bipush 7, 2) := by decide +kernel
theorem dX6_sends_6 : decode cX6_sends 6 = .ok (.iaload, 1) := by decide +kernel
theorem dX6_sends_7 : decode cX6_sends 7 = .ok (.ifCond .ne 5, 3) := by decide +kernel
theorem dX6_sends_10 : decode cX6_sends 10 = .ok (.iconst 0, 1) := by decide +kernel
theorem dX6_sends_11 : decode cX6_sends 11 = .ok (.ireturn, 1) := by decide +kernel
theorem dX6_sends_12 : decode cX6_sends 12 = .ok (.aload_n 0, 1) := by decide +kernel
theorem dX6_sends_13 : decode cX6_sends 13 = .ok (.getfield 7, 3) := by decide +kernel
theorem dX6_sends_16 : decode cX6_sends 16 = .ok (.bipush 104, 2) := by decide +kernel
theorem dX6_sends_18 : decode cX6_sends 18 = .ok (.iaload, 1) := by decide +kernel
theorem dX6_sends_19 : decode cX6_sends 19 = .ok (.istore_n 1, 1) := by decide +kernel
theorem dX6_sends_20 : decode cX6_sends 20 = .ok (.aload_n 0, 1) := by decide +kernel
theorem dX6_sends_21 : decode cX6_sends 21 = .ok (.getfield 7, 3) := by decide +kernel
theorem dX6_sends_24 : decode cX6_sends 24 = .ok (.bipush 105, 2) := by decide +kernel
theorem dX6_sends_26 : decode cX6_sends 26 = .ok (.iaload, 1) := by decide +kernel
theorem dX6_sends_27 : decode cX6_sends 27 = .ok (.istore_n 2, 1) := by decide +kernel
theorem dX6_sends_28 : decode cX6_sends 28 = .ok (.iload_n 1, 1) := by decide +kernel
theorem dX6_sends_29 : decode cX6_sends 29 = .ok (.iload_n 2, 1) := by decide +kernel
theorem dX6_sends_30 : decode cX6_sends 30 = .ok (.ixor, 1) := by decide +kernel
theorem dX6_sends_31 : decode cX6_sends 31 = .ok (.istore_n 3, 1) := by decide +kernel
theorem dX6_sends_32 : decode cX6_sends 32 = .ok (.aload_n 0, 1) := by decide +kernel
theorem dX6_sends_33 : decode cX6_sends 33 = .ok (.getfield 7, 3) := by decide +kernel
theorem dX6_sends_36 : decode cX6_sends 36 = .ok (.bipush 7, 2) := by decide +kernel
theorem dX6_sends_38 : decode cX6_sends 38 = .ok (.dup2, 1) := by decide +kernel
theorem dX6_sends_39 : decode cX6_sends 39 = .ok (.iaload, 1) := by decide +kernel
theorem dX6_sends_40 : decode cX6_sends 40 = .ok (.iconst 1, 1) := by decide +kernel
theorem dX6_sends_41 : decode cX6_sends 41 = .ok (.isub, 1) := by decide +kernel
theorem dX6_sends_42 : decode cX6_sends 42 = .ok (.iastore, 1) := by decide +kernel
theorem dX6_sends_43 : decode cX6_sends 43 = .ok (.iconst 0, 1) := by decide +kernel
theorem dX6_sends_44 : decode cX6_sends 44 = .ok (.istore 4, 2) := by decide +kernel
theorem dX6_sends_46 : decode cX6_sends 46 = .ok (.iload 4, 2) := by decide +kernel
theorem dX6_sends_48 : decode cX6_sends 48 = .ok (.iconst 3, 1) := by decide +kernel
theorem dX6_sends_49 : decode cX6_sends 49 = .ok (.aload_n 0, 1) := by decide +kernel
theorem dX6_sends_50 : decode cX6_sends 50 = .ok (.getfield 7, 3) := by decide +kernel
theorem dX6_sends_53 : decode cX6_sends 53 = .ok (.bipush 7, 2) := by decide +kernel
theorem dX6_sends_55 : decode cX6_sends 55 = .ok (.iaload, 1) := by decide +kernel
theorem dX6_sends_56 : decode cX6_sends 56 = .ok (.imul, 1) := by decide +kernel
theorem dX6_sends_57 : decode cX6_sends 57 = .ok (.if_icmp .ge 31, 3) := by decide +kernel
theorem dX6_sends_60 : decode cX6_sends 60 = .ok (.aload_n 0, 1) := by decide +kernel
theorem dX6_sends_61 : decode cX6_sends 61 = .ok (.getfield 7, 3) := by decide +kernel
theorem dX6_sends_64 : decode cX6_sends 64 = .ok (.bipush 104, 2) := by decide +kernel
theorem dX6_sends_66 : decode cX6_sends 66 = .ok (.iload 4, 2) := by decide +kernel
theorem dX6_sends_68 : decode cX6_sends 68 = .ok (.iadd, 1) := by decide +kernel
theorem dX6_sends_69 : decode cX6_sends 69 = .ok (.aload_n 0, 1) := by decide +kernel
theorem dX6_sends_70 : decode cX6_sends 70 = .ok (.getfield 7, 3) := by decide +kernel
theorem dX6_sends_73 : decode cX6_sends 73 = .ok (.bipush 104, 2) := by decide +kernel
theorem dX6_sends_75 : decode cX6_sends 75 = .ok (.iload 4, 2) := by decide +kernel
theorem dX6_sends_77 : decode cX6_sends 77 = .ok (.iadd, 1) := by decide +kernel
theorem dX6_sends_78 : decode cX6_sends 78 = .ok (.iconst 3, 1) := by decide +kernel
theorem dX6_sends_79 : decode cX6_sends 79 = .ok (.iadd, 1) := by decide +kernel
theorem dX6_sends_80 : decode cX6_sends 80 = .ok (.iaload, 1) := by decide +kernel
theorem dX6_sends_81 : decode cX6_sends 81 = .ok (.iastore, 1) := by decide +kernel
theorem dX6_sends_82 : decode cX6_sends 82 = .ok (.iinc 4 1, 3) := by decide +kernel
theorem dX6_sends_85 : decode cX6_sends 85 = .ok (.goto (-39), 3) := by decide +kernel
theorem dX6_sends_88 : decode cX6_sends 88 = .ok (.iconst 0, 1) := by decide +kernel
theorem dX6_sends_89 : decode cX6_sends 89 = .ok (.istore 4, 2) := by decide +kernel
theorem dX6_sends_91 : decode cX6_sends 91 = .ok (.iload 4, 2) := by decide +kernel
theorem dX6_sends_93 : decode cX6_sends 93 = .ok (.iconst 3, 1) := by decide +kernel
theorem dX6_sends_94 : decode cX6_sends 94 = .ok (.if_icmp .ge 30, 3) := by decide +kernel
theorem dX6_sends_97 : decode cX6_sends 97 = .ok (.aload_n 0, 1) := by decide +kernel
theorem dX6_sends_98 : decode cX6_sends 98 = .ok (.getfield 7, 3) := by decide +kernel
theorem dX6_sends_101 : decode cX6_sends 101 = .ok (.bipush 104, 2) := by decide +kernel
theorem dX6_sends_103 : decode cX6_sends 103 = .ok (.iconst 3, 1) := by decide +kernel
theorem dX6_sends_104 : decode cX6_sends 104 = .ok (.aload_n 0, 1) := by decide +kernel
theorem dX6_sends_105 : decode cX6_sends 105 = .ok (.getfield 7, 3) := by decide +kernel
theorem dX6_sends_108 : decode cX6_sends 108 = .ok (.bipush 7, 2) := by decide +kernel
theorem dX6_sends_110 : decode cX6_sends 110 = .ok (.iaload, 1) := by decide +kernel
theorem dX6_sends_111 : decode cX6_sends 111 = .ok (.imul, 1) := by decide +kernel
theorem dX6_sends_112 : decode cX6_sends 112 = .ok (.iadd, 1) := by decide +kernel
theorem dX6_sends_113 : decode cX6_sends 113 = .ok (.iload 4, 2) := by decide +kernel
theorem dX6_sends_115 : decode cX6_sends 115 = .ok (.iadd, 1) := by decide +kernel
theorem dX6_sends_116 : decode cX6_sends 116 = .ok (.iconst 0, 1) := by decide +kernel
theorem dX6_sends_117 : decode cX6_sends 117 = .ok (.iastore, 1) := by decide +kernel
theorem dX6_sends_118 : decode cX6_sends 118 = .ok (.iinc 4 1, 3) := by decide +kernel
theorem dX6_sends_121 : decode cX6_sends 121 = .ok (.goto (-30), 3) := by decide +kernel
theorem dX6_sends_124 : decode cX6_sends 124 = .ok (.aload_n 0, 1) := by decide +kernel
theorem dX6_sends_125 : decode cX6_sends 125 = .ok (.getfield 7, 3) := by decide +kernel
theorem dX6_sends_128 : decode cX6_sends 128 = .ok (.iconst 1, 1) := by decide +kernel
theorem dX6_sends_129 : decode cX6_sends 129 = .ok (.iaload, 1) := by decide +kernel
theorem dX6_sends_130 : decode cX6_sends 130 = .ok (.ifCond .le 43, 3) := by decide +kernel
theorem dX6_sends_133 : decode cX6_sends 133 = .ok (.aload_n 0, 1) := by decide +kernel
theorem dX6_sends_134 : decode cX6_sends 134 = .ok (.getfield 7, 3) := by decide +kernel
theorem dX6_sends_137 : decode cX6_sends 137 = .ok (.iconst 2, 1) := by decide +kernel
theorem dX6_sends_138 : decode cX6_sends 138 = .ok (.iaload, 1) := by decide +kernel
theorem dX6_sends_139 : decode cX6_sends 139 = .ok (.aload_n 0, 1) := by decide +kernel
theorem dX6_sends_140 : decode cX6_sends 140 = .ok (.getfield 7, 3) := by decide +kernel
theorem dX6_sends_143 : decode cX6_sends 143 = .ok (.iconst 1, 1) := by decide +kernel
theorem dX6_sends_144 : decode cX6_sends 144 = .ok (.iaload, 1) := by decide +kernel
theorem dX6_sends_145 : decode cX6_sends 145 = .ok (.if_icmp .lt 28, 3) := by decide +kernel
theorem dX6_sends_148 : decode cX6_sends 148 = .ok (.iload_n 3, 1) := by decide +kernel
theorem dX6_sends_149 : decode cX6_sends 149 = .ok (.iconst 1, 1) := by decide +kernel
theorem dX6_sends_150 : decode cX6_sends 150 = .ok (.iadd, 1) := by decide +kernel
theorem dX6_sends_151 : decode cX6_sends 151 = .ok (.sipush 256, 3) := by decide +kernel
theorem dX6_sends_154 : decode cX6_sends 154 = .ok (.irem, 1) := by decide +kernel
theorem dX6_sends_155 : decode cX6_sends 155 = .ok (.istore_n 3, 1) := by decide +kernel
theorem dX6_sends_156 : decode cX6_sends 156 = .ok (.aload_n 0, 1) := by decide +kernel
theorem dX6_sends_157 : decode cX6_sends 157 = .ok (.getfield 7, 3) := by decide +kernel
theorem dX6_sends_160 : decode cX6_sends 160 = .ok (.iconst 2, 1) := by decide +kernel
theorem dX6_sends_161 : decode cX6_sends 161 = .ok (.iconst 0, 1) := by decide +kernel
theorem dX6_sends_162 : decode cX6_sends 162 = .ok (.iastore, 1) := by decide +kernel
theorem dX6_sends_163 : decode cX6_sends 163 = .ok (.aload_n 0, 1) := by decide +kernel
theorem dX6_sends_164 : decode cX6_sends 164 = .ok (.getfield 7, 3) := by decide +kernel
theorem dX6_sends_167 : decode cX6_sends 167 = .ok (.iconst 5, 1) := by decide +kernel
theorem dX6_sends_168 : decode cX6_sends 168 = .ok (.dup2, 1) := by decide +kernel
theorem dX6_sends_169 : decode cX6_sends 169 = .ok (.iaload, 1) := by decide +kernel
theorem dX6_sends_170 : decode cX6_sends 170 = .ok (.iconst 1, 1) := by decide +kernel
theorem dX6_sends_171 : decode cX6_sends 171 = .ok (.iadd, 1) := by decide +kernel
theorem dX6_sends_172 : decode cX6_sends 172 = .ok (.iastore, 1) := by decide +kernel
theorem dX6_sends_173 : decode cX6_sends 173 = .ok (.aload_n 0, 1) := by decide +kernel
theorem dX6_sends_174 : decode cX6_sends 174 = .ok (.iload_n 1, 1) := by decide +kernel
theorem dX6_sends_175 : decode cX6_sends 175 = .ok (.iload_n 2, 1) := by decide +kernel
theorem dX6_sends_176 : decode cX6_sends 176 = .ok (.iload_n 3, 1) := by decide +kernel
theorem dX6_sends_177 : decode cX6_sends 177 = .ok (.invokevirtual 66, 3) := by decide +kernel
theorem dX6_sends_180 : decode cX6_sends 180 = .ok (.pop, 1) := by decide +kernel
theorem dX6_sends_181 : decode cX6_sends 181 = .ok (.iconst 1, 1) := by decide +kernel
theorem dX6_sends_182 : decode cX6_sends 182 = .ok (.ireturn, 1) := by decide +kernel
theorem dX6_speeds_0 : decode cX6_speeds 0 = .ok (.bipush 60, 2) := by decide +kernel
theorem dX6_speeds_2 : decode cX6_speeds 2 = .ok (.aload_n 0, 1) := by decide +kernel
theorem dX6_speeds_3 : decode cX6_speeds 3 = .ok (.iload_n 1, 1) := by decide +kernel
theorem dX6_speeds_4 : decode cX6_speeds 4 = .ok (.iconst 1, 1) := by decide +kernel
theorem dX6_speeds_5 : decode cX6_speeds 5 = .ok (.invokevirtual 36, 3) := by decide +kernel
theorem dX6_speeds_8 : decode cX6_speeds 8 = .ok (.idiv, 1) := by decide +kernel
theorem dX6_speeds_9 : decode cX6_speeds 9 = .ok (.istore_n 2, 1) := by decide +kernel
theorem dX6_speeds_10 : decode cX6_speeds 10 = .ok (.aload_n 0, 1) := by decide +kernel
theorem dX6_speeds_11 : decode cX6_speeds 11 = .ok (.iload_n 1, 1) := by decide +kernel
theorem dX6_speeds_12 : decode cX6_speeds 12 = .ok (.iconst 5, 1) := by decide +kernel
theorem dX6_speeds_13 : decode cX6_speeds 13 = .ok (.invokevirtual 36, 3) := by decide +kernel
theorem dX6_speeds_16 : decode cX6_speeds 16 = .ok (.istore_n 3, 1) := by decide +kernel
theorem dX6_speeds_17 : decode cX6_speeds 17 = .ok (.aload_n 0, 1) := by decide +kernel
theorem dX6_speeds_18 : decode cX6_speeds 18 = .ok (.iload_n 1, 1) := by decide +kernel
theorem dX6_speeds_19 : decode cX6_speeds 19 = .ok (.invokevirtual 70, 3) := by decide +kernel
theorem dX6_speeds_22 : decode cX6_speeds 22 = .ok (.iload_n 3, 1) := by decide +kernel
theorem dX6_speeds_23 : decode cX6_speeds 23 = .ok (.isub, 1) := by decide +kernel
theorem dX6_speeds_24 : decode cX6_speeds 24 = .ok (.istore 4, 2) := by decide +kernel
theorem dX6_speeds_26 : decode cX6_speeds 26 = .ok (.iload 4, 2) := by decide +kernel
theorem dX6_speeds_28 : decode cX6_speeds 28 = .ok (.iload_n 2, 1) := by decide +kernel
theorem dX6_speeds_29 : decode cX6_speeds 29 = .ok (.if_icmp .le 9, 3) := by decide +kernel
theorem dX6_speeds_32 : decode cX6_speeds 32 = .ok (.iload_n 3, 1) := by decide +kernel
theorem dX6_speeds_33 : decode cX6_speeds 33 = .ok (.iload_n 2, 1) := by decide +kernel
theorem dX6_speeds_34 : decode cX6_speeds 34 = .ok (.iadd, 1) := by decide +kernel
theorem dX6_speeds_35 : decode cX6_speeds 35 = .ok (.goto 20, 3) := by decide +kernel
theorem dX6_speeds_38 : decode cX6_speeds 38 = .ok (.iload 4, 2) := by decide +kernel
theorem dX6_speeds_40 : decode cX6_speeds 40 = .ok (.iload_n 2, 1) := by decide +kernel
theorem dX6_speeds_41 : decode cX6_speeds 41 = .ok (.ineg, 1) := by decide +kernel
theorem dX6_speeds_42 : decode cX6_speeds 42 = .ok (.if_icmp .ge 9, 3) := by decide +kernel
theorem dX6_speeds_45 : decode cX6_speeds 45 = .ok (.iload_n 3, 1) := by decide +kernel
theorem dX6_speeds_46 : decode cX6_speeds 46 = .ok (.iload_n 2, 1) := by decide +kernel
theorem dX6_speeds_47 : decode cX6_speeds 47 = .ok (.isub, 1) := by decide +kernel
theorem dX6_speeds_48 : decode cX6_speeds 48 = .ok (.goto 7, 3) := by decide +kernel
theorem dX6_speeds_51 : decode cX6_speeds 51 = .ok (.iload_n 3, 1) := by decide +kernel
theorem dX6_speeds_52 : decode cX6_speeds 52 = .ok (.iload 4, 2) := by decide +kernel
theorem dX6_speeds_54 : decode cX6_speeds 54 = .ok (.iadd, 1) := by decide +kernel
theorem dX6_speeds_55 : decode cX6_speeds 55 = .ok (.istore 5, 2) := by decide +kernel
theorem dX6_speeds_57 : decode cX6_speeds 57 = .ok (.aload_n 0, 1) := by decide +kernel
theorem dX6_speeds_58 : decode cX6_speeds 58 = .ok (.iload_n 1, 1) := by decide +kernel
theorem dX6_speeds_59 : decode cX6_speeds 59 = .ok (.iconst 5, 1) := by decide +kernel
theorem dX6_speeds_60 : decode cX6_speeds 60 = .ok (.aload_n 0, 1) := by decide +kernel
theorem dX6_speeds_61 : decode cX6_speeds 61 = .ok (.iload_n 1, 1) := by decide +kernel
theorem dX6_speeds_62 : decode cX6_speeds 62 = .ok (.invokevirtual 58, 3) := by decide +kernel
theorem dX6_speeds_65 : decode cX6_speeds 65 = .ok (.ifCond .eq 7, 3) := by decide +kernel
theorem dX6_speeds_68 : decode cX6_speeds 68 = .ok (.iconst 0, 1) := by decide +kernel
theorem dX6_speeds_69 : decode cX6_speeds 69 = .ok (.goto 5, 3) := by decide +kernel
theorem dX6_speeds_72 : decode cX6_speeds 72 = .ok (.iload 5, 2) := by decide +kernel
theorem dX6_speeds_74 : decode cX6_speeds 74 = .ok (.invokevirtual 50, 3) := by decide +kernel
theorem dX6_speeds_77 : decode cX6_speeds 77 = .ok (.return_, 1) := by decide +kernel
theorem dX6_goes_0 : decode cX6_goes 0 = .ok (.bipush 10, 2) := by decide +kernel
theorem dX6_goes_2 : decode cX6_goes 2 = .ok (.aload_n 0, 1) := by decide +kernel
theorem dX6_goes_3 : decode cX6_goes 3 = .ok (.iload_n 1, 1) := by decide +kernel
theorem dX6_goes_4 : decode cX6_goes 4 = .ok (.iconst 3, 1) := by decide +kernel
theorem dX6_goes_5 : decode cX6_goes 5 = .ok (.invokevirtual 36, 3) := by decide +kernel
theorem dX6_goes_8 : decode cX6_goes 8 = .ok (.imul, 1) := by decide +kernel
theorem dX6_goes_9 : decode cX6_goes 9 = .ok (.aload_n 0, 1) := by decide +kernel
theorem dX6_goes_10 : decode cX6_goes 10 = .ok (.iload_n 1, 1) := by decide +kernel
theorem dX6_goes_11 : decode cX6_goes 11 = .ok (.iconst 4, 1) := by decide +kernel
theorem dX6_goes_12 : decode cX6_goes 12 = .ok (.invokevirtual 36, 3) := by decide +kernel
theorem dX6_goes_15 : decode cX6_goes 15 = .ok (.iadd, 1) := by decide +kernel
theorem dX6_goes_16 : decode cX6_goes 16 = .ok (.aload_n 0, 1) := by decide +kernel
theorem dX6_goes_17 : decode cX6_goes 17 = .ok (.iload_n 1, 1) := by decide +kernel
theorem dX6_goes_18 : decode cX6_goes 18 = .ok (.iconst 5, 1) := by decide +kernel
theorem dX6_goes_19 : decode cX6_goes 19 = .ok (.invokevirtual 36, 3) := by decide +kernel
theorem dX6_goes_22 : decode cX6_goes 22 = .ok (.iadd, 1) := by decide +kernel
theorem dX6_goes_23 : decode cX6_goes 23 = .ok (.istore_n 2, 1) := by decide +kernel
theorem dX6_goes_24 : decode cX6_goes 24 = .ok (.sipush 8000, 3) := by decide +kernel
theorem dX6_goes_27 : decode cX6_goes 27 = .ok (.istore_n 3, 1) := by decide +kernel
theorem dX6_goes_28 : decode cX6_goes 28 = .ok (.aload_n 0, 1) := by decide +kernel
theorem dX6_goes_29 : decode cX6_goes 29 = .ok (.iload_n 1, 1) := by decide +kernel
theorem dX6_goes_30 : decode cX6_goes 30 = .ok (.bipush 10, 2) := by decide +kernel
theorem dX6_goes_32 : decode cX6_goes 32 = .ok (.aload_n 0, 1) := by decide +kernel
theorem dX6_goes_33 : decode cX6_goes 33 = .ok (.iload_n 1, 1) := by decide +kernel
theorem dX6_goes_34 : decode cX6_goes 34 = .ok (.bipush 10, 2) := by decide +kernel
theorem dX6_goes_36 : decode cX6_goes 36 = .ok (.invokevirtual 36, 3) := by decide +kernel
theorem dX6_goes_39 : decode cX6_goes 39 = .ok (.iload_n 2, 1) := by decide +kernel
theorem dX6_goes_40 : decode cX6_goes 40 = .ok (.ifCond .ge 7, 3) := by decide +kernel
theorem dX6_goes_43 : decode cX6_goes 43 = .ok (.iconst (-1), 1) := by decide +kernel
theorem dX6_goes_44 : decode cX6_goes 44 = .ok (.goto 13, 3) := by decide +kernel
theorem dX6_goes_47 : decode cX6_goes 47 = .ok (.iload_n 2, 1) := by decide +kernel
theorem dX6_goes_48 : decode cX6_goes 48 = .ok (.iload_n 3, 1) := by decide +kernel
theorem dX6_goes_49 : decode cX6_goes 49 = .ok (.if_icmp .lt 7, 3) := by decide +kernel
theorem dX6_goes_52 : decode cX6_goes 52 = .ok (.iconst 1, 1) := by decide +kernel
theorem dX6_goes_53 : decode cX6_goes 53 = .ok (.goto 4, 3) := by decide +kernel
theorem dX6_goes_56 : decode cX6_goes 56 = .ok (.iconst 0, 1) := by decide +kernel
theorem dX6_goes_57 : decode cX6_goes 57 = .ok (.iadd, 1) := by decide +kernel
theorem dX6_goes_58 : decode cX6_goes 58 = .ok (.invokevirtual 50, 3) := by decide +kernel
theorem dX6_goes_61 : decode cX6_goes 61 = .ok (.iload_n 2, 1) := by decide +kernel
theorem dX6_goes_62 : decode cX6_goes 62 = .ok (.iload_n 3, 1) := by decide +kernel
theorem dX6_goes_63 : decode cX6_goes 63 = .ok (.iadd, 1) := by decide +kernel
theorem dX6_goes_64 : decode cX6_goes 64 = .ok (.iload_n 3, 1) := by decide +kernel
theorem dX6_goes_65 : decode cX6_goes 65 = .ok (.irem, 1) := by decide +kernel
theorem dX6_goes_66 : decode cX6_goes 66 = .ok (.istore_n 2, 1) := by decide +kernel
theorem dX6_goes_67 : decode cX6_goes 67 = .ok (.aload_n 0, 1) := by decide +kernel
theorem dX6_goes_68 : decode cX6_goes 68 = .ok (.iload_n 1, 1) := by decide +kernel
theorem dX6_goes_69 : decode cX6_goes 69 = .ok (.iconst 3, 1) := by decide +kernel
theorem dX6_goes_70 : decode cX6_goes 70 = .ok (.iload_n 2, 1) := by decide +kernel
theorem dX6_goes_71 : decode cX6_goes 71 = .ok (.bipush 10, 2) := by decide +kernel
theorem dX6_goes_73 : decode cX6_goes 73 = .ok (.idiv, 1) := by decide +kernel
theorem dX6_goes_74 : decode cX6_goes 74 = .ok (.invokevirtual 50, 3) := by decide +kernel
theorem dX6_goes_77 : decode cX6_goes 77 = .ok (.aload_n 0, 1) := by decide +kernel
theorem dX6_goes_78 : decode cX6_goes 78 = .ok (.iload_n 1, 1) := by decide +kernel
theorem dX6_goes_79 : decode cX6_goes 79 = .ok (.iconst 4, 1) := by decide +kernel
theorem dX6_goes_80 : decode cX6_goes 80 = .ok (.iload_n 2, 1) := by decide +kernel
theorem dX6_goes_81 : decode cX6_goes 81 = .ok (.bipush 10, 2) := by decide +kernel
theorem dX6_goes_83 : decode cX6_goes 83 = .ok (.irem, 1) := by decide +kernel
theorem dX6_goes_84 : decode cX6_goes 84 = .ok (.invokevirtual 50, 3) := by decide +kernel
theorem dX6_goes_87 : decode cX6_goes 87 = .ok (.return_, 1) := by decide +kernel
theorem dX6_tick_0 : decode cX6_tick 0 = .ok (.aload_n 0, 1) := by decide +kernel
theorem dX6_tick_1 : decode cX6_tick 1 = .ok (.invokevirtual 73, 3) := by decide +kernel
theorem dX6_tick_4 : decode cX6_tick 4 = .ok (.istore_n 1, 1) := by decide +kernel
theorem dX6_tick_5 : decode cX6_tick 5 = .ok (.iconst 0, 1) := by decide +kernel
theorem dX6_tick_6 : decode cX6_tick 6 = .ok (.istore_n 2, 1) := by decide +kernel
theorem dX6_tick_7 : decode cX6_tick 7 = .ok (.iload_n 2, 1) := by decide +kernel
theorem dX6_tick_8 : decode cX6_tick 8 = .ok (.aload_n 0, 1) := by decide +kernel
theorem dX6_tick_9 : decode cX6_tick 9 = .ok (.getfield 7, 3) := by decide +kernel
theorem dX6_tick_12 : decode cX6_tick 12 = .ok (.bipush 6, 2) := by decide +kernel
theorem dX6_tick_14 : decode cX6_tick 14 = .ok (.iaload, 1) := by decide +kernel
theorem dX6_tick_15 : decode cX6_tick 15 = .ok (.if_icmp .ge 14, 3) := by decide +kernel
theorem dX6_tick_18 : decode cX6_tick 18 = .ok (.aload_n 0, 1) := by decide +kernel
theorem dX6_tick_19 : decode cX6_tick 19 = .ok (.iload_n 2, 1) := by decide +kernel
theorem dX6_tick_20 : decode cX6_tick 20 = .ok (.invokevirtual 77, 3) := by decide +kernel
theorem dX6_tick_23 : decode cX6_tick 23 = .ok (.iinc 2 1, 3) := by decide +kernel
theorem dX6_tick_26 : decode cX6_tick 26 = .ok (.goto (-19), 3) := by decide +kernel
theorem dX6_tick_29 : decode cX6_tick 29 = .ok (.iconst 0, 1) := by decide +kernel
theorem dX6_tick_30 : decode cX6_tick 30 = .ok (.istore_n 2, 1) := by decide +kernel
theorem dX6_tick_31 : decode cX6_tick 31 = .ok (.iload_n 2, 1) := by decide +kernel
theorem dX6_tick_32 : decode cX6_tick 32 = .ok (.aload_n 0, 1) := by decide +kernel
theorem dX6_tick_33 : decode cX6_tick 33 = .ok (.getfield 7, 3) := by decide +kernel
theorem dX6_tick_36 : decode cX6_tick 36 = .ok (.bipush 6, 2) := by decide +kernel
theorem dX6_tick_38 : decode cX6_tick 38 = .ok (.iaload, 1) := by decide +kernel
theorem dX6_tick_39 : decode cX6_tick 39 = .ok (.if_icmp .ge 14, 3) := by decide +kernel
theorem dX6_tick_42 : decode cX6_tick 42 = .ok (.aload_n 0, 1) := by decide +kernel
theorem dX6_tick_43 : decode cX6_tick 43 = .ok (.iload_n 2, 1) := by decide +kernel
theorem dX6_tick_44 : decode cX6_tick 44 = .ok (.invokevirtual 81, 3) := by decide +kernel
theorem dX6_tick_47 : decode cX6_tick 47 = .ok (.iinc 2 1, 3) := by decide +kernel
theorem dX6_tick_50 : decode cX6_tick 50 = .ok (.goto (-19), 3) := by decide +kernel
theorem dX6_tick_53 : decode cX6_tick 53 = .ok (.iconst 0, 1) := by decide +kernel
theorem dX6_tick_54 : decode cX6_tick 54 = .ok (.istore_n 2, 1) := by decide +kernel
theorem dX6_tick_55 : decode cX6_tick 55 = .ok (.iload_n 2, 1) := by decide +kernel
theorem dX6_tick_56 : decode cX6_tick 56 = .ok (.bipush 8, 2) := by decide +kernel
theorem dX6_tick_58 : decode cX6_tick 58 = .ok (.if_icmp .ge 38, 3) := by decide +kernel
theorem dX6_tick_61 : decode cX6_tick 61 = .ok (.aload_n 0, 1) := by decide +kernel
theorem dX6_tick_62 : decode cX6_tick 62 = .ok (.getfield 7, 3) := by decide +kernel
theorem dX6_tick_65 : decode cX6_tick 65 = .ok (.bipush 8, 2) := by decide +kernel
theorem dX6_tick_67 : decode cX6_tick 67 = .ok (.iload_n 2, 1) := by decide +kernel
theorem dX6_tick_68 : decode cX6_tick 68 = .ok (.iadd, 1) := by decide +kernel
theorem dX6_tick_69 : decode cX6_tick 69 = .ok (.dup2, 1) := by decide +kernel
theorem dX6_tick_70 : decode cX6_tick 70 = .ok (.iaload, 1) := by decide +kernel
theorem dX6_tick_71 : decode cX6_tick 71 = .ok (.aload_n 0, 1) := by decide +kernel
theorem dX6_tick_72 : decode cX6_tick 72 = .ok (.getfield 7, 3) := by decide +kernel
theorem dX6_tick_75 : decode cX6_tick 75 = .ok (.bipush 8, 2) := by decide +kernel
theorem dX6_tick_77 : decode cX6_tick 77 = .ok (.iload_n 2, 1) := by decide +kernel
theorem dX6_tick_78 : decode cX6_tick 78 = .ok (.iadd, 1) := by decide +kernel
theorem dX6_tick_79 : decode cX6_tick 79 = .ok (.iaload, 1) := by decide +kernel
theorem dX6_tick_80 : decode cX6_tick 80 = .ok (.ifCond .le 7, 3) := by decide +kernel
theorem dX6_tick_83 : decode cX6_tick 83 = .ok (.iconst 1, 1) := by decide +kernel
theorem dX6_tick_84 : decode cX6_tick 84 = .ok (.goto 4, 3) := by decide +kernel
theorem dX6_tick_87 : decode cX6_tick 87 = .ok (.iconst 0, 1) := by decide +kernel
theorem dX6_tick_88 : decode cX6_tick 88 = .ok (.isub, 1) := by decide +kernel
theorem dX6_tick_89 : decode cX6_tick 89 = .ok (.iastore, 1) := by decide +kernel
theorem dX6_tick_90 : decode cX6_tick 90 = .ok (.iinc 2 1, 3) := by decide +kernel
theorem dX6_tick_93 : decode cX6_tick 93 = .ok (.goto (-38), 3) := by decide +kernel
theorem dX6_tick_96 : decode cX6_tick 96 = .ok (.aload_n 0, 1) := by decide +kernel
theorem dX6_tick_97 : decode cX6_tick 97 = .ok (.getfield 7, 3) := by decide +kernel
theorem dX6_tick_100 : decode cX6_tick 100 = .ok (.iconst 0, 1) := by decide +kernel
theorem dX6_tick_101 : decode cX6_tick 101 = .ok (.dup2, 1) := by decide +kernel
theorem dX6_tick_102 : decode cX6_tick 102 = .ok (.iaload, 1) := by decide +kernel
theorem dX6_tick_103 : decode cX6_tick 103 = .ok (.iconst 1, 1) := by decide +kernel
theorem dX6_tick_104 : decode cX6_tick 104 = .ok (.iadd, 1) := by decide +kernel
theorem dX6_tick_105 : decode cX6_tick 105 = .ok (.iastore, 1) := by decide +kernel
theorem dX6_tick_106 : decode cX6_tick 106 = .ok (.aload_n 0, 1) := by decide +kernel
theorem dX6_tick_107 : decode cX6_tick 107 = .ok (.getfield 7, 3) := by decide +kernel
theorem dX6_tick_110 : decode cX6_tick 110 = .ok (.iconst 2, 1) := by decide +kernel
theorem dX6_tick_111 : decode cX6_tick 111 = .ok (.dup2, 1) := by decide +kernel
theorem dX6_tick_112 : decode cX6_tick 112 = .ok (.iaload, 1) := by decide +kernel
theorem dX6_tick_113 : decode cX6_tick 113 = .ok (.iconst 1, 1) := by decide +kernel
theorem dX6_tick_114 : decode cX6_tick 114 = .ok (.iadd, 1) := by decide +kernel
theorem dX6_tick_115 : decode cX6_tick 115 = .ok (.iastore, 1) := by decide +kernel
theorem dX6_tick_116 : decode cX6_tick 116 = .ok (.iload_n 1, 1) := by decide +kernel
theorem dX6_tick_117 : decode cX6_tick 117 = .ok (.ireturn, 1) := by decide +kernel
theorem dX6_ticks_0 : decode cX6_ticks 0 = .ok (.iconst 0, 1) := by decide +kernel
theorem dX6_ticks_1 : decode cX6_ticks 1 = .ok (.istore_n 2, 1) := by decide +kernel
theorem dX6_ticks_2 : decode cX6_ticks 2 = .ok (.iconst 0, 1) := by decide +kernel
theorem dX6_ticks_3 : decode cX6_ticks 3 = .ok (.istore_n 3, 1) := by decide +kernel
theorem dX6_ticks_4 : decode cX6_ticks 4 = .ok (.iload_n 3, 1) := by decide +kernel
theorem dX6_ticks_5 : decode cX6_ticks 5 = .ok (.iload_n 1, 1) := by decide +kernel
theorem dX6_ticks_6 : decode cX6_ticks 6 = .ok (.if_icmp .ge 16, 3) := by decide +kernel
theorem dX6_ticks_9 : decode cX6_ticks 9 = .ok (.iload_n 2, 1) := by decide +kernel
theorem dX6_ticks_10 : decode cX6_ticks 10 = .ok (.aload_n 0, 1) := by decide +kernel
theorem dX6_ticks_11 : decode cX6_ticks 11 = .ok (.invokevirtual 84, 3) := by decide +kernel
theorem dX6_ticks_14 : decode cX6_ticks 14 = .ok (.iadd, 1) := by decide +kernel
theorem dX6_ticks_15 : decode cX6_ticks 15 = .ok (.istore_n 2, 1) := by decide +kernel
theorem dX6_ticks_16 : decode cX6_ticks 16 = .ok (.iinc 3 1, 3) := by decide +kernel
theorem dX6_ticks_19 : decode cX6_ticks 19 = .ok (.goto (-15), 3) := by decide +kernel
theorem dX6_ticks_22 : decode cX6_ticks 22 = .ok (.iload_n 2, 1) := by decide +kernel
theorem dX6_ticks_23 : decode cX6_ticks 23 = .ok (.ireturn, 1) := by decide +kernel
theorem dX6_loco_0 : decode cX6_loco 0 = .ok (.aload_n 0, 1) := by decide +kernel
theorem dX6_loco_1 : decode cX6_loco 1 = .ok (.iconst 0, 1) := by decide +kernel
theorem dX6_loco_2 : decode cX6_loco 2 = .ok (.putfield 32, 3) := by decide +kernel
theorem dX6_loco_5 : decode cX6_loco 5 = .ok (.iload_n 1, 1) := by decide +kernel
theorem dX6_loco_6 : decode cX6_loco 6 = .ok (.iconst 1, 1) := by decide +kernel
theorem dX6_loco_7 : decode cX6_loco 7 = .ok (.bipush 99, 2) := by decide +kernel
theorem dX6_loco_9 : decode cX6_loco 9 = .ok (.invokestatic 54, 3) := by decide +kernel
theorem dX6_loco_12 : decode cX6_loco 12 = .ok (.ifCond .eq 34, 3) := by decide +kernel
theorem dX6_loco_15 : decode cX6_loco 15 = .ok (.iload_n 2, 1) := by decide +kernel
theorem dX6_loco_16 : decode cX6_loco 16 = .ok (.iconst 1, 1) := by decide +kernel
theorem dX6_loco_17 : decode cX6_loco 17 = .ok (.bipush 20, 2) := by decide +kernel
theorem dX6_loco_19 : decode cX6_loco 19 = .ok (.invokestatic 54, 3) := by decide +kernel
theorem dX6_loco_22 : decode cX6_loco 22 = .ok (.ifCond .eq 24, 3) := by decide +kernel
theorem dX6_loco_25 : decode cX6_loco 25 = .ok (.iload_n 3, 1) := by decide +kernel
theorem dX6_loco_26 : decode cX6_loco 26 = .ok (.iconst 0, 1) := by decide +kernel
theorem dX6_loco_27 : decode cX6_loco 27 = .ok (.iconst 2, 1) := by decide +kernel
theorem dX6_loco_28 : decode cX6_loco 28 = .ok (.invokestatic 54, 3) := by decide +kernel
theorem dX6_loco_31 : decode cX6_loco 31 = .ok (.ifCond .eq 15, 3) := by decide +kernel
theorem dX6_loco_34 : decode cX6_loco 34 = .ok (.iload 4, 2) := by decide +kernel
theorem dX6_loco_36 : decode cX6_loco 36 = .ok (.iconst 0, 1) := by decide +kernel
theorem dX6_loco_37 : decode cX6_loco 37 = .ok (.sipush 799, 3) := by decide +kernel
theorem dX6_loco_40 : decode cX6_loco 40 = .ok (.invokestatic 54, 3) := by decide +kernel
theorem dX6_loco_43 : decode cX6_loco 43 = .ok (.ifCond .ne 6, 3) := by decide +kernel
theorem dX6_loco_46 : decode cX6_loco 46 = .ok (.bipush (-2), 2) := by decide +kernel
theorem dX6_loco_48 : decode cX6_loco 48 = .ok (.ireturn, 1) := by decide +kernel
theorem dX6_loco_49 : decode cX6_loco 49 = .ok (.aload_n 0, 1) := by decide +kernel
theorem dX6_loco_50 : decode cX6_loco 50 = .ok (.iload_n 1, 1) := by decide +kernel
theorem dX6_loco_51 : decode cX6_loco 51 = .ok (.invokevirtual 87, 3) := by decide +kernel
theorem dX6_loco_54 : decode cX6_loco 54 = .ok (.bipush (-6), 2) := by decide +kernel
theorem dX6_loco_56 : decode cX6_loco 56 = .ok (.if_icmp .eq 6, 3) := by decide +kernel
theorem dX6_loco_59 : decode cX6_loco 59 = .ok (.bipush (-5), 2) := by decide +kernel
theorem dX6_loco_61 : decode cX6_loco 61 = .ok (.ireturn, 1) := by decide +kernel
theorem dX6_loco_62 : decode cX6_loco 62 = .ok (.aload_n 0, 1) := by decide +kernel
theorem dX6_loco_63 : decode cX6_loco 63 = .ok (.getfield 7, 3) := by decide +kernel
theorem dX6_loco_66 : decode cX6_loco 66 = .ok (.bipush 6, 2) := by decide +kernel
theorem dX6_loco_68 : decode cX6_loco 68 = .ok (.iaload, 1) := by decide +kernel
theorem dX6_loco_69 : decode cX6_loco 69 = .ok (.bipush 8, 2) := by decide +kernel
theorem dX6_loco_71 : decode cX6_loco 71 = .ok (.if_icmp .ne 6, 3) := by decide +kernel
theorem dX6_loco_74 : decode cX6_loco 74 = .ok (.bipush (-4), 2) := by decide +kernel
theorem dX6_loco_76 : decode cX6_loco 76 = .ok (.ireturn, 1) := by decide +kernel
theorem dX6_loco_77 : decode cX6_loco 77 = .ok (.aload_n 0, 1) := by decide +kernel
theorem dX6_loco_78 : decode cX6_loco 78 = .ok (.invokevirtual 90, 3) := by decide +kernel
theorem dX6_loco_81 : decode cX6_loco 81 = .ok (.aload_n 0, 1) := by decide +kernel
theorem dX6_loco_82 : decode cX6_loco 82 = .ok (.getfield 7, 3) := by decide +kernel
theorem dX6_loco_85 : decode cX6_loco 85 = .ok (.bipush 6, 2) := by decide +kernel
theorem dX6_loco_87 : decode cX6_loco 87 = .ok (.iaload, 1) := by decide +kernel
theorem dX6_loco_88 : decode cX6_loco 88 = .ok (.istore 5, 2) := by decide +kernel
theorem dX6_loco_90 : decode cX6_loco 90 = .ok (.iload 5, 2) := by decide +kernel
theorem dX6_loco_92 : decode cX6_loco 92 = .ok (.ifCond .le 56, 3) := by decide +kernel
theorem dX6_loco_95 : decode cX6_loco 95 = .ok (.aload_n 0, 1) := by decide +kernel
theorem dX6_loco_96 : decode cX6_loco 96 = .ok (.iload 5, 2) := by decide +kernel
theorem dX6_loco_98 : decode cX6_loco 98 = .ok (.iconst 1, 1) := by decide +kernel
theorem dX6_loco_99 : decode cX6_loco 99 = .ok (.isub, 1) := by decide +kernel
theorem dX6_loco_100 : decode cX6_loco 100 = .ok (.iconst 0, 1) := by decide +kernel
theorem dX6_loco_101 : decode cX6_loco 101 = .ok (.invokevirtual 36, 3) := by decide +kernel
theorem dX6_loco_104 : decode cX6_loco 104 = .ok (.iload_n 1, 1) := by decide +kernel
theorem dX6_loco_105 : decode cX6_loco 105 = .ok (.if_icmp .le 43, 3) := by decide +kernel
theorem dX6_loco_108 : decode cX6_loco 108 = .ok (.iconst 0, 1) := by decide +kernel
theorem dX6_loco_109 : decode cX6_loco 109 = .ok (.istore 6, 2) := by decide +kernel
theorem dX6_loco_111 : decode cX6_loco 111 = .ok (.iload 6, 2) := by decide +kernel
theorem dX6_loco_113 : decode cX6_loco 113 = .ok (.bipush 11, 2) := by decide +kernel
theorem dX6_loco_115 : decode cX6_loco 115 = .ok (.if_icmp .ge 27, 3) := by decide +kernel
theorem dX6_loco_118 : decode cX6_loco 118 = .ok (.aload_n 0, 1) := by decide +kernel
theorem dX6_loco_119 : decode cX6_loco 119 = .ok (.iload 5, 2) := by decide +kernel
theorem dX6_loco_121 : decode cX6_loco 121 = .ok (.iload 6, 2) := by decide +kernel
theorem dX6_loco_123 : decode cX6_loco 123 = .ok (.aload_n 0, 1) := by decide +kernel
theorem dX6_loco_124 : decode cX6_loco 124 = .ok (.iload 5, 2) := by decide +kernel
theorem dX6_loco_126 : decode cX6_loco 126 = .ok (.iconst 1, 1) := by decide +kernel
theorem dX6_loco_127 : decode cX6_loco 127 = .ok (.isub, 1) := by decide +kernel
theorem dX6_loco_128 : decode cX6_loco 128 = .ok (.iload 6, 2) := by decide +kernel
theorem dX6_loco_130 : decode cX6_loco 130 = .ok (.invokevirtual 36, 3) := by decide +kernel
theorem dX6_loco_133 : decode cX6_loco 133 = .ok (.invokevirtual 50, 3) := by decide +kernel
theorem dX6_loco_136 : decode cX6_loco 136 = .ok (.iinc 6 1, 3) := by decide +kernel
theorem dX6_loco_139 : decode cX6_loco 139 = .ok (.goto (-28), 3) := by decide +kernel
theorem dX6_loco_142 : decode cX6_loco 142 = .ok (.iinc 5 (-1), 3) := by decide +kernel
theorem dX6_loco_145 : decode cX6_loco 145 = .ok (.goto (-55), 3) := by decide +kernel
theorem dX6_loco_148 : decode cX6_loco 148 = .ok (.iconst 0, 1) := by decide +kernel
theorem dX6_loco_149 : decode cX6_loco 149 = .ok (.istore 6, 2) := by decide +kernel
theorem dX6_loco_151 : decode cX6_loco 151 = .ok (.iload 6, 2) := by decide +kernel
theorem dX6_loco_153 : decode cX6_loco 153 = .ok (.bipush 11, 2) := by decide +kernel
theorem dX6_loco_155 : decode cX6_loco 155 = .ok (.if_icmp .ge 18, 3) := by decide +kernel
theorem dX6_loco_158 : decode cX6_loco 158 = .ok (.aload_n 0, 1) := by decide +kernel
theorem dX6_loco_159 : decode cX6_loco 159 = .ok (.iload 5, 2) := by decide +kernel
theorem dX6_loco_161 : decode cX6_loco 161 = .ok (.iload 6, 2) := by decide +kernel
theorem dX6_loco_163 : decode cX6_loco 163 = .ok (.iconst 0, 1) := by decide +kernel
theorem dX6_loco_164 : decode cX6_loco 164 = .ok (.invokevirtual 50, 3) := by decide +kernel
theorem dX6_loco_167 : decode cX6_loco 167 = .ok (.iinc 6 1, 3) := by decide +kernel
theorem dX6_loco_170 : decode cX6_loco 170 = .ok (.goto (-19), 3) := by decide +kernel
theorem dX6_loco_173 : decode cX6_loco 173 = .ok (.aload_n 0, 1) := by decide +kernel
theorem dX6_loco_174 : decode cX6_loco 174 = .ok (.iload 5, 2) := by decide +kernel
theorem dX6_loco_176 : decode cX6_loco 176 = .ok (.iconst 0, 1) := by decide +kernel
theorem dX6_loco_177 : decode cX6_loco 177 = .ok (.iload_n 1, 1) := by decide +kernel
theorem dX6_loco_178 : decode cX6_loco 178 = .ok (.invokevirtual 50, 3) := by decide +kernel
theorem dX6_loco_181 : decode cX6_loco 181 = .ok (.aload_n 0, 1) := by decide +kernel
theorem dX6_loco_182 : decode cX6_loco 182 = .ok (.iload 5, 2) := by decide +kernel
theorem dX6_loco_184 : decode cX6_loco 184 = .ok (.iconst 1, 1) := by decide +kernel
theorem dX6_loco_185 : decode cX6_loco 185 = .ok (.iload_n 2, 1) := by decide +kernel
theorem dX6_loco_186 : decode cX6_loco 186 = .ok (.invokevirtual 50, 3) := by decide +kernel
theorem dX6_loco_189 : decode cX6_loco 189 = .ok (.aload_n 0, 1) := by decide +kernel
theorem dX6_loco_190 : decode cX6_loco 190 = .ok (.iload 5, 2) := by decide +kernel
theorem dX6_loco_192 : decode cX6_loco 192 = .ok (.iconst 2, 1) := by decide +kernel
theorem dX6_loco_193 : decode cX6_loco 193 = .ok (.iload_n 3, 1) := by decide +kernel
theorem dX6_loco_194 : decode cX6_loco 194 = .ok (.invokevirtual 50, 3) := by decide +kernel
theorem dX6_loco_197 : decode cX6_loco 197 = .ok (.aload_n 0, 1) := by decide +kernel
theorem dX6_loco_198 : decode cX6_loco 198 = .ok (.iload 5, 2) := by decide +kernel
theorem dX6_loco_200 : decode cX6_loco 200 = .ok (.iconst 3, 1) := by decide +kernel
theorem dX6_loco_201 : decode cX6_loco 201 = .ok (.iload 4, 2) := by decide +kernel
theorem dX6_loco_203 : decode cX6_loco 203 = .ok (.invokevirtual 50, 3) := by decide +kernel
theorem dX6_loco_206 : decode cX6_loco 206 = .ok (.aload_n 0, 1) := by decide +kernel
theorem dX6_loco_207 : decode cX6_loco 207 = .ok (.iload 5, 2) := by decide +kernel
theorem dX6_loco_209 : decode cX6_loco 209 = .ok (.bipush 7, 2) := by decide +kernel
theorem dX6_loco_211 : decode cX6_loco 211 = .ok (.iconst 1, 1) := by decide +kernel
theorem dX6_loco_212 : decode cX6_loco 212 = .ok (.invokevirtual 50, 3) := by decide +kernel
theorem dX6_loco_215 : decode cX6_loco 215 = .ok (.aload_n 0, 1) := by decide +kernel
theorem dX6_loco_216 : decode cX6_loco 216 = .ok (.getfield 7, 3) := by decide +kernel
theorem dX6_loco_219 : decode cX6_loco 219 = .ok (.bipush 6, 2) := by decide +kernel
theorem dX6_loco_221 : decode cX6_loco 221 = .ok (.dup2, 1) := by decide +kernel
theorem dX6_loco_222 : decode cX6_loco 222 = .ok (.iaload, 1) := by decide +kernel
theorem dX6_loco_223 : decode cX6_loco 223 = .ok (.iconst 1, 1) := by decide +kernel
theorem dX6_loco_224 : decode cX6_loco 224 = .ok (.iadd, 1) := by decide +kernel
theorem dX6_loco_225 : decode cX6_loco 225 = .ok (.iastore, 1) := by decide +kernel
theorem dX6_loco_226 : decode cX6_loco 226 = .ok (.aload_n 0, 1) := by decide +kernel
theorem dX6_loco_227 : decode cX6_loco 227 = .ok (.getfield 7, 3) := by decide +kernel
theorem dX6_loco_230 : decode cX6_loco 230 = .ok (.bipush 6, 2) := by decide +kernel
theorem dX6_loco_232 : decode cX6_loco 232 = .ok (.iaload, 1) := by decide +kernel
theorem dX6_loco_233 : decode cX6_loco 233 = .ok (.ireturn, 1) := by decide +kernel
theorem dX6_lift_0 : decode cX6_lift 0 = .ok (.aload_n 0, 1) := by decide +kernel
theorem dX6_lift_1 : decode cX6_lift 1 = .ok (.iconst 0, 1) := by decide +kernel
theorem dX6_lift_2 : decode cX6_lift 2 = .ok (.putfield 32, 3) := by decide +kernel
theorem dX6_lift_5 : decode cX6_lift 5 = .ok (.aload_n 0, 1) := by decide +kernel
theorem dX6_lift_6 : decode cX6_lift 6 = .ok (.iload_n 1, 1) := by decide +kernel
theorem dX6_lift_7 : decode cX6_lift 7 = .ok (.invokevirtual 87, 3) := by decide +kernel
theorem dX6_lift_10 : decode cX6_lift 10 = .ok (.istore_n 2, 1) := by decide +kernel
theorem dX6_lift_11 : decode cX6_lift 11 = .ok (.iload_n 2, 1) := by decide +kernel
theorem dX6_lift_12 : decode cX6_lift 12 = .ok (.bipush (-6), 2) := by decide +kernel
theorem dX6_lift_14 : decode cX6_lift 14 = .ok (.if_icmp .ne 5, 3) := by decide +kernel
theorem dX6_lift_17 : decode cX6_lift 17 = .ok (.iconst (-1), 1) := by decide +kernel
theorem dX6_lift_18 : decode cX6_lift 18 = .ok (.ireturn, 1) := by decide +kernel
theorem dX6_lift_19 : decode cX6_lift 19 = .ok (.aload_n 0, 1) := by decide +kernel
theorem dX6_lift_20 : decode cX6_lift 20 = .ok (.invokevirtual 90, 3) := by decide +kernel
theorem dX6_lift_23 : decode cX6_lift 23 = .ok (.aload_n 0, 1) := by decide +kernel
theorem dX6_lift_24 : decode cX6_lift 24 = .ok (.getfield 7, 3) := by decide +kernel
theorem dX6_lift_27 : decode cX6_lift 27 = .ok (.bipush 6, 2) := by decide +kernel
theorem dX6_lift_29 : decode cX6_lift 29 = .ok (.dup2, 1) := by decide +kernel
theorem dX6_lift_30 : decode cX6_lift 30 = .ok (.iaload, 1) := by decide +kernel
theorem dX6_lift_31 : decode cX6_lift 31 = .ok (.iconst 1, 1) := by decide +kernel
theorem dX6_lift_32 : decode cX6_lift 32 = .ok (.isub, 1) := by decide +kernel
theorem dX6_lift_33 : decode cX6_lift 33 = .ok (.iastore, 1) := by decide +kernel
theorem dX6_lift_34 : decode cX6_lift 34 = .ok (.bipush 11, 2) := by decide +kernel
theorem dX6_lift_36 : decode cX6_lift 36 = .ok (.iload_n 2, 1) := by decide +kernel
theorem dX6_lift_37 : decode cX6_lift 37 = .ok (.imul, 1) := by decide +kernel
theorem dX6_lift_38 : decode cX6_lift 38 = .ok (.istore_n 3, 1) := by decide +kernel
theorem dX6_lift_39 : decode cX6_lift 39 = .ok (.iload_n 3, 1) := by decide +kernel
theorem dX6_lift_40 : decode cX6_lift 40 = .ok (.bipush 11, 2) := by decide +kernel
theorem dX6_lift_42 : decode cX6_lift 42 = .ok (.aload_n 0, 1) := by decide +kernel
theorem dX6_lift_43 : decode cX6_lift 43 = .ok (.getfield 7, 3) := by decide +kernel
theorem dX6_lift_46 : decode cX6_lift 46 = .ok (.bipush 6, 2) := by decide +kernel
theorem dX6_lift_48 : decode cX6_lift 48 = .ok (.iaload, 1) := by decide +kernel
theorem dX6_lift_49 : decode cX6_lift 49 = .ok (.imul, 1) := by decide +kernel
theorem dX6_lift_50 : decode cX6_lift 50 = .ok (.if_icmp .ge 30, 3) := by decide +kernel
theorem dX6_lift_53 : decode cX6_lift 53 = .ok (.aload_n 0, 1) := by decide +kernel
theorem dX6_lift_54 : decode cX6_lift 54 = .ok (.getfield 7, 3) := by decide +kernel
theorem dX6_lift_57 : decode cX6_lift 57 = .ok (.bipush 16, 2) := by decide +kernel
theorem dX6_lift_59 : decode cX6_lift 59 = .ok (.iload_n 3, 1) := by decide +kernel
theorem dX6_lift_60 : decode cX6_lift 60 = .ok (.iadd, 1) := by decide +kernel
theorem dX6_lift_61 : decode cX6_lift 61 = .ok (.aload_n 0, 1) := by decide +kernel
theorem dX6_lift_62 : decode cX6_lift 62 = .ok (.getfield 7, 3) := by decide +kernel
theorem dX6_lift_65 : decode cX6_lift 65 = .ok (.bipush 16, 2) := by decide +kernel
theorem dX6_lift_67 : decode cX6_lift 67 = .ok (.iload_n 3, 1) := by decide +kernel
theorem dX6_lift_68 : decode cX6_lift 68 = .ok (.iadd, 1) := by decide +kernel
theorem dX6_lift_69 : decode cX6_lift 69 = .ok (.bipush 11, 2) := by decide +kernel
theorem dX6_lift_71 : decode cX6_lift 71 = .ok (.iadd, 1) := by decide +kernel
theorem dX6_lift_72 : decode cX6_lift 72 = .ok (.iaload, 1) := by decide +kernel
theorem dX6_lift_73 : decode cX6_lift 73 = .ok (.iastore, 1) := by decide +kernel
theorem dX6_lift_74 : decode cX6_lift 74 = .ok (.iinc 3 1, 3) := by decide +kernel
theorem dX6_lift_77 : decode cX6_lift 77 = .ok (.goto (-38), 3) := by decide +kernel
theorem dX6_lift_80 : decode cX6_lift 80 = .ok (.iconst 0, 1) := by decide +kernel
theorem dX6_lift_81 : decode cX6_lift 81 = .ok (.istore_n 3, 1) := by decide +kernel
theorem dX6_lift_82 : decode cX6_lift 82 = .ok (.iload_n 3, 1) := by decide +kernel
theorem dX6_lift_83 : decode cX6_lift 83 = .ok (.bipush 11, 2) := by decide +kernel
theorem dX6_lift_85 : decode cX6_lift 85 = .ok (.if_icmp .ge 22, 3) := by decide +kernel
theorem dX6_lift_88 : decode cX6_lift 88 = .ok (.aload_n 0, 1) := by decide +kernel
theorem dX6_lift_89 : decode cX6_lift 89 = .ok (.aload_n 0, 1) := by decide +kernel
theorem dX6_lift_90 : decode cX6_lift 90 = .ok (.getfield 7, 3) := by decide +kernel
theorem dX6_lift_93 : decode cX6_lift 93 = .ok (.bipush 6, 2) := by decide +kernel
theorem dX6_lift_95 : decode cX6_lift 95 = .ok (.iaload, 1) := by decide +kernel
theorem dX6_lift_96 : decode cX6_lift 96 = .ok (.iload_n 3, 1) := by decide +kernel
theorem dX6_lift_97 : decode cX6_lift 97 = .ok (.iconst 0, 1) := by decide +kernel
theorem dX6_lift_98 : decode cX6_lift 98 = .ok (.invokevirtual 50, 3) := by decide +kernel
theorem dX6_lift_101 : decode cX6_lift 101 = .ok (.iinc 3 1, 3) := by decide +kernel
theorem dX6_lift_104 : decode cX6_lift 104 = .ok (.goto (-22), 3) := by decide +kernel
theorem dX6_lift_107 : decode cX6_lift 107 = .ok (.aload_n 0, 1) := by decide +kernel
theorem dX6_lift_108 : decode cX6_lift 108 = .ok (.getfield 7, 3) := by decide +kernel
theorem dX6_lift_111 : decode cX6_lift 111 = .ok (.bipush 6, 2) := by decide +kernel
theorem dX6_lift_113 : decode cX6_lift 113 = .ok (.iaload, 1) := by decide +kernel
theorem dX6_lift_114 : decode cX6_lift 114 = .ok (.ireturn, 1) := by decide +kernel
theorem dX6_noise_0 : decode cX6_noise 0 = .ok (.aload_n 0, 1) := by decide +kernel
theorem dX6_noise_1 : decode cX6_noise 1 = .ok (.iconst 0, 1) := by decide +kernel
theorem dX6_noise_2 : decode cX6_noise 2 = .ok (.putfield 32, 3) := by decide +kernel
theorem dX6_noise_5 : decode cX6_noise 5 = .ok (.iload_n 1, 1) := by decide +kernel
theorem dX6_noise_6 : decode cX6_noise 6 = .ok (.iconst 0, 1) := by decide +kernel
theorem dX6_noise_7 : decode cX6_noise 7 = .ok (.bipush 9, 2) := by decide +kernel
theorem dX6_noise_9 : decode cX6_noise 9 = .ok (.invokestatic 54, 3) := by decide +kernel
theorem dX6_noise_12 : decode cX6_noise 12 = .ok (.ifCond .ne 6, 3) := by decide +kernel
theorem dX6_noise_15 : decode cX6_noise 15 = .ok (.bipush (-2), 2) := by decide +kernel
theorem dX6_noise_17 : decode cX6_noise 17 = .ok (.ireturn, 1) := by decide +kernel
theorem dX6_noise_18 : decode cX6_noise 18 = .ok (.aload_n 0, 1) := by decide +kernel
theorem dX6_noise_19 : decode cX6_noise 19 = .ok (.invokevirtual 90, 3) := by decide +kernel
theorem dX6_noise_22 : decode cX6_noise 22 = .ok (.aload_n 0, 1) := by decide +kernel
theorem dX6_noise_23 : decode cX6_noise 23 = .ok (.getfield 7, 3) := by decide +kernel
theorem dX6_noise_26 : decode cX6_noise 26 = .ok (.iconst 1, 1) := by decide +kernel
theorem dX6_noise_27 : decode cX6_noise 27 = .ok (.iaload, 1) := by decide +kernel
theorem dX6_noise_28 : decode cX6_noise 28 = .ok (.istore_n 2, 1) := by decide +kernel
theorem dX6_noise_29 : decode cX6_noise 29 = .ok (.aload_n 0, 1) := by decide +kernel
theorem dX6_noise_30 : decode cX6_noise 30 = .ok (.getfield 7, 3) := by decide +kernel
theorem dX6_noise_33 : decode cX6_noise 33 = .ok (.iconst 1, 1) := by decide +kernel
theorem dX6_noise_34 : decode cX6_noise 34 = .ok (.iload_n 1, 1) := by decide +kernel
theorem dX6_noise_35 : decode cX6_noise 35 = .ok (.iastore, 1) := by decide +kernel
theorem dX6_noise_36 : decode cX6_noise 36 = .ok (.iload_n 2, 1) := by decide +kernel
theorem dX6_noise_37 : decode cX6_noise 37 = .ok (.ireturn, 1) := by decide +kernel
theorem dX6_refusesOrder_0 : decode cX6_refusesOrder 0 = .ok (.iload_n 1, 1) := by decide +kernel
theorem dX6_refusesOrder_1 : decode cX6_refusesOrder 1 = .ok (.iconst 0, 1) := by decide +kernel
theorem dX6_refusesOrder_2 : decode cX6_refusesOrder 2 = .ok (.bipush 99, 2) := by decide +kernel
theorem dX6_refusesOrder_4 : decode cX6_refusesOrder 4 = .ok (.invokestatic 54, 3) := by decide +kernel
theorem dX6_refusesOrder_7 : decode cX6_refusesOrder 7 = .ok (.ifCond .eq 23, 3) := by decide +kernel
theorem dX6_refusesOrder_10 : decode cX6_refusesOrder 10 = .ok (.iload_n 2, 1) := by decide +kernel
theorem dX6_refusesOrder_11 : decode cX6_refusesOrder 11 = .ok (.iconst 0, 1) := by decide +kernel
theorem dX6_refusesOrder_12 : decode cX6_refusesOrder 12 = .ok (.sipush 255, 3) := by decide +kernel
theorem dX6_refusesOrder_15 : decode cX6_refusesOrder 15 = .ok (.invokestatic 54, 3) := by decide +kernel
theorem dX6_refusesOrder_18 : decode cX6_refusesOrder 18 = .ok (.ifCond .eq 12, 3) := by decide +kernel
theorem dX6_refusesOrder_21 : decode cX6_refusesOrder 21 = .ok (.iload_n 3, 1) := by decide +kernel
theorem dX6_refusesOrder_22 : decode cX6_refusesOrder 22 = .ok (.iconst 0, 1) := by decide +kernel
theorem dX6_refusesOrder_23 : decode cX6_refusesOrder 23 = .ok (.iconst 3, 1) := by decide +kernel
theorem dX6_refusesOrder_24 : decode cX6_refusesOrder 24 = .ok (.invokestatic 54, 3) := by decide +kernel
theorem dX6_refusesOrder_27 : decode cX6_refusesOrder 27 = .ok (.ifCond .ne 6, 3) := by decide +kernel
theorem dX6_refusesOrder_30 : decode cX6_refusesOrder 30 = .ok (.bipush (-2), 2) := by decide +kernel
theorem dX6_refusesOrder_32 : decode cX6_refusesOrder 32 = .ok (.ireturn, 1) := by decide +kernel
theorem dX6_refusesOrder_33 : decode cX6_refusesOrder 33 = .ok (.aload_n 0, 1) := by decide +kernel
theorem dX6_refusesOrder_34 : decode cX6_refusesOrder 34 = .ok (.getfield 7, 3) := by decide +kernel
theorem dX6_refusesOrder_37 : decode cX6_refusesOrder 37 = .ok (.bipush 7, 2) := by decide +kernel
theorem dX6_refusesOrder_39 : decode cX6_refusesOrder 39 = .ok (.iaload, 1) := by decide +kernel
theorem dX6_refusesOrder_40 : decode cX6_refusesOrder 40 = .ok (.bipush 20, 2) := by decide +kernel
theorem dX6_refusesOrder_42 : decode cX6_refusesOrder 42 = .ok (.if_icmp .ne 8, 3) := by decide +kernel
theorem dX6_refusesOrder_45 : decode cX6_refusesOrder 45 = .ok (.bipush (-4), 2) := by decide +kernel
theorem dX6_refusesOrder_47 : decode cX6_refusesOrder 47 = .ok (.goto 4, 3) := by decide +kernel
theorem dX6_refusesOrder_50 : decode cX6_refusesOrder 50 = .ok (.iconst 0, 1) := by decide +kernel
theorem dX6_refusesOrder_51 : decode cX6_refusesOrder 51 = .ok (.ireturn, 1) := by decide +kernel
theorem dX6_laysOrder_0 : decode cX6_laysOrder 0 = .ok (.aload_n 0, 1) := by decide +kernel
theorem dX6_laysOrder_1 : decode cX6_laysOrder 1 = .ok (.getfield 7, 3) := by decide +kernel
theorem dX6_laysOrder_4 : decode cX6_laysOrder 4 = .ok (.bipush 7, 2) := by decide +kernel
theorem dX6_laysOrder_6 : decode cX6_laysOrder 6 = .ok (.iaload, 1) := by decide +kernel
theorem dX6_laysOrder_7 : decode cX6_laysOrder 7 = .ok (.istore 4, 2) := by decide +kernel
theorem dX6_laysOrder_9 : decode cX6_laysOrder 9 = .ok (.iload 4, 2) := by decide +kernel
theorem dX6_laysOrder_11 : decode cX6_laysOrder 11 = .ok (.ifCond .le 74, 3) := by decide +kernel
theorem dX6_laysOrder_14 : decode cX6_laysOrder 14 = .ok (.aload_n 0, 1) := by decide +kernel
theorem dX6_laysOrder_15 : decode cX6_laysOrder 15 = .ok (.getfield 7, 3) := by decide +kernel
theorem dX6_laysOrder_18 : decode cX6_laysOrder 18 = .ok (.bipush 104, 2) := by decide +kernel
theorem dX6_laysOrder_20 : decode cX6_laysOrder 20 = .ok (.iconst 3, 1) := by decide +kernel
theorem dX6_laysOrder_21 : decode cX6_laysOrder 21 = .ok (.iload 4, 2) := by decide +kernel
theorem dX6_laysOrder_23 : decode cX6_laysOrder 23 = .ok (.imul, 1) := by decide +kernel
theorem dX6_laysOrder_24 : decode cX6_laysOrder 24 = .ok (.iadd, 1) := by decide +kernel
theorem dX6_laysOrder_25 : decode cX6_laysOrder 25 = .ok (.iconst 1, 1) := by decide +kernel
theorem dX6_laysOrder_26 : decode cX6_laysOrder 26 = .ok (.isub, 1) := by decide +kernel
theorem dX6_laysOrder_27 : decode cX6_laysOrder 27 = .ok (.iaload, 1) := by decide +kernel
theorem dX6_laysOrder_28 : decode cX6_laysOrder 28 = .ok (.iload_n 3, 1) := by decide +kernel
theorem dX6_laysOrder_29 : decode cX6_laysOrder 29 = .ok (.if_icmp .ge 56, 3) := by decide +kernel
theorem dX6_laysOrder_32 : decode cX6_laysOrder 32 = .ok (.iconst 0, 1) := by decide +kernel
theorem dX6_laysOrder_33 : decode cX6_laysOrder 33 = .ok (.istore 5, 2) := by decide +kernel
theorem dX6_laysOrder_35 : decode cX6_laysOrder 35 = .ok (.iload 5, 2) := by decide +kernel
theorem dX6_laysOrder_37 : decode cX6_laysOrder 37 = .ok (.iconst 3, 1) := by decide +kernel
theorem dX6_laysOrder_38 : decode cX6_laysOrder 38 = .ok (.if_icmp .ge 41, 3) := by decide +kernel
theorem dX6_laysOrder_41 : decode cX6_laysOrder 41 = .ok (.aload_n 0, 1) := by decide +kernel
theorem dX6_laysOrder_42 : decode cX6_laysOrder 42 = .ok (.getfield 7, 3) := by decide +kernel
theorem dX6_laysOrder_45 : decode cX6_laysOrder 45 = .ok (.bipush 104, 2) := by decide +kernel
theorem dX6_laysOrder_47 : decode cX6_laysOrder 47 = .ok (.iconst 3, 1) := by decide +kernel
theorem dX6_laysOrder_48 : decode cX6_laysOrder 48 = .ok (.iload 4, 2) := by decide +kernel
theorem dX6_laysOrder_50 : decode cX6_laysOrder 50 = .ok (.imul, 1) := by decide +kernel
theorem dX6_laysOrder_51 : decode cX6_laysOrder 51 = .ok (.iadd, 1) := by decide +kernel
theorem dX6_laysOrder_52 : decode cX6_laysOrder 52 = .ok (.iload 5, 2) := by decide +kernel
theorem dX6_laysOrder_54 : decode cX6_laysOrder 54 = .ok (.iadd, 1) := by decide +kernel
theorem dX6_laysOrder_55 : decode cX6_laysOrder 55 = .ok (.aload_n 0, 1) := by decide +kernel
theorem dX6_laysOrder_56 : decode cX6_laysOrder 56 = .ok (.getfield 7, 3) := by decide +kernel
theorem dX6_laysOrder_59 : decode cX6_laysOrder 59 = .ok (.bipush 104, 2) := by decide +kernel
theorem dX6_laysOrder_61 : decode cX6_laysOrder 61 = .ok (.iconst 3, 1) := by decide +kernel
theorem dX6_laysOrder_62 : decode cX6_laysOrder 62 = .ok (.iload 4, 2) := by decide +kernel
theorem dX6_laysOrder_64 : decode cX6_laysOrder 64 = .ok (.imul, 1) := by decide +kernel
theorem dX6_laysOrder_65 : decode cX6_laysOrder 65 = .ok (.iadd, 1) := by decide +kernel
theorem dX6_laysOrder_66 : decode cX6_laysOrder 66 = .ok (.iconst 3, 1) := by decide +kernel
theorem dX6_laysOrder_67 : decode cX6_laysOrder 67 = .ok (.isub, 1) := by decide +kernel
theorem dX6_laysOrder_68 : decode cX6_laysOrder 68 = .ok (.iload 5, 2) := by decide +kernel
theorem dX6_laysOrder_70 : decode cX6_laysOrder 70 = .ok (.iadd, 1) := by decide +kernel
theorem dX6_laysOrder_71 : decode cX6_laysOrder 71 = .ok (.iaload, 1) := by decide +kernel
theorem dX6_laysOrder_72 : decode cX6_laysOrder 72 = .ok (.iastore, 1) := by decide +kernel
theorem dX6_laysOrder_73 : decode cX6_laysOrder 73 = .ok (.iinc 5 1, 3) := by decide +kernel
theorem dX6_laysOrder_76 : decode cX6_laysOrder 76 = .ok (.goto (-41), 3) := by decide +kernel
theorem dX6_laysOrder_79 : decode cX6_laysOrder 79 = .ok (.iinc 4 (-1), 3) := by decide +kernel
theorem dX6_laysOrder_82 : decode cX6_laysOrder 82 = .ok (.goto (-73), 3) := by decide +kernel
theorem dX6_laysOrder_85 : decode cX6_laysOrder 85 = .ok (.aload_n 0, 1) := by decide +kernel
theorem dX6_laysOrder_86 : decode cX6_laysOrder 86 = .ok (.getfield 7, 3) := by decide +kernel
theorem dX6_laysOrder_89 : decode cX6_laysOrder 89 = .ok (.bipush 104, 2) := by decide +kernel
theorem dX6_laysOrder_91 : decode cX6_laysOrder 91 = .ok (.iconst 3, 1) := by decide +kernel
theorem dX6_laysOrder_92 : decode cX6_laysOrder 92 = .ok (.iload 4, 2) := by decide +kernel
theorem dX6_laysOrder_94 : decode cX6_laysOrder 94 = .ok (.imul, 1) := by decide +kernel
theorem dX6_laysOrder_95 : decode cX6_laysOrder 95 = .ok (.iadd, 1) := by decide +kernel
theorem dX6_laysOrder_96 : decode cX6_laysOrder 96 = .ok (.iload_n 1, 1) := by decide +kernel
theorem dX6_laysOrder_97 : decode cX6_laysOrder 97 = .ok (.iastore, 1) := by decide +kernel
theorem dX6_laysOrder_98 : decode cX6_laysOrder 98 = .ok (.aload_n 0, 1) := by decide +kernel
theorem dX6_laysOrder_99 : decode cX6_laysOrder 99 = .ok (.getfield 7, 3) := by decide +kernel
theorem dX6_laysOrder_102 : decode cX6_laysOrder 102 = .ok (.bipush 104, 2) := by decide +kernel
theorem dX6_laysOrder_104 : decode cX6_laysOrder 104 = .ok (.iconst 3, 1) := by decide +kernel
theorem dX6_laysOrder_105 : decode cX6_laysOrder 105 = .ok (.iload 4, 2) := by decide +kernel
theorem dX6_laysOrder_107 : decode cX6_laysOrder 107 = .ok (.imul, 1) := by decide +kernel
theorem dX6_laysOrder_108 : decode cX6_laysOrder 108 = .ok (.iadd, 1) := by decide +kernel
theorem dX6_laysOrder_109 : decode cX6_laysOrder 109 = .ok (.iconst 1, 1) := by decide +kernel
theorem dX6_laysOrder_110 : decode cX6_laysOrder 110 = .ok (.iadd, 1) := by decide +kernel
theorem dX6_laysOrder_111 : decode cX6_laysOrder 111 = .ok (.iload_n 2, 1) := by decide +kernel
theorem dX6_laysOrder_112 : decode cX6_laysOrder 112 = .ok (.iastore, 1) := by decide +kernel
theorem dX6_laysOrder_113 : decode cX6_laysOrder 113 = .ok (.aload_n 0, 1) := by decide +kernel
theorem dX6_laysOrder_114 : decode cX6_laysOrder 114 = .ok (.getfield 7, 3) := by decide +kernel
theorem dX6_laysOrder_117 : decode cX6_laysOrder 117 = .ok (.bipush 104, 2) := by decide +kernel
theorem dX6_laysOrder_119 : decode cX6_laysOrder 119 = .ok (.iconst 3, 1) := by decide +kernel
theorem dX6_laysOrder_120 : decode cX6_laysOrder 120 = .ok (.iload 4, 2) := by decide +kernel
theorem dX6_laysOrder_122 : decode cX6_laysOrder 122 = .ok (.imul, 1) := by decide +kernel
theorem dX6_laysOrder_123 : decode cX6_laysOrder 123 = .ok (.iadd, 1) := by decide +kernel
theorem dX6_laysOrder_124 : decode cX6_laysOrder 124 = .ok (.iconst 2, 1) := by decide +kernel
theorem dX6_laysOrder_125 : decode cX6_laysOrder 125 = .ok (.iadd, 1) := by decide +kernel
theorem dX6_laysOrder_126 : decode cX6_laysOrder 126 = .ok (.iload_n 3, 1) := by decide +kernel
theorem dX6_laysOrder_127 : decode cX6_laysOrder 127 = .ok (.iastore, 1) := by decide +kernel
theorem dX6_laysOrder_128 : decode cX6_laysOrder 128 = .ok (.aload_n 0, 1) := by decide +kernel
theorem dX6_laysOrder_129 : decode cX6_laysOrder 129 = .ok (.getfield 7, 3) := by decide +kernel
theorem dX6_laysOrder_132 : decode cX6_laysOrder 132 = .ok (.bipush 7, 2) := by decide +kernel
theorem dX6_laysOrder_134 : decode cX6_laysOrder 134 = .ok (.dup2, 1) := by decide +kernel
theorem dX6_laysOrder_135 : decode cX6_laysOrder 135 = .ok (.iaload, 1) := by decide +kernel
theorem dX6_laysOrder_136 : decode cX6_laysOrder 136 = .ok (.iconst 1, 1) := by decide +kernel
theorem dX6_laysOrder_137 : decode cX6_laysOrder 137 = .ok (.iadd, 1) := by decide +kernel
theorem dX6_laysOrder_138 : decode cX6_laysOrder 138 = .ok (.iastore, 1) := by decide +kernel
theorem dX6_laysOrder_139 : decode cX6_laysOrder 139 = .ok (.aload_n 0, 1) := by decide +kernel
theorem dX6_laysOrder_140 : decode cX6_laysOrder 140 = .ok (.getfield 7, 3) := by decide +kernel
theorem dX6_laysOrder_143 : decode cX6_laysOrder 143 = .ok (.bipush 7, 2) := by decide +kernel
theorem dX6_laysOrder_145 : decode cX6_laysOrder 145 = .ok (.iaload, 1) := by decide +kernel
theorem dX6_laysOrder_146 : decode cX6_laysOrder 146 = .ok (.ireturn, 1) := by decide +kernel
theorem dX6_order_0 : decode cX6_order 0 = .ok (.aload_n 0, 1) := by decide +kernel
theorem dX6_order_1 : decode cX6_order 1 = .ok (.iconst 0, 1) := by decide +kernel
theorem dX6_order_2 : decode cX6_order 2 = .ok (.putfield 32, 3) := by decide +kernel
theorem dX6_order_5 : decode cX6_order 5 = .ok (.aload_n 0, 1) := by decide +kernel
theorem dX6_order_6 : decode cX6_order 6 = .ok (.iload_n 1, 1) := by decide +kernel
theorem dX6_order_7 : decode cX6_order 7 = .ok (.iload_n 2, 1) := by decide +kernel
theorem dX6_order_8 : decode cX6_order 8 = .ok (.iload_n 3, 1) := by decide +kernel
theorem dX6_order_9 : decode cX6_order 9 = .ok (.invokevirtual 93, 3) := by decide +kernel
theorem dX6_order_12 : decode cX6_order 12 = .ok (.istore 4, 2) := by decide +kernel
theorem dX6_order_14 : decode cX6_order 14 = .ok (.iload 4, 2) := by decide +kernel
theorem dX6_order_16 : decode cX6_order 16 = .ok (.ifCond .eq 6, 3) := by decide +kernel
theorem dX6_order_19 : decode cX6_order 19 = .ok (.iload 4, 2) := by decide +kernel
theorem dX6_order_21 : decode cX6_order 21 = .ok (.ireturn, 1) := by decide +kernel
theorem dX6_order_22 : decode cX6_order 22 = .ok (.aload_n 0, 1) := by decide +kernel
theorem dX6_order_23 : decode cX6_order 23 = .ok (.invokevirtual 90, 3) := by decide +kernel
theorem dX6_order_26 : decode cX6_order 26 = .ok (.aload_n 0, 1) := by decide +kernel
theorem dX6_order_27 : decode cX6_order 27 = .ok (.iload_n 1, 1) := by decide +kernel
theorem dX6_order_28 : decode cX6_order 28 = .ok (.iload_n 2, 1) := by decide +kernel
theorem dX6_order_29 : decode cX6_order 29 = .ok (.iload_n 3, 1) := by decide +kernel
theorem dX6_order_30 : decode cX6_order 30 = .ok (.invokevirtual 96, 3) := by decide +kernel
theorem dX6_order_33 : decode cX6_order 33 = .ok (.ireturn, 1) := by decide +kernel
theorem dX6_refusesFrame_0 : decode cX6_refusesFrame 0 = .ok (.iload_n 0, 1) := by decide +kernel
theorem dX6_refusesFrame_1 : decode cX6_refusesFrame 1 = .ok (.iconst 0, 1) := by decide +kernel
theorem dX6_refusesFrame_2 : decode cX6_refusesFrame 2 = .ok (.sipush 255, 3) := by decide +kernel
theorem dX6_refusesFrame_5 : decode cX6_refusesFrame 5 = .ok (.invokestatic 54, 3) := by decide +kernel
theorem dX6_refusesFrame_8 : decode cX6_refusesFrame 8 = .ok (.ifCond .eq 29, 3) := by decide +kernel
theorem dX6_refusesFrame_11 : decode cX6_refusesFrame 11 = .ok (.iload_n 1, 1) := by decide +kernel
theorem dX6_refusesFrame_12 : decode cX6_refusesFrame 12 = .ok (.iconst 0, 1) := by decide +kernel
theorem dX6_refusesFrame_13 : decode cX6_refusesFrame 13 = .ok (.sipush 255, 3) := by decide +kernel
theorem dX6_refusesFrame_16 : decode cX6_refusesFrame 16 = .ok (.invokestatic 54, 3) := by decide +kernel
theorem dX6_refusesFrame_19 : decode cX6_refusesFrame 19 = .ok (.ifCond .eq 18, 3) := by decide +kernel
theorem dX6_refusesFrame_22 : decode cX6_refusesFrame 22 = .ok (.iload_n 2, 1) := by decide +kernel
theorem dX6_refusesFrame_23 : decode cX6_refusesFrame 23 = .ok (.iconst 0, 1) := by decide +kernel
theorem dX6_refusesFrame_24 : decode cX6_refusesFrame 24 = .ok (.sipush 255, 3) := by decide +kernel
theorem dX6_refusesFrame_27 : decode cX6_refusesFrame 27 = .ok (.invokestatic 54, 3) := by decide +kernel
theorem dX6_refusesFrame_30 : decode cX6_refusesFrame 30 = .ok (.ifCond .eq 7, 3) := by decide +kernel
theorem dX6_refusesFrame_33 : decode cX6_refusesFrame 33 = .ok (.iconst 0, 1) := by decide +kernel
theorem dX6_refusesFrame_34 : decode cX6_refusesFrame 34 = .ok (.goto 5, 3) := by decide +kernel
theorem dX6_refusesFrame_37 : decode cX6_refusesFrame 37 = .ok (.bipush (-2), 2) := by decide +kernel
theorem dX6_refusesFrame_39 : decode cX6_refusesFrame 39 = .ok (.ireturn, 1) := by decide +kernel
theorem dX6_frame_0 : decode cX6_frame 0 = .ok (.aload_n 0, 1) := by decide +kernel
theorem dX6_frame_1 : decode cX6_frame 1 = .ok (.iconst 0, 1) := by decide +kernel
theorem dX6_frame_2 : decode cX6_frame 2 = .ok (.putfield 32, 3) := by decide +kernel
theorem dX6_frame_5 : decode cX6_frame 5 = .ok (.iload_n 1, 1) := by decide +kernel
theorem dX6_frame_6 : decode cX6_frame 6 = .ok (.iload_n 2, 1) := by decide +kernel
theorem dX6_frame_7 : decode cX6_frame 7 = .ok (.iload_n 3, 1) := by decide +kernel
theorem dX6_frame_8 : decode cX6_frame 8 = .ok (.invokestatic 99, 3) := by decide +kernel
theorem dX6_frame_11 : decode cX6_frame 11 = .ok (.istore 4, 2) := by decide +kernel
theorem dX6_frame_13 : decode cX6_frame 13 = .ok (.iload 4, 2) := by decide +kernel
theorem dX6_frame_15 : decode cX6_frame 15 = .ok (.ifCond .eq 6, 3) := by decide +kernel
theorem dX6_frame_18 : decode cX6_frame 18 = .ok (.iload 4, 2) := by decide +kernel
theorem dX6_frame_20 : decode cX6_frame 20 = .ok (.ireturn, 1) := by decide +kernel
theorem dX6_frame_21 : decode cX6_frame 21 = .ok (.aload_n 0, 1) := by decide +kernel
theorem dX6_frame_22 : decode cX6_frame 22 = .ok (.invokevirtual 90, 3) := by decide +kernel
theorem dX6_frame_25 : decode cX6_frame 25 = .ok (.aload_n 0, 1) := by decide +kernel
theorem dX6_frame_26 : decode cX6_frame 26 = .ok (.iload_n 1, 1) := by decide +kernel
theorem dX6_frame_27 : decode cX6_frame 27 = .ok (.iload_n 2, 1) := by decide +kernel
theorem dX6_frame_28 : decode cX6_frame 28 = .ok (.iload_n 3, 1) := by decide +kernel
theorem dX6_frame_29 : decode cX6_frame 29 = .ok (.invokevirtual 66, 3) := by decide +kernel
theorem dX6_frame_32 : decode cX6_frame 32 = .ok (.ireturn, 1) := by decide +kernel
theorem dX6_refusesShorts_0 : decode cX6_refusesShorts 0 = .ok (.iload_n 0, 1) := by decide +kernel
theorem dX6_refusesShorts_1 : decode cX6_refusesShorts 1 = .ok (.iconst 0, 1) := by decide +kernel
theorem dX6_refusesShorts_2 : decode cX6_refusesShorts 2 = .ok (.bipush 7, 2) := by decide +kernel
theorem dX6_refusesShorts_4 : decode cX6_refusesShorts 4 = .ok (.invokestatic 54, 3) := by decide +kernel
theorem dX6_refusesShorts_7 : decode cX6_refusesShorts 7 = .ok (.ifCond .ne 7, 3) := by decide +kernel
theorem dX6_refusesShorts_10 : decode cX6_refusesShorts 10 = .ok (.iconst (-1), 1) := by decide +kernel
theorem dX6_refusesShorts_11 : decode cX6_refusesShorts 11 = .ok (.goto 19, 3) := by decide +kernel
theorem dX6_refusesShorts_14 : decode cX6_refusesShorts 14 = .ok (.iload_n 1, 1) := by decide +kernel
theorem dX6_refusesShorts_15 : decode cX6_refusesShorts 15 = .ok (.iconst 0, 1) := by decide +kernel
theorem dX6_refusesShorts_16 : decode cX6_refusesShorts 16 = .ok (.bipush 99, 2) := by decide +kernel
theorem dX6_refusesShorts_18 : decode cX6_refusesShorts 18 = .ok (.invokestatic 54, 3) := by decide +kernel
theorem dX6_refusesShorts_21 : decode cX6_refusesShorts 21 = .ok (.ifCond .eq 7, 3) := by decide +kernel
theorem dX6_refusesShorts_24 : decode cX6_refusesShorts 24 = .ok (.iconst 0, 1) := by decide +kernel
theorem dX6_refusesShorts_25 : decode cX6_refusesShorts 25 = .ok (.goto 5, 3) := by decide +kernel
theorem dX6_refusesShorts_28 : decode cX6_refusesShorts 28 = .ok (.bipush (-2), 2) := by decide +kernel
theorem dX6_refusesShorts_30 : decode cX6_refusesShorts 30 = .ok (.ireturn, 1) := by decide +kernel
theorem dX6_shorts_0 : decode cX6_shorts 0 = .ok (.aload_n 0, 1) := by decide +kernel
theorem dX6_shorts_1 : decode cX6_shorts 1 = .ok (.iconst 0, 1) := by decide +kernel
theorem dX6_shorts_2 : decode cX6_shorts 2 = .ok (.putfield 32, 3) := by decide +kernel
theorem dX6_shorts_5 : decode cX6_shorts 5 = .ok (.iload_n 1, 1) := by decide +kernel
theorem dX6_shorts_6 : decode cX6_shorts 6 = .ok (.iload_n 2, 1) := by decide +kernel
theorem dX6_shorts_7 : decode cX6_shorts 7 = .ok (.invokestatic 102, 3) := by decide +kernel
theorem dX6_shorts_10 : decode cX6_shorts 10 = .ok (.istore_n 3, 1) := by decide +kernel
theorem dX6_shorts_11 : decode cX6_shorts 11 = .ok (.iload_n 3, 1) := by decide +kernel
theorem dX6_shorts_12 : decode cX6_shorts 12 = .ok (.ifCond .eq 5, 3) := by decide +kernel
theorem dX6_shorts_15 : decode cX6_shorts 15 = .ok (.iload_n 3, 1) := by decide +kernel
theorem dX6_shorts_16 : decode cX6_shorts 16 = .ok (.ireturn, 1) := by decide +kernel
theorem dX6_shorts_17 : decode cX6_shorts 17 = .ok (.aload_n 0, 1) := by decide +kernel
theorem dX6_shorts_18 : decode cX6_shorts 18 = .ok (.invokevirtual 90, 3) := by decide +kernel
theorem dX6_shorts_21 : decode cX6_shorts 21 = .ok (.aload_n 0, 1) := by decide +kernel
theorem dX6_shorts_22 : decode cX6_shorts 22 = .ok (.getfield 7, 3) := by decide +kernel
theorem dX6_shorts_25 : decode cX6_shorts 25 = .ok (.bipush 8, 2) := by decide +kernel
theorem dX6_shorts_27 : decode cX6_shorts 27 = .ok (.iload_n 1, 1) := by decide +kernel
theorem dX6_shorts_28 : decode cX6_shorts 28 = .ok (.iadd, 1) := by decide +kernel
theorem dX6_shorts_29 : decode cX6_shorts 29 = .ok (.iaload, 1) := by decide +kernel
theorem dX6_shorts_30 : decode cX6_shorts 30 = .ok (.istore 4, 2) := by decide +kernel
theorem dX6_shorts_32 : decode cX6_shorts 32 = .ok (.aload_n 0, 1) := by decide +kernel
theorem dX6_shorts_33 : decode cX6_shorts 33 = .ok (.getfield 7, 3) := by decide +kernel
theorem dX6_shorts_36 : decode cX6_shorts 36 = .ok (.bipush 8, 2) := by decide +kernel
theorem dX6_shorts_38 : decode cX6_shorts 38 = .ok (.iload_n 1, 1) := by decide +kernel
theorem dX6_shorts_39 : decode cX6_shorts 39 = .ok (.iadd, 1) := by decide +kernel
theorem dX6_shorts_40 : decode cX6_shorts 40 = .ok (.iload_n 2, 1) := by decide +kernel
theorem dX6_shorts_41 : decode cX6_shorts 41 = .ok (.iastore, 1) := by decide +kernel
theorem dX6_shorts_42 : decode cX6_shorts 42 = .ok (.iload 4, 2) := by decide +kernel
theorem dX6_shorts_44 : decode cX6_shorts 44 = .ok (.ireturn, 1) := by decide +kernel
theorem dX6_refusesPass_0 : decode cX6_refusesPass 0 = .ok (.iload_n 1, 1) := by decide +kernel
theorem dX6_refusesPass_1 : decode cX6_refusesPass 1 = .ok (.iconst 1, 1) := by decide +kernel
theorem dX6_refusesPass_2 : decode cX6_refusesPass 2 = .ok (.bipush 99, 2) := by decide +kernel
theorem dX6_refusesPass_4 : decode cX6_refusesPass 4 = .ok (.invokestatic 54, 3) := by decide +kernel
theorem dX6_refusesPass_7 : decode cX6_refusesPass 7 = .ok (.ifCond .ne 8, 3) := by decide +kernel
theorem dX6_refusesPass_10 : decode cX6_refusesPass 10 = .ok (.bipush (-2), 2) := by decide +kernel
theorem dX6_refusesPass_12 : decode cX6_refusesPass 12 = .ok (.goto 22, 3) := by decide +kernel
theorem dX6_refusesPass_15 : decode cX6_refusesPass 15 = .ok (.aload_n 0, 1) := by decide +kernel
theorem dX6_refusesPass_16 : decode cX6_refusesPass 16 = .ok (.getfield 7, 3) := by decide +kernel
theorem dX6_refusesPass_19 : decode cX6_refusesPass 19 = .ok (.iconst 0, 1) := by decide +kernel
theorem dX6_refusesPass_20 : decode cX6_refusesPass 20 = .ok (.iaload, 1) := by decide +kernel
theorem dX6_refusesPass_21 : decode cX6_refusesPass 21 = .ok (.iload_n 1, 1) := by decide +kernel
theorem dX6_refusesPass_22 : decode cX6_refusesPass 22 = .ok (.iadd, 1) := by decide +kernel
theorem dX6_refusesPass_23 : decode cX6_refusesPass 23 = .ok (.ldc 105, 2) := by decide +kernel
theorem dX6_refusesPass_25 : decode cX6_refusesPass 25 = .ok (.if_icmp .le 8, 3) := by decide +kernel
theorem dX6_refusesPass_28 : decode cX6_refusesPass 28 = .ok (.bipush (-5), 2) := by decide +kernel
theorem dX6_refusesPass_30 : decode cX6_refusesPass 30 = .ok (.goto 4, 3) := by decide +kernel
theorem dX6_refusesPass_33 : decode cX6_refusesPass 33 = .ok (.iconst 0, 1) := by decide +kernel
theorem dX6_refusesPass_34 : decode cX6_refusesPass 34 = .ok (.ireturn, 1) := by decide +kernel
theorem dX6_pass_0 : decode cX6_pass 0 = .ok (.aload_n 0, 1) := by decide +kernel
theorem dX6_pass_1 : decode cX6_pass 1 = .ok (.iconst 0, 1) := by decide +kernel
theorem dX6_pass_2 : decode cX6_pass 2 = .ok (.putfield 32, 3) := by decide +kernel
theorem dX6_pass_5 : decode cX6_pass 5 = .ok (.aload_n 0, 1) := by decide +kernel
theorem dX6_pass_6 : decode cX6_pass 6 = .ok (.iload_n 1, 1) := by decide +kernel
theorem dX6_pass_7 : decode cX6_pass 7 = .ok (.invokevirtual 106, 3) := by decide +kernel
theorem dX6_pass_10 : decode cX6_pass 10 = .ok (.istore_n 2, 1) := by decide +kernel
theorem dX6_pass_11 : decode cX6_pass 11 = .ok (.iload_n 2, 1) := by decide +kernel
theorem dX6_pass_12 : decode cX6_pass 12 = .ok (.ifCond .eq 5, 3) := by decide +kernel
theorem dX6_pass_15 : decode cX6_pass 15 = .ok (.iload_n 2, 1) := by decide +kernel
theorem dX6_pass_16 : decode cX6_pass 16 = .ok (.ireturn, 1) := by decide +kernel
theorem dX6_pass_17 : decode cX6_pass 17 = .ok (.aload_n 0, 1) := by decide +kernel
theorem dX6_pass_18 : decode cX6_pass 18 = .ok (.invokevirtual 90, 3) := by decide +kernel
theorem dX6_pass_21 : decode cX6_pass 21 = .ok (.aload_n 0, 1) := by decide +kernel
theorem dX6_pass_22 : decode cX6_pass 22 = .ok (.iload_n 1, 1) := by decide +kernel
theorem dX6_pass_23 : decode cX6_pass 23 = .ok (.invokevirtual 109, 3) := by decide +kernel
theorem dX6_pass_26 : decode cX6_pass 26 = .ok (.ireturn, 1) := by decide +kernel
theorem dX6_of_0 : decode cX6_of 0 = .ok (.aload_n 0, 1) := by decide +kernel
theorem dX6_of_1 : decode cX6_of 1 = .ok (.iconst 0, 1) := by decide +kernel
theorem dX6_of_2 : decode cX6_of 2 = .ok (.putfield 32, 3) := by decide +kernel
theorem dX6_of_5 : decode cX6_of 5 = .ok (.aload_n 0, 1) := by decide +kernel
theorem dX6_of_6 : decode cX6_of 6 = .ok (.iload_n 1, 1) := by decide +kernel
theorem dX6_of_7 : decode cX6_of 7 = .ok (.invokevirtual 87, 3) := by decide +kernel
theorem dX6_of_10 : decode cX6_of 10 = .ok (.istore_n 3, 1) := by decide +kernel
theorem dX6_of_11 : decode cX6_of 11 = .ok (.iload_n 3, 1) := by decide +kernel
theorem dX6_of_12 : decode cX6_of 12 = .ok (.bipush (-6), 2) := by decide +kernel
theorem dX6_of_14 : decode cX6_of 14 = .ok (.if_icmp .ne 5, 3) := by decide +kernel
theorem dX6_of_17 : decode cX6_of 17 = .ok (.iconst (-1), 1) := by decide +kernel
theorem dX6_of_18 : decode cX6_of 18 = .ok (.ireturn, 1) := by decide +kernel
theorem dX6_of_19 : decode cX6_of 19 = .ok (.iload_n 2, 1) := by decide +kernel
theorem dX6_of_20 : decode cX6_of 20 = .ok (.tableswitch 127 0 11 #[64, 64, 64, 64, 73, 84, 94, 94, 94, 101, 107, 115], 64) := by decide +kernel
theorem dX6_of_84 : decode cX6_of 84 = .ok (.aload_n 0, 1) := by decide +kernel
theorem dX6_of_85 : decode cX6_of 85 = .ok (.iload_n 3, 1) := by decide +kernel
theorem dX6_of_86 : decode cX6_of 86 = .ok (.iload_n 2, 1) := by decide +kernel
theorem dX6_of_87 : decode cX6_of 87 = .ok (.iconst 1, 1) := by decide +kernel
theorem dX6_of_88 : decode cX6_of 88 = .ok (.iadd, 1) := by decide +kernel
theorem dX6_of_89 : decode cX6_of 89 = .ok (.invokevirtual 36, 3) := by decide +kernel
theorem dX6_of_92 : decode cX6_of 92 = .ok (.ireturn, 1) := by decide +kernel
theorem dX6_of_93 : decode cX6_of 93 = .ok (.aload_n 0, 1) := by decide +kernel
theorem dX6_of_94 : decode cX6_of 94 = .ok (.iload_n 3, 1) := by decide +kernel
theorem dX6_of_95 : decode cX6_of 95 = .ok (.iconst 5, 1) := by decide +kernel
theorem dX6_of_96 : decode cX6_of 96 = .ok (.invokevirtual 36, 3) := by decide +kernel
theorem dX6_of_99 : decode cX6_of 99 = .ok (.sipush 1000, 3) := by decide +kernel
theorem dX6_of_102 : decode cX6_of 102 = .ok (.iadd, 1) := by decide +kernel
theorem dX6_of_103 : decode cX6_of 103 = .ok (.ireturn, 1) := by decide +kernel
theorem dX6_of_104 : decode cX6_of 104 = .ok (.aload_n 0, 1) := by decide +kernel
theorem dX6_of_105 : decode cX6_of 105 = .ok (.iload_n 3, 1) := by decide +kernel
theorem dX6_of_106 : decode cX6_of 106 = .ok (.invokevirtual 70, 3) := by decide +kernel
theorem dX6_of_109 : decode cX6_of 109 = .ok (.sipush 1000, 3) := by decide +kernel
theorem dX6_of_112 : decode cX6_of 112 = .ok (.iadd, 1) := by decide +kernel
theorem dX6_of_113 : decode cX6_of 113 = .ok (.ireturn, 1) := by decide +kernel
theorem dX6_of_114 : decode cX6_of 114 = .ok (.aload_n 0, 1) := by decide +kernel
theorem dX6_of_115 : decode cX6_of 115 = .ok (.iload_n 3, 1) := by decide +kernel
theorem dX6_of_116 : decode cX6_of 116 = .ok (.iload_n 2, 1) := by decide +kernel
theorem dX6_of_117 : decode cX6_of 117 = .ok (.invokevirtual 36, 3) := by decide +kernel
theorem dX6_of_120 : decode cX6_of 120 = .ok (.ireturn, 1) := by decide +kernel
theorem dX6_of_121 : decode cX6_of 121 = .ok (.aload_n 0, 1) := by decide +kernel
theorem dX6_of_122 : decode cX6_of 122 = .ok (.iload_n 3, 1) := by decide +kernel
theorem dX6_of_123 : decode cX6_of 123 = .ok (.invokevirtual 43, 3) := by decide +kernel
theorem dX6_of_126 : decode cX6_of 126 = .ok (.ireturn, 1) := by decide +kernel
theorem dX6_of_127 : decode cX6_of 127 = .ok (.aload_n 0, 1) := by decide +kernel
theorem dX6_of_128 : decode cX6_of 128 = .ok (.iload_n 3, 1) := by decide +kernel
theorem dX6_of_129 : decode cX6_of 129 = .ok (.bipush 9, 2) := by decide +kernel
theorem dX6_of_131 : decode cX6_of 131 = .ok (.invokevirtual 36, 3) := by decide +kernel
theorem dX6_of_134 : decode cX6_of 134 = .ok (.ireturn, 1) := by decide +kernel
theorem dX6_of_135 : decode cX6_of 135 = .ok (.aload_n 0, 1) := by decide +kernel
theorem dX6_of_136 : decode cX6_of 136 = .ok (.iload_n 3, 1) := by decide +kernel
theorem dX6_of_137 : decode cX6_of 137 = .ok (.bipush 10, 2) := by decide +kernel
theorem dX6_of_139 : decode cX6_of 139 = .ok (.invokevirtual 36, 3) := by decide +kernel
theorem dX6_of_142 : decode cX6_of 142 = .ok (.sipush 1000, 3) := by decide +kernel
theorem dX6_of_145 : decode cX6_of 145 = .ok (.iadd, 1) := by decide +kernel
theorem dX6_of_146 : decode cX6_of 146 = .ok (.ireturn, 1) := by decide +kernel
theorem dX6_of_147 : decode cX6_of 147 = .ok (.bipush (-2), 2) := by decide +kernel
theorem dX6_of_149 : decode cX6_of 149 = .ok (.ireturn, 1) := by decide +kernel
theorem dX6_address_0 : decode cX6_address 0 = .ok (.aload_n 0, 1) := by decide +kernel
theorem dX6_address_1 : decode cX6_address 1 = .ok (.iconst 0, 1) := by decide +kernel
theorem dX6_address_2 : decode cX6_address 2 = .ok (.putfield 32, 3) := by decide +kernel
theorem dX6_address_5 : decode cX6_address 5 = .ok (.iload_n 1, 1) := by decide +kernel
theorem dX6_address_6 : decode cX6_address 6 = .ok (.iconst 0, 1) := by decide +kernel
theorem dX6_address_7 : decode cX6_address 7 = .ok (.aload_n 0, 1) := by decide +kernel
theorem dX6_address_8 : decode cX6_address 8 = .ok (.getfield 7, 3) := by decide +kernel
theorem dX6_address_11 : decode cX6_address 11 = .ok (.bipush 6, 2) := by decide +kernel
theorem dX6_address_13 : decode cX6_address 13 = .ok (.iaload, 1) := by decide +kernel
theorem dX6_address_14 : decode cX6_address 14 = .ok (.iconst 1, 1) := by decide +kernel
theorem dX6_address_15 : decode cX6_address 15 = .ok (.isub, 1) := by decide +kernel
theorem dX6_address_16 : decode cX6_address 16 = .ok (.invokestatic 54, 3) := by decide +kernel
theorem dX6_address_19 : decode cX6_address 19 = .ok (.ifCond .eq 12, 3) := by decide +kernel
theorem dX6_address_22 : decode cX6_address 22 = .ok (.aload_n 0, 1) := by decide +kernel
theorem dX6_address_23 : decode cX6_address 23 = .ok (.iload_n 1, 1) := by decide +kernel
theorem dX6_address_24 : decode cX6_address 24 = .ok (.iconst 0, 1) := by decide +kernel
theorem dX6_address_25 : decode cX6_address 25 = .ok (.invokevirtual 36, 3) := by decide +kernel
theorem dX6_address_28 : decode cX6_address 28 = .ok (.goto 4, 3) := by decide +kernel
theorem dX6_address_31 : decode cX6_address 31 = .ok (.iconst (-1), 1) := by decide +kernel
theorem dX6_address_32 : decode cX6_address 32 = .ok (.ireturn, 1) := by decide +kernel
theorem dX6_waiting_0 : decode cX6_waiting 0 = .ok (.aload_n 0, 1) := by decide +kernel
theorem dX6_waiting_1 : decode cX6_waiting 1 = .ok (.iconst 0, 1) := by decide +kernel
theorem dX6_waiting_2 : decode cX6_waiting 2 = .ok (.putfield 32, 3) := by decide +kernel
theorem dX6_waiting_5 : decode cX6_waiting 5 = .ok (.iload_n 1, 1) := by decide +kernel
theorem dX6_waiting_6 : decode cX6_waiting 6 = .ok (.iconst 0, 1) := by decide +kernel
theorem dX6_waiting_7 : decode cX6_waiting 7 = .ok (.aload_n 0, 1) := by decide +kernel
theorem dX6_waiting_8 : decode cX6_waiting 8 = .ok (.getfield 7, 3) := by decide +kernel
theorem dX6_waiting_11 : decode cX6_waiting 11 = .ok (.bipush 7, 2) := by decide +kernel
theorem dX6_waiting_13 : decode cX6_waiting 13 = .ok (.iaload, 1) := by decide +kernel
theorem dX6_waiting_14 : decode cX6_waiting 14 = .ok (.iconst 1, 1) := by decide +kernel
theorem dX6_waiting_15 : decode cX6_waiting 15 = .ok (.isub, 1) := by decide +kernel
theorem dX6_waiting_16 : decode cX6_waiting 16 = .ok (.invokestatic 54, 3) := by decide +kernel
theorem dX6_waiting_19 : decode cX6_waiting 19 = .ok (.ifCond .ne 5, 3) := by decide +kernel
theorem dX6_waiting_22 : decode cX6_waiting 22 = .ok (.iconst (-1), 1) := by decide +kernel
theorem dX6_waiting_23 : decode cX6_waiting 23 = .ok (.ireturn, 1) := by decide +kernel
theorem dX6_waiting_24 : decode cX6_waiting 24 = .ok (.iload_n 2, 1) := by decide +kernel
theorem dX6_waiting_25 : decode cX6_waiting 25 = .ok (.iconst 0, 1) := by decide +kernel
theorem dX6_waiting_26 : decode cX6_waiting 26 = .ok (.iconst 2, 1) := by decide +kernel
theorem dX6_waiting_27 : decode cX6_waiting 27 = .ok (.invokestatic 54, 3) := by decide +kernel
theorem dX6_waiting_30 : decode cX6_waiting 30 = .ok (.ifCond .eq 19, 3) := by decide +kernel
theorem dX6_waiting_33 : decode cX6_waiting 33 = .ok (.aload_n 0, 1) := by decide +kernel
theorem dX6_waiting_34 : decode cX6_waiting 34 = .ok (.getfield 7, 3) := by decide +kernel
theorem dX6_waiting_37 : decode cX6_waiting 37 = .ok (.bipush 104, 2) := by decide +kernel
theorem dX6_waiting_39 : decode cX6_waiting 39 = .ok (.iconst 3, 1) := by decide +kernel
theorem dX6_waiting_40 : decode cX6_waiting 40 = .ok (.iload_n 1, 1) := by decide +kernel
theorem dX6_waiting_41 : decode cX6_waiting 41 = .ok (.imul, 1) := by decide +kernel
theorem dX6_waiting_42 : decode cX6_waiting 42 = .ok (.iadd, 1) := by decide +kernel
theorem dX6_waiting_43 : decode cX6_waiting 43 = .ok (.iload_n 2, 1) := by decide +kernel
theorem dX6_waiting_44 : decode cX6_waiting 44 = .ok (.iadd, 1) := by decide +kernel
theorem dX6_waiting_45 : decode cX6_waiting 45 = .ok (.iaload, 1) := by decide +kernel
theorem dX6_waiting_46 : decode cX6_waiting 46 = .ok (.goto 5, 3) := by decide +kernel
theorem dX6_waiting_49 : decode cX6_waiting 49 = .ok (.bipush (-2), 2) := by decide +kernel
theorem dX6_waiting_51 : decode cX6_waiting 51 = .ok (.ireturn, 1) := by decide +kernel
theorem dX6_locosIn_0 : decode cX6_locosIn 0 = .ok (.iconst 0, 1) := by decide +kernel
theorem dX6_locosIn_1 : decode cX6_locosIn 1 = .ok (.istore_n 2, 1) := by decide +kernel
theorem dX6_locosIn_2 : decode cX6_locosIn 2 = .ok (.iconst 0, 1) := by decide +kernel
theorem dX6_locosIn_3 : decode cX6_locosIn 3 = .ok (.istore_n 3, 1) := by decide +kernel
theorem dX6_locosIn_4 : decode cX6_locosIn 4 = .ok (.iload_n 3, 1) := by decide +kernel
theorem dX6_locosIn_5 : decode cX6_locosIn 5 = .ok (.aload_n 0, 1) := by decide +kernel
theorem dX6_locosIn_6 : decode cX6_locosIn 6 = .ok (.getfield 7, 3) := by decide +kernel
theorem dX6_locosIn_9 : decode cX6_locosIn 9 = .ok (.bipush 6, 2) := by decide +kernel
theorem dX6_locosIn_11 : decode cX6_locosIn 11 = .ok (.iaload, 1) := by decide +kernel
theorem dX6_locosIn_12 : decode cX6_locosIn 12 = .ok (.if_icmp .ge 26, 3) := by decide +kernel
theorem dX6_locosIn_15 : decode cX6_locosIn 15 = .ok (.iload_n 2, 1) := by decide +kernel
theorem dX6_locosIn_16 : decode cX6_locosIn 16 = .ok (.aload_n 0, 1) := by decide +kernel
theorem dX6_locosIn_17 : decode cX6_locosIn 17 = .ok (.iload_n 3, 1) := by decide +kernel
theorem dX6_locosIn_18 : decode cX6_locosIn 18 = .ok (.invokevirtual 43, 3) := by decide +kernel
theorem dX6_locosIn_21 : decode cX6_locosIn 21 = .ok (.iload_n 1, 1) := by decide +kernel
theorem dX6_locosIn_22 : decode cX6_locosIn 22 = .ok (.if_icmp .ne 7, 3) := by decide +kernel
theorem dX6_locosIn_25 : decode cX6_locosIn 25 = .ok (.iconst 1, 1) := by decide +kernel
theorem dX6_locosIn_26 : decode cX6_locosIn 26 = .ok (.goto 4, 3) := by decide +kernel
theorem dX6_locosIn_29 : decode cX6_locosIn 29 = .ok (.iconst 0, 1) := by decide +kernel
theorem dX6_locosIn_30 : decode cX6_locosIn 30 = .ok (.iadd, 1) := by decide +kernel
theorem dX6_locosIn_31 : decode cX6_locosIn 31 = .ok (.istore_n 2, 1) := by decide +kernel
theorem dX6_locosIn_32 : decode cX6_locosIn 32 = .ok (.iinc 3 1, 3) := by decide +kernel
theorem dX6_locosIn_35 : decode cX6_locosIn 35 = .ok (.goto (-31), 3) := by decide +kernel
theorem dX6_locosIn_38 : decode cX6_locosIn 38 = .ok (.iload_n 2, 1) := by decide +kernel
theorem dX6_locosIn_39 : decode cX6_locosIn 39 = .ok (.ireturn, 1) := by decide +kernel
theorem dX6_block_0 : decode cX6_block 0 = .ok (.aload_n 0, 1) := by decide +kernel
theorem dX6_block_1 : decode cX6_block 1 = .ok (.iconst 0, 1) := by decide +kernel
theorem dX6_block_2 : decode cX6_block 2 = .ok (.putfield 32, 3) := by decide +kernel
theorem dX6_block_5 : decode cX6_block 5 = .ok (.iload_n 1, 1) := by decide +kernel
theorem dX6_block_6 : decode cX6_block 6 = .ok (.iconst 0, 1) := by decide +kernel
theorem dX6_block_7 : decode cX6_block 7 = .ok (.bipush 7, 2) := by decide +kernel
theorem dX6_block_9 : decode cX6_block 9 = .ok (.invokestatic 54, 3) := by decide +kernel
theorem dX6_block_12 : decode cX6_block 12 = .ok (.ifCond .ne 5, 3) := by decide +kernel
theorem dX6_block_15 : decode cX6_block 15 = .ok (.iconst (-1), 1) := by decide +kernel
theorem dX6_block_16 : decode cX6_block 16 = .ok (.ireturn, 1) := by decide +kernel
theorem dX6_block_17 : decode cX6_block 17 = .ok (.iload_n 2, 1) := by decide +kernel
theorem dX6_block_18 : decode cX6_block 18 = .ok (.ifCond .ne 15, 3) := by decide +kernel
theorem dX6_block_21 : decode cX6_block 21 = .ok (.aload_n 0, 1) := by decide +kernel
theorem dX6_block_22 : decode cX6_block 22 = .ok (.getfield 7, 3) := by decide +kernel
theorem dX6_block_25 : decode cX6_block 25 = .ok (.bipush 8, 2) := by decide +kernel
theorem dX6_block_27 : decode cX6_block 27 = .ok (.iload_n 1, 1) := by decide +kernel
theorem dX6_block_28 : decode cX6_block 28 = .ok (.iadd, 1) := by decide +kernel
theorem dX6_block_29 : decode cX6_block 29 = .ok (.iaload, 1) := by decide +kernel
theorem dX6_block_30 : decode cX6_block 30 = .ok (.goto 18, 3) := by decide +kernel
theorem dX6_block_33 : decode cX6_block 33 = .ok (.iload_n 2, 1) := by decide +kernel
theorem dX6_block_34 : decode cX6_block 34 = .ok (.iconst 1, 1) := by decide +kernel
theorem dX6_block_35 : decode cX6_block 35 = .ok (.if_icmp .ne 11, 3) := by decide +kernel
theorem dX6_block_38 : decode cX6_block 38 = .ok (.aload_n 0, 1) := by decide +kernel
theorem dX6_block_39 : decode cX6_block 39 = .ok (.iload_n 1, 1) := by decide +kernel
theorem dX6_block_40 : decode cX6_block 40 = .ok (.invokevirtual 112, 3) := by decide +kernel
theorem dX6_block_43 : decode cX6_block 43 = .ok (.goto 5, 3) := by decide +kernel
theorem dX6_block_46 : decode cX6_block 46 = .ok (.bipush (-2), 2) := by decide +kernel
theorem dX6_block_48 : decode cX6_block 48 = .ok (.ireturn, 1) := by decide +kernel
theorem dX6_overBlocks_0 : decode cX6_overBlocks 0 = .ok (.iconst 0, 1) := by decide +kernel
theorem dX6_overBlocks_1 : decode cX6_overBlocks 1 = .ok (.istore_n 2, 1) := by decide +kernel
theorem dX6_overBlocks_2 : decode cX6_overBlocks 2 = .ok (.iconst 0, 1) := by decide +kernel
theorem dX6_overBlocks_3 : decode cX6_overBlocks 3 = .ok (.istore_n 3, 1) := by decide +kernel
theorem dX6_overBlocks_4 : decode cX6_overBlocks 4 = .ok (.iload_n 3, 1) := by decide +kernel
theorem dX6_overBlocks_5 : decode cX6_overBlocks 5 = .ok (.bipush 8, 2) := by decide +kernel
theorem dX6_overBlocks_7 : decode cX6_overBlocks 7 = .ok (.if_icmp .ge 52, 3) := by decide +kernel
theorem dX6_overBlocks_10 : decode cX6_overBlocks 10 = .ok (.iload_n 2, 1) := by decide +kernel
theorem dX6_overBlocks_11 : decode cX6_overBlocks 11 = .ok (.iload_n 1, 1) := by decide +kernel
theorem dX6_overBlocks_12 : decode cX6_overBlocks 12 = .ok (.bipush 7, 2) := by decide +kernel
theorem dX6_overBlocks_14 : decode cX6_overBlocks 14 = .ok (.if_icmp .ne 23, 3) := by decide +kernel
theorem dX6_overBlocks_17 : decode cX6_overBlocks 17 = .ok (.aload_n 0, 1) := by decide +kernel
theorem dX6_overBlocks_18 : decode cX6_overBlocks 18 = .ok (.getfield 7, 3) := by decide +kernel
theorem dX6_overBlocks_21 : decode cX6_overBlocks 21 = .ok (.bipush 8, 2) := by decide +kernel
theorem dX6_overBlocks_23 : decode cX6_overBlocks 23 = .ok (.iload_n 3, 1) := by decide +kernel
theorem dX6_overBlocks_24 : decode cX6_overBlocks 24 = .ok (.iadd, 1) := by decide +kernel
theorem dX6_overBlocks_25 : decode cX6_overBlocks 25 = .ok (.iaload, 1) := by decide +kernel
theorem dX6_overBlocks_26 : decode cX6_overBlocks 26 = .ok (.ifCond .le 7, 3) := by decide +kernel
theorem dX6_overBlocks_29 : decode cX6_overBlocks 29 = .ok (.iconst 1, 1) := by decide +kernel
theorem dX6_overBlocks_30 : decode cX6_overBlocks 30 = .ok (.goto 21, 3) := by decide +kernel
theorem dX6_overBlocks_33 : decode cX6_overBlocks 33 = .ok (.iconst 0, 1) := by decide +kernel
theorem dX6_overBlocks_34 : decode cX6_overBlocks 34 = .ok (.goto 17, 3) := by decide +kernel
theorem dX6_overBlocks_37 : decode cX6_overBlocks 37 = .ok (.aload_n 0, 1) := by decide +kernel
theorem dX6_overBlocks_38 : decode cX6_overBlocks 38 = .ok (.iload_n 3, 1) := by decide +kernel
theorem dX6_overBlocks_39 : decode cX6_overBlocks 39 = .ok (.invokevirtual 112, 3) := by decide +kernel
theorem dX6_overBlocks_42 : decode cX6_overBlocks 42 = .ok (.iconst 1, 1) := by decide +kernel
theorem dX6_overBlocks_43 : decode cX6_overBlocks 43 = .ok (.if_icmp .le 7, 3) := by decide +kernel
theorem dX6_overBlocks_46 : decode cX6_overBlocks 46 = .ok (.iconst 1, 1) := by decide +kernel
theorem dX6_overBlocks_47 : decode cX6_overBlocks 47 = .ok (.goto 4, 3) := by decide +kernel
theorem dX6_overBlocks_50 : decode cX6_overBlocks 50 = .ok (.iconst 0, 1) := by decide +kernel
theorem dX6_overBlocks_51 : decode cX6_overBlocks 51 = .ok (.iadd, 1) := by decide +kernel
theorem dX6_overBlocks_52 : decode cX6_overBlocks 52 = .ok (.istore_n 2, 1) := by decide +kernel
theorem dX6_overBlocks_53 : decode cX6_overBlocks 53 = .ok (.iinc 3 1, 3) := by decide +kernel
theorem dX6_overBlocks_56 : decode cX6_overBlocks 56 = .ok (.goto (-52), 3) := by decide +kernel
theorem dX6_overBlocks_59 : decode cX6_overBlocks 59 = .ok (.iload_n 2, 1) := by decide +kernel
theorem dX6_overBlocks_60 : decode cX6_overBlocks 60 = .ok (.ireturn, 1) := by decide +kernel
theorem dX6_allSpeeds_0 : decode cX6_allSpeeds 0 = .ok (.iconst 0, 1) := by decide +kernel
theorem dX6_allSpeeds_1 : decode cX6_allSpeeds 1 = .ok (.istore_n 1, 1) := by decide +kernel
theorem dX6_allSpeeds_2 : decode cX6_allSpeeds 2 = .ok (.iconst 0, 1) := by decide +kernel
theorem dX6_allSpeeds_3 : decode cX6_allSpeeds 3 = .ok (.istore_n 2, 1) := by decide +kernel
theorem dX6_allSpeeds_4 : decode cX6_allSpeeds 4 = .ok (.iload_n 2, 1) := by decide +kernel
theorem dX6_allSpeeds_5 : decode cX6_allSpeeds 5 = .ok (.aload_n 0, 1) := by decide +kernel
theorem dX6_allSpeeds_6 : decode cX6_allSpeeds 6 = .ok (.getfield 7, 3) := by decide +kernel
theorem dX6_allSpeeds_9 : decode cX6_allSpeeds 9 = .ok (.bipush 6, 2) := by decide +kernel
theorem dX6_allSpeeds_11 : decode cX6_allSpeeds 11 = .ok (.iaload, 1) := by decide +kernel
theorem dX6_allSpeeds_12 : decode cX6_allSpeeds 12 = .ok (.if_icmp .ge 18, 3) := by decide +kernel
theorem dX6_allSpeeds_15 : decode cX6_allSpeeds 15 = .ok (.iload_n 1, 1) := by decide +kernel
theorem dX6_allSpeeds_16 : decode cX6_allSpeeds 16 = .ok (.aload_n 0, 1) := by decide +kernel
theorem dX6_allSpeeds_17 : decode cX6_allSpeeds 17 = .ok (.iload_n 2, 1) := by decide +kernel
theorem dX6_allSpeeds_18 : decode cX6_allSpeeds 18 = .ok (.iconst 5, 1) := by decide +kernel
theorem dX6_allSpeeds_19 : decode cX6_allSpeeds 19 = .ok (.invokevirtual 36, 3) := by decide +kernel
theorem dX6_allSpeeds_22 : decode cX6_allSpeeds 22 = .ok (.iadd, 1) := by decide +kernel
theorem dX6_allSpeeds_23 : decode cX6_allSpeeds 23 = .ok (.istore_n 1, 1) := by decide +kernel
theorem dX6_allSpeeds_24 : decode cX6_allSpeeds 24 = .ok (.iinc 2 1, 3) := by decide +kernel
theorem dX6_allSpeeds_27 : decode cX6_allSpeeds 27 = .ok (.goto (-23), 3) := by decide +kernel
theorem dX6_allSpeeds_30 : decode cX6_allSpeeds 30 = .ok (.iload_n 1, 1) := by decide +kernel
theorem dX6_allSpeeds_31 : decode cX6_allSpeeds 31 = .ok (.ireturn, 1) := by decide +kernel
theorem dX6_count_0 : decode cX6_count 0 = .ok (.aload_n 0, 1) := by decide +kernel
theorem dX6_count_1 : decode cX6_count 1 = .ok (.iconst 0, 1) := by decide +kernel
theorem dX6_count_2 : decode cX6_count 2 = .ok (.putfield 32, 3) := by decide +kernel
theorem dX6_count_5 : decode cX6_count 5 = .ok (.iload_n 1, 1) := by decide +kernel
theorem dX6_count_6 : decode cX6_count 6 = .ok (.tableswitch 128 0 11 #[62, 69, 77, 85, 92, 92, 92, 103, 103, 109, 118, 123], 62) := by decide +kernel
theorem dX6_count_68 : decode cX6_count 68 = .ok (.aload_n 0, 1) := by decide +kernel
theorem dX6_count_69 : decode cX6_count 69 = .ok (.getfield 7, 3) := by decide +kernel
theorem dX6_count_72 : decode cX6_count 72 = .ok (.iconst 0, 1) := by decide +kernel
theorem dX6_count_73 : decode cX6_count 73 = .ok (.iaload, 1) := by decide +kernel
theorem dX6_count_74 : decode cX6_count 74 = .ok (.ireturn, 1) := by decide +kernel
theorem dX6_count_75 : decode cX6_count 75 = .ok (.aload_n 0, 1) := by decide +kernel
theorem dX6_count_76 : decode cX6_count 76 = .ok (.getfield 7, 3) := by decide +kernel
theorem dX6_count_79 : decode cX6_count 79 = .ok (.bipush 6, 2) := by decide +kernel
theorem dX6_count_81 : decode cX6_count 81 = .ok (.iaload, 1) := by decide +kernel
theorem dX6_count_82 : decode cX6_count 82 = .ok (.ireturn, 1) := by decide +kernel
theorem dX6_count_83 : decode cX6_count 83 = .ok (.aload_n 0, 1) := by decide +kernel
theorem dX6_count_84 : decode cX6_count 84 = .ok (.getfield 7, 3) := by decide +kernel
theorem dX6_count_87 : decode cX6_count 87 = .ok (.bipush 7, 2) := by decide +kernel
theorem dX6_count_89 : decode cX6_count 89 = .ok (.iaload, 1) := by decide +kernel
theorem dX6_count_90 : decode cX6_count 90 = .ok (.ireturn, 1) := by decide +kernel
theorem dX6_count_91 : decode cX6_count 91 = .ok (.aload_n 0, 1) := by decide +kernel
theorem dX6_count_92 : decode cX6_count 92 = .ok (.getfield 7, 3) := by decide +kernel
theorem dX6_count_95 : decode cX6_count 95 = .ok (.iconst 1, 1) := by decide +kernel
theorem dX6_count_96 : decode cX6_count 96 = .ok (.iaload, 1) := by decide +kernel
theorem dX6_count_97 : decode cX6_count 97 = .ok (.ireturn, 1) := by decide +kernel
theorem dX6_count_98 : decode cX6_count 98 = .ok (.aload_n 0, 1) := by decide +kernel
theorem dX6_count_99 : decode cX6_count 99 = .ok (.getfield 7, 3) := by decide +kernel
theorem dX6_count_102 : decode cX6_count 102 = .ok (.iconst 3, 1) := by decide +kernel
theorem dX6_count_103 : decode cX6_count 103 = .ok (.iload_n 1, 1) := by decide +kernel
theorem dX6_count_104 : decode cX6_count 104 = .ok (.iadd, 1) := by decide +kernel
theorem dX6_count_105 : decode cX6_count 105 = .ok (.iconst 4, 1) := by decide +kernel
theorem dX6_count_106 : decode cX6_count 106 = .ok (.isub, 1) := by decide +kernel
theorem dX6_count_107 : decode cX6_count 107 = .ok (.iaload, 1) := by decide +kernel
theorem dX6_count_108 : decode cX6_count 108 = .ok (.ireturn, 1) := by decide +kernel
theorem dX6_count_109 : decode cX6_count 109 = .ok (.aload_n 0, 1) := by decide +kernel
theorem dX6_count_110 : decode cX6_count 110 = .ok (.iload_n 1, 1) := by decide +kernel
theorem dX6_count_111 : decode cX6_count 111 = .ok (.invokevirtual 115, 3) := by decide +kernel
theorem dX6_count_114 : decode cX6_count 114 = .ok (.ireturn, 1) := by decide +kernel
theorem dX6_count_115 : decode cX6_count 115 = .ok (.aload_n 0, 1) := by decide +kernel
theorem dX6_count_116 : decode cX6_count 116 = .ok (.invokevirtual 118, 3) := by decide +kernel
theorem dX6_count_119 : decode cX6_count 119 = .ok (.sipush 10000, 3) := by decide +kernel
theorem dX6_count_122 : decode cX6_count 122 = .ok (.iadd, 1) := by decide +kernel
theorem dX6_count_123 : decode cX6_count 123 = .ok (.ireturn, 1) := by decide +kernel
theorem dX6_count_124 : decode cX6_count 124 = .ok (.aload_n 0, 1) := by decide +kernel
theorem dX6_count_125 : decode cX6_count 125 = .ok (.getfield 121, 3) := by decide +kernel
theorem dX6_count_128 : decode cX6_count 128 = .ok (.ireturn, 1) := by decide +kernel
theorem dX6_count_129 : decode cX6_count 129 = .ok (.aload_n 0, 1) := by decide +kernel
theorem dX6_count_130 : decode cX6_count 130 = .ok (.getfield 40, 3) := by decide +kernel
theorem dX6_count_133 : decode cX6_count 133 = .ok (.ireturn, 1) := by decide +kernel
theorem dX6_count_134 : decode cX6_count 134 = .ok (.bipush (-2), 2) := by decide +kernel
theorem dX6_count_136 : decode cX6_count 136 = .ok (.ireturn, 1) := by decide +kernel
theorem dX6_reaches_0 : decode cX6_reaches 0 = .ok (.aload_n 0, 1) := by decide +kernel
theorem dX6_reaches_1 : decode cX6_reaches 1 = .ok (.iconst 0, 1) := by decide +kernel
theorem dX6_reaches_2 : decode cX6_reaches 2 = .ok (.putfield 32, 3) := by decide +kernel
theorem dX6_reaches_5 : decode cX6_reaches 5 = .ok (.aload_n 0, 1) := by decide +kernel
theorem dX6_reaches_6 : decode cX6_reaches 6 = .ok (.iload_n 1, 1) := by decide +kernel
theorem dX6_reaches_7 : decode cX6_reaches 7 = .ok (.invokevirtual 87, 3) := by decide +kernel
theorem dX6_reaches_10 : decode cX6_reaches 10 = .ok (.istore_n 3, 1) := by decide +kernel
theorem dX6_reaches_11 : decode cX6_reaches 11 = .ok (.iload_n 3, 1) := by decide +kernel
theorem dX6_reaches_12 : decode cX6_reaches 12 = .ok (.bipush (-6), 2) := by decide +kernel
theorem dX6_reaches_14 : decode cX6_reaches 14 = .ok (.if_icmp .eq 13, 3) := by decide +kernel
theorem dX6_reaches_17 : decode cX6_reaches 17 = .ok (.iload_n 2, 1) := by decide +kernel
theorem dX6_reaches_18 : decode cX6_reaches 18 = .ok (.iconst 0, 1) := by decide +kernel
theorem dX6_reaches_19 : decode cX6_reaches 19 = .ok (.bipush 7, 2) := by decide +kernel
theorem dX6_reaches_21 : decode cX6_reaches 21 = .ok (.invokestatic 54, 3) := by decide +kernel
theorem dX6_reaches_24 : decode cX6_reaches 24 = .ok (.ifCond .ne 5, 3) := by decide +kernel
theorem dX6_reaches_27 : decode cX6_reaches 27 = .ok (.iconst (-1), 1) := by decide +kernel
theorem dX6_reaches_28 : decode cX6_reaches 28 = .ok (.ireturn, 1) := by decide +kernel
theorem dX6_reaches_29 : decode cX6_reaches 29 = .ok (.aload_n 0, 1) := by decide +kernel
theorem dX6_reaches_30 : decode cX6_reaches 30 = .ok (.invokevirtual 124, 3) := by decide +kernel
theorem dX6_reaches_33 : decode cX6_reaches 33 = .ok (.iconst 0, 1) := by decide +kernel
theorem dX6_reaches_34 : decode cX6_reaches 34 = .ok (.istore 4, 2) := by decide +kernel
theorem dX6_reaches_36 : decode cX6_reaches 36 = .ok (.iload 4, 2) := by decide +kernel
theorem dX6_reaches_38 : decode cX6_reaches 38 = .ok (.sipush 1000, 3) := by decide +kernel
theorem dX6_reaches_41 : decode cX6_reaches 41 = .ok (.if_icmp .gt 23, 3) := by decide +kernel
theorem dX6_reaches_44 : decode cX6_reaches 44 = .ok (.aload_n 0, 1) := by decide +kernel
theorem dX6_reaches_45 : decode cX6_reaches 45 = .ok (.iload_n 3, 1) := by decide +kernel
theorem dX6_reaches_46 : decode cX6_reaches 46 = .ok (.invokevirtual 43, 3) := by decide +kernel
theorem dX6_reaches_49 : decode cX6_reaches 49 = .ok (.iload_n 2, 1) := by decide +kernel
theorem dX6_reaches_50 : decode cX6_reaches 50 = .ok (.if_icmp .eq 14, 3) := by decide +kernel
theorem dX6_reaches_53 : decode cX6_reaches 53 = .ok (.aload_n 0, 1) := by decide +kernel
theorem dX6_reaches_54 : decode cX6_reaches 54 = .ok (.invokevirtual 84, 3) := by decide +kernel
theorem dX6_reaches_57 : decode cX6_reaches 57 = .ok (.pop, 1) := by decide +kernel
theorem dX6_reaches_58 : decode cX6_reaches 58 = .ok (.iinc 4 1, 3) := by decide +kernel
theorem dX6_reaches_61 : decode cX6_reaches 61 = .ok (.goto (-25), 3) := by decide +kernel
theorem dX6_reaches_64 : decode cX6_reaches 64 = .ok (.aload_n 0, 1) := by decide +kernel
theorem dX6_reaches_65 : decode cX6_reaches 65 = .ok (.invokevirtual 127, 3) := by decide +kernel
theorem dX6_reaches_68 : decode cX6_reaches 68 = .ok (.iload 4, 2) := by decide +kernel
theorem dX6_reaches_70 : decode cX6_reaches 70 = .ok (.sipush 1000, 3) := by decide +kernel
theorem dX6_reaches_73 : decode cX6_reaches 73 = .ok (.if_icmp .le 8, 3) := by decide +kernel
theorem dX6_reaches_76 : decode cX6_reaches 76 = .ok (.bipush (-6), 2) := by decide +kernel
theorem dX6_reaches_78 : decode cX6_reaches 78 = .ok (.goto 5, 3) := by decide +kernel
theorem dX6_reaches_81 : decode cX6_reaches 81 = .ok (.iload 4, 2) := by decide +kernel
theorem dX6_reaches_83 : decode cX6_reaches 83 = .ok (.ireturn, 1) := by decide +kernel
theorem dX6_settles_0 : decode cX6_settles 0 = .ok (.aload_n 0, 1) := by decide +kernel
theorem dX6_settles_1 : decode cX6_settles 1 = .ok (.iconst 0, 1) := by decide +kernel
theorem dX6_settles_2 : decode cX6_settles 2 = .ok (.putfield 32, 3) := by decide +kernel
theorem dX6_settles_5 : decode cX6_settles 5 = .ok (.aload_n 0, 1) := by decide +kernel
theorem dX6_settles_6 : decode cX6_settles 6 = .ok (.iload_n 1, 1) := by decide +kernel
theorem dX6_settles_7 : decode cX6_settles 7 = .ok (.invokevirtual 87, 3) := by decide +kernel
theorem dX6_settles_10 : decode cX6_settles 10 = .ok (.istore_n 2, 1) := by decide +kernel
theorem dX6_settles_11 : decode cX6_settles 11 = .ok (.iload_n 2, 1) := by decide +kernel
theorem dX6_settles_12 : decode cX6_settles 12 = .ok (.bipush (-6), 2) := by decide +kernel
theorem dX6_settles_14 : decode cX6_settles 14 = .ok (.if_icmp .ne 5, 3) := by decide +kernel
theorem dX6_settles_17 : decode cX6_settles 17 = .ok (.iconst (-1), 1) := by decide +kernel
theorem dX6_settles_18 : decode cX6_settles 18 = .ok (.ireturn, 1) := by decide +kernel
theorem dX6_settles_19 : decode cX6_settles 19 = .ok (.bipush 60, 2) := by decide +kernel
theorem dX6_settles_21 : decode cX6_settles 21 = .ok (.aload_n 0, 1) := by decide +kernel
theorem dX6_settles_22 : decode cX6_settles 22 = .ok (.iload_n 2, 1) := by decide +kernel
theorem dX6_settles_23 : decode cX6_settles 23 = .ok (.iconst 1, 1) := by decide +kernel
theorem dX6_settles_24 : decode cX6_settles 24 = .ok (.invokevirtual 36, 3) := by decide +kernel
theorem dX6_settles_27 : decode cX6_settles 27 = .ok (.idiv, 1) := by decide +kernel
theorem dX6_settles_28 : decode cX6_settles 28 = .ok (.istore_n 3, 1) := by decide +kernel
theorem dX6_settles_29 : decode cX6_settles 29 = .ok (.aload_n 0, 1) := by decide +kernel
theorem dX6_settles_30 : decode cX6_settles 30 = .ok (.iload_n 2, 1) := by decide +kernel
theorem dX6_settles_31 : decode cX6_settles 31 = .ok (.invokevirtual 70, 3) := by decide +kernel
theorem dX6_settles_34 : decode cX6_settles 34 = .ok (.aload_n 0, 1) := by decide +kernel
theorem dX6_settles_35 : decode cX6_settles 35 = .ok (.iload_n 2, 1) := by decide +kernel
theorem dX6_settles_36 : decode cX6_settles 36 = .ok (.iconst 5, 1) := by decide +kernel
theorem dX6_settles_37 : decode cX6_settles 37 = .ok (.invokevirtual 36, 3) := by decide +kernel
theorem dX6_settles_40 : decode cX6_settles 40 = .ok (.isub, 1) := by decide +kernel
theorem dX6_settles_41 : decode cX6_settles 41 = .ok (.istore 4, 2) := by decide +kernel
theorem dX6_settles_43 : decode cX6_settles 43 = .ok (.iload 4, 2) := by decide +kernel
theorem dX6_settles_45 : decode cX6_settles 45 = .ok (.ifCond .ge 9, 3) := by decide +kernel
theorem dX6_settles_48 : decode cX6_settles 48 = .ok (.iload 4, 2) := by decide +kernel
theorem dX6_settles_50 : decode cX6_settles 50 = .ok (.ineg, 1) := by decide +kernel
theorem dX6_settles_51 : decode cX6_settles 51 = .ok (.goto 5, 3) := by decide +kernel
theorem dX6_settles_54 : decode cX6_settles 54 = .ok (.iload 4, 2) := by decide +kernel
theorem dX6_settles_56 : decode cX6_settles 56 = .ok (.iload_n 3, 1) := by decide +kernel
theorem dX6_settles_57 : decode cX6_settles 57 = .ok (.iadd, 1) := by decide +kernel
theorem dX6_settles_58 : decode cX6_settles 58 = .ok (.iconst 1, 1) := by decide +kernel
theorem dX6_settles_59 : decode cX6_settles 59 = .ok (.isub, 1) := by decide +kernel
theorem dX6_settles_60 : decode cX6_settles 60 = .ok (.iload_n 3, 1) := by decide +kernel
theorem dX6_settles_61 : decode cX6_settles 61 = .ok (.idiv, 1) := by decide +kernel
theorem dX6_settles_62 : decode cX6_settles 62 = .ok (.ireturn, 1) := by decide +kernel
theorem dX6_meets_0 : decode cX6_meets 0 = .ok (.aload_n 0, 1) := by decide +kernel
theorem dX6_meets_1 : decode cX6_meets 1 = .ok (.iconst 0, 1) := by decide +kernel
theorem dX6_meets_2 : decode cX6_meets 2 = .ok (.putfield 32, 3) := by decide +kernel
theorem dX6_meets_5 : decode cX6_meets 5 = .ok (.aload_n 0, 1) := by decide +kernel
theorem dX6_meets_6 : decode cX6_meets 6 = .ok (.iload_n 1, 1) := by decide +kernel
theorem dX6_meets_7 : decode cX6_meets 7 = .ok (.invokevirtual 87, 3) := by decide +kernel
theorem dX6_meets_10 : decode cX6_meets 10 = .ok (.istore_n 3, 1) := by decide +kernel
theorem dX6_meets_11 : decode cX6_meets 11 = .ok (.aload_n 0, 1) := by decide +kernel
theorem dX6_meets_12 : decode cX6_meets 12 = .ok (.iload_n 2, 1) := by decide +kernel
theorem dX6_meets_13 : decode cX6_meets 13 = .ok (.invokevirtual 87, 3) := by decide +kernel
theorem dX6_meets_16 : decode cX6_meets 16 = .ok (.istore 4, 2) := by decide +kernel
theorem dX6_meets_18 : decode cX6_meets 18 = .ok (.iload_n 3, 1) := by decide +kernel
theorem dX6_meets_19 : decode cX6_meets 19 = .ok (.bipush (-6), 2) := by decide +kernel
theorem dX6_meets_21 : decode cX6_meets 21 = .ok (.if_icmp .eq 10, 3) := by decide +kernel
theorem dX6_meets_24 : decode cX6_meets 24 = .ok (.iload 4, 2) := by decide +kernel
theorem dX6_meets_26 : decode cX6_meets 26 = .ok (.bipush (-6), 2) := by decide +kernel
theorem dX6_meets_28 : decode cX6_meets 28 = .ok (.if_icmp .ne 5, 3) := by decide +kernel
theorem dX6_meets_31 : decode cX6_meets 31 = .ok (.iconst (-1), 1) := by decide +kernel
theorem dX6_meets_32 : decode cX6_meets 32 = .ok (.ireturn, 1) := by decide +kernel
theorem dX6_meets_33 : decode cX6_meets 33 = .ok (.iload_n 1, 1) := by decide +kernel
theorem dX6_meets_34 : decode cX6_meets 34 = .ok (.iload_n 2, 1) := by decide +kernel
theorem dX6_meets_35 : decode cX6_meets 35 = .ok (.if_icmp .ne 6, 3) := by decide +kernel
theorem dX6_meets_38 : decode cX6_meets 38 = .ok (.bipush (-2), 2) := by decide +kernel
theorem dX6_meets_40 : decode cX6_meets 40 = .ok (.ireturn, 1) := by decide +kernel
theorem dX6_meets_41 : decode cX6_meets 41 = .ok (.aload_n 0, 1) := by decide +kernel
theorem dX6_meets_42 : decode cX6_meets 42 = .ok (.invokevirtual 124, 3) := by decide +kernel
theorem dX6_meets_45 : decode cX6_meets 45 = .ok (.iconst 0, 1) := by decide +kernel
theorem dX6_meets_46 : decode cX6_meets 46 = .ok (.istore 5, 2) := by decide +kernel
theorem dX6_meets_48 : decode cX6_meets 48 = .ok (.iload 5, 2) := by decide +kernel
theorem dX6_meets_50 : decode cX6_meets 50 = .ok (.sipush 1000, 3) := by decide +kernel
theorem dX6_meets_53 : decode cX6_meets 53 = .ok (.if_icmp .gt 28, 3) := by decide +kernel
theorem dX6_meets_56 : decode cX6_meets 56 = .ok (.aload_n 0, 1) := by decide +kernel
theorem dX6_meets_57 : decode cX6_meets 57 = .ok (.iload_n 3, 1) := by decide +kernel
theorem dX6_meets_58 : decode cX6_meets 58 = .ok (.invokevirtual 43, 3) := by decide +kernel
theorem dX6_meets_61 : decode cX6_meets 61 = .ok (.aload_n 0, 1) := by decide +kernel
theorem dX6_meets_62 : decode cX6_meets 62 = .ok (.iload 4, 2) := by decide +kernel
theorem dX6_meets_64 : decode cX6_meets 64 = .ok (.invokevirtual 43, 3) := by decide +kernel
theorem dX6_meets_67 : decode cX6_meets 67 = .ok (.if_icmp .eq 14, 3) := by decide +kernel
theorem dX6_meets_70 : decode cX6_meets 70 = .ok (.aload_n 0, 1) := by decide +kernel
theorem dX6_meets_71 : decode cX6_meets 71 = .ok (.invokevirtual 84, 3) := by decide +kernel
theorem dX6_meets_74 : decode cX6_meets 74 = .ok (.pop, 1) := by decide +kernel
theorem dX6_meets_75 : decode cX6_meets 75 = .ok (.iinc 5 1, 3) := by decide +kernel
theorem dX6_meets_78 : decode cX6_meets 78 = .ok (.goto (-30), 3) := by decide +kernel
theorem dX6_meets_81 : decode cX6_meets 81 = .ok (.aload_n 0, 1) := by decide +kernel
theorem dX6_meets_82 : decode cX6_meets 82 = .ok (.invokevirtual 127, 3) := by decide +kernel
theorem dX6_meets_85 : decode cX6_meets 85 = .ok (.iload 5, 2) := by decide +kernel
theorem dX6_meets_87 : decode cX6_meets 87 = .ok (.sipush 1000, 3) := by decide +kernel
theorem dX6_meets_90 : decode cX6_meets 90 = .ok (.if_icmp .le 8, 3) := by decide +kernel
theorem dX6_meets_93 : decode cX6_meets 93 = .ok (.bipush (-6), 2) := by decide +kernel
theorem dX6_meets_95 : decode cX6_meets 95 = .ok (.goto 5, 3) := by decide +kernel
theorem dX6_meets_98 : decode cX6_meets 98 = .ok (.iload 5, 2) := by decide +kernel
theorem dX6_meets_100 : decode cX6_meets 100 = .ok (.ireturn, 1) := by decide +kernel
theorem dX6_stepFor_0 : decode cX6_stepFor 0 = .ok (.aload_n 0, 1) := by decide +kernel
theorem dX6_stepFor_1 : decode cX6_stepFor 1 = .ok (.iconst 0, 1) := by decide +kernel
theorem dX6_stepFor_2 : decode cX6_stepFor 2 = .ok (.putfield 32, 3) := by decide +kernel
theorem dX6_stepFor_5 : decode cX6_stepFor 5 = .ok (.aload_n 0, 1) := by decide +kernel
theorem dX6_stepFor_6 : decode cX6_stepFor 6 = .ok (.iload_n 1, 1) := by decide +kernel
theorem dX6_stepFor_7 : decode cX6_stepFor 7 = .ok (.invokevirtual 87, 3) := by decide +kernel
theorem dX6_stepFor_10 : decode cX6_stepFor 10 = .ok (.istore_n 3, 1) := by decide +kernel
theorem dX6_stepFor_11 : decode cX6_stepFor 11 = .ok (.iload_n 3, 1) := by decide +kernel
theorem dX6_stepFor_12 : decode cX6_stepFor 12 = .ok (.bipush (-6), 2) := by decide +kernel
theorem dX6_stepFor_14 : decode cX6_stepFor 14 = .ok (.if_icmp .ne 5, 3) := by decide +kernel
theorem dX6_stepFor_17 : decode cX6_stepFor 17 = .ok (.iconst (-1), 1) := by decide +kernel
theorem dX6_stepFor_18 : decode cX6_stepFor 18 = .ok (.ireturn, 1) := by decide +kernel
theorem dX6_stepFor_19 : decode cX6_stepFor 19 = .ok (.iload_n 2, 1) := by decide +kernel
theorem dX6_stepFor_20 : decode cX6_stepFor 20 = .ok (.iconst 0, 1) := by decide +kernel
theorem dX6_stepFor_21 : decode cX6_stepFor 21 = .ok (.sipush 280, 3) := by decide +kernel
theorem dX6_stepFor_24 : decode cX6_stepFor 24 = .ok (.invokestatic 54, 3) := by decide +kernel
theorem dX6_stepFor_27 : decode cX6_stepFor 27 = .ok (.ifCond .ne 6, 3) := by decide +kernel
theorem dX6_stepFor_30 : decode cX6_stepFor 30 = .ok (.bipush (-2), 2) := by decide +kernel
theorem dX6_stepFor_32 : decode cX6_stepFor 32 = .ok (.ireturn, 1) := by decide +kernel
theorem dX6_stepFor_33 : decode cX6_stepFor 33 = .ok (.iconst 0, 1) := by decide +kernel
theorem dX6_stepFor_34 : decode cX6_stepFor 34 = .ok (.istore 4, 2) := by decide +kernel
theorem dX6_stepFor_36 : decode cX6_stepFor 36 = .ok (.aload_n 0, 1) := by decide +kernel
theorem dX6_stepFor_37 : decode cX6_stepFor 37 = .ok (.iload_n 3, 1) := by decide +kernel
theorem dX6_stepFor_38 : decode cX6_stepFor 38 = .ok (.iconst 2, 1) := by decide +kernel
theorem dX6_stepFor_39 : decode cX6_stepFor 39 = .ok (.invokevirtual 36, 3) := by decide +kernel
theorem dX6_stepFor_42 : decode cX6_stepFor 42 = .ok (.iload 4, 2) := by decide +kernel
theorem dX6_stepFor_44 : decode cX6_stepFor 44 = .ok (.invokestatic 47, 3) := by decide +kernel
theorem dX6_stepFor_47 : decode cX6_stepFor 47 = .ok (.iload_n 2, 1) := by decide +kernel
theorem dX6_stepFor_48 : decode cX6_stepFor 48 = .ok (.if_icmp .ge 9, 3) := by decide +kernel
theorem dX6_stepFor_51 : decode cX6_stepFor 51 = .ok (.iinc 4 1, 3) := by decide +kernel
theorem dX6_stepFor_54 : decode cX6_stepFor 54 = .ok (.goto (-18), 3) := by decide +kernel
theorem dX6_stepFor_57 : decode cX6_stepFor 57 = .ok (.iload 4, 2) := by decide +kernel
theorem dX6_stepFor_59 : decode cX6_stepFor 59 = .ok (.ireturn, 1) := by decide +kernel
theorem dX6_put_0 : decode cX6_put 0 = .ok (.aload_n 0, 1) := by decide +kernel
theorem dX6_put_1 : decode cX6_put 1 = .ok (.iconst 0, 1) := by decide +kernel
theorem dX6_put_2 : decode cX6_put 2 = .ok (.putfield 32, 3) := by decide +kernel
theorem dX6_put_5 : decode cX6_put 5 = .ok (.iconst 0, 1) := by decide +kernel
theorem dX6_put_6 : decode cX6_put 6 = .ok (.istore_n 3, 1) := by decide +kernel
theorem dX6_put_7 : decode cX6_put 7 = .ok (.lload_n 1, 1) := by decide +kernel
theorem dX6_put_8 : decode cX6_put 8 = .ok (.lstore 4, 2) := by decide +kernel
theorem dX6_put_10 : decode cX6_put 10 = .ok (.iconst 1, 1) := by decide +kernel
theorem dX6_put_11 : decode cX6_put 11 = .ok (.istore 6, 2) := by decide +kernel
theorem dX6_put_13 : decode cX6_put 13 = .ok (.iload_n 3, 1) := by decide +kernel
theorem dX6_put_14 : decode cX6_put 14 = .ok (.bipush 8, 2) := by decide +kernel
theorem dX6_put_16 : decode cX6_put 16 = .ok (.if_icmp .ge 56, 3) := by decide +kernel
theorem dX6_put_19 : decode cX6_put 19 = .ok (.lload 4, 2) := by decide +kernel
theorem dX6_put_21 : decode cX6_put 21 = .ok (.ldc2_w 130, 3) := by decide +kernel
theorem dX6_put_24 : decode cX6_put 24 = .ok (.land, 1) := by decide +kernel
theorem dX6_put_25 : decode cX6_put 25 = .ok (.lconst 0, 1) := by decide +kernel
theorem dX6_put_26 : decode cX6_put 26 = .ok (.lcmp, 1) := by decide +kernel
theorem dX6_put_27 : decode cX6_put 27 = .ok (.ifCond .eq 45, 3) := by decide +kernel
theorem dX6_put_30 : decode cX6_put 30 = .ok (.iload 6, 2) := by decide +kernel
theorem dX6_put_32 : decode cX6_put 32 = .ok (.ifCond .eq 24, 3) := by decide +kernel
theorem dX6_put_35 : decode cX6_put 35 = .ok (.lload 4, 2) := by decide +kernel
theorem dX6_put_37 : decode cX6_put 37 = .ok (.ldc2_w 130, 3) := by decide +kernel
theorem dX6_put_40 : decode cX6_put 40 = .ok (.land, 1) := by decide +kernel
theorem dX6_put_41 : decode cX6_put 41 = .ok (.l2i, 1) := by decide +kernel
theorem dX6_put_42 : decode cX6_put 42 = .ok (.bipush 33, 2) := by decide +kernel
theorem dX6_put_44 : decode cX6_put 44 = .ok (.bipush 126, 2) := by decide +kernel
theorem dX6_put_46 : decode cX6_put 46 = .ok (.invokestatic 54, 3) := by decide +kernel
theorem dX6_put_49 : decode cX6_put 49 = .ok (.ifCond .eq 7, 3) := by decide +kernel
theorem dX6_put_52 : decode cX6_put 52 = .ok (.iconst 1, 1) := by decide +kernel
theorem dX6_put_53 : decode cX6_put 53 = .ok (.goto 4, 3) := by decide +kernel
theorem dX6_put_56 : decode cX6_put 56 = .ok (.iconst 0, 1) := by decide +kernel
theorem dX6_put_57 : decode cX6_put 57 = .ok (.istore 6, 2) := by decide +kernel
theorem dX6_put_59 : decode cX6_put 59 = .ok (.lload 4, 2) := by decide +kernel
theorem dX6_put_61 : decode cX6_put 61 = .ok (.bipush 8, 2) := by decide +kernel
theorem dX6_put_63 : decode cX6_put 63 = .ok (.lushr, 1) := by decide +kernel
theorem dX6_put_64 : decode cX6_put 64 = .ok (.lstore 4, 2) := by decide +kernel
theorem dX6_put_66 : decode cX6_put 66 = .ok (.iinc 3 1, 3) := by decide +kernel
theorem dX6_put_69 : decode cX6_put 69 = .ok (.goto (-56), 3) := by decide +kernel
theorem dX6_put_72 : decode cX6_put 72 = .ok (.iload_n 3, 1) := by decide +kernel
theorem dX6_put_73 : decode cX6_put 73 = .ok (.ifCond .eq 15, 3) := by decide +kernel
theorem dX6_put_76 : decode cX6_put 76 = .ok (.iload 6, 2) := by decide +kernel
theorem dX6_put_78 : decode cX6_put 78 = .ok (.ifCond .eq 10, 3) := by decide +kernel
theorem dX6_put_81 : decode cX6_put 81 = .ok (.lload 4, 2) := by decide +kernel
theorem dX6_put_83 : decode cX6_put 83 = .ok (.lconst 0, 1) := by decide +kernel
theorem dX6_put_84 : decode cX6_put 84 = .ok (.lcmp, 1) := by decide +kernel
theorem dX6_put_85 : decode cX6_put 85 = .ok (.ifCond .eq 6, 3) := by decide +kernel
theorem dX6_put_88 : decode cX6_put 88 = .ok (.bipush (-2), 2) := by decide +kernel
theorem dX6_put_90 : decode cX6_put 90 = .ok (.ireturn, 1) := by decide +kernel
theorem dX6_put_91 : decode cX6_put 91 = .ok (.aload_n 0, 1) := by decide +kernel
theorem dX6_put_92 : decode cX6_put 92 = .ok (.getfield 121, 3) := by decide +kernel
theorem dX6_put_95 : decode cX6_put 95 = .ok (.iload_n 3, 1) := by decide +kernel
theorem dX6_put_96 : decode cX6_put 96 = .ok (.iadd, 1) := by decide +kernel
theorem dX6_put_97 : decode cX6_put 97 = .ok (.bipush 80, 2) := by decide +kernel
theorem dX6_put_99 : decode cX6_put 99 = .ok (.if_icmp .le 6, 3) := by decide +kernel
theorem dX6_put_102 : decode cX6_put 102 = .ok (.bipush (-4), 2) := by decide +kernel
theorem dX6_put_104 : decode cX6_put 104 = .ok (.ireturn, 1) := by decide +kernel
theorem dX6_put_105 : decode cX6_put 105 = .ok (.iconst 0, 1) := by decide +kernel
theorem dX6_put_106 : decode cX6_put 106 = .ok (.istore 7, 2) := by decide +kernel
theorem dX6_put_108 : decode cX6_put 108 = .ok (.iload 7, 2) := by decide +kernel
theorem dX6_put_110 : decode cX6_put 110 = .ok (.iload_n 3, 1) := by decide +kernel
theorem dX6_put_111 : decode cX6_put 111 = .ok (.if_icmp .ge 37, 3) := by decide +kernel
theorem dX6_put_114 : decode cX6_put 114 = .ok (.aload_n 0, 1) := by decide +kernel
theorem dX6_put_115 : decode cX6_put 115 = .ok (.getfield 26, 3) := by decide +kernel
theorem dX6_put_118 : decode cX6_put 118 = .ok (.aload_n 0, 1) := by decide +kernel
theorem dX6_put_119 : decode cX6_put 119 = .ok (.getfield 121, 3) := by decide +kernel
theorem dX6_put_122 : decode cX6_put 122 = .ok (.iload 7, 2) := by decide +kernel
theorem dX6_put_124 : decode cX6_put 124 = .ok (.iadd, 1) := by decide +kernel
theorem dX6_put_125 : decode cX6_put 125 = .ok (.lload_n 1, 1) := by decide +kernel
theorem dX6_put_126 : decode cX6_put 126 = .ok (.bipush 8, 2) := by decide +kernel
theorem dX6_put_128 : decode cX6_put 128 = .ok (.iload_n 3, 1) := by decide +kernel
theorem dX6_put_129 : decode cX6_put 129 = .ok (.iconst 1, 1) := by decide +kernel
theorem dX6_put_130 : decode cX6_put 130 = .ok (.isub, 1) := by decide +kernel
theorem dX6_put_131 : decode cX6_put 131 = .ok (.iload 7, 2) := by decide +kernel
theorem dX6_put_133 : decode cX6_put 133 = .ok (.isub, 1) := by decide +kernel
theorem dX6_put_134 : decode cX6_put 134 = .ok (.imul, 1) := by decide +kernel
theorem dX6_put_135 : decode cX6_put 135 = .ok (.lushr, 1) := by decide +kernel
theorem dX6_put_136 : decode cX6_put 136 = .ok (.ldc2_w 130, 3) := by decide +kernel
theorem dX6_put_139 : decode cX6_put 139 = .ok (.land, 1) := by decide +kernel
theorem dX6_put_140 : decode cX6_put 140 = .ok (.l2i, 1) := by decide +kernel
theorem dX6_put_141 : decode cX6_put 141 = .ok (.iastore, 1) := by decide +kernel
theorem dX6_put_142 : decode cX6_put 142 = .ok (.iinc 7 1, 3) := by decide +kernel
theorem dX6_put_145 : decode cX6_put 145 = .ok (.goto (-37), 3) := by decide +kernel
theorem dX6_put_148 : decode cX6_put 148 = .ok (.aload_n 0, 1) := by decide +kernel
theorem dX6_put_149 : decode cX6_put 149 = .ok (.dup, 1) := by decide +kernel
theorem dX6_put_150 : decode cX6_put 150 = .ok (.getfield 121, 3) := by decide +kernel
theorem dX6_put_153 : decode cX6_put 153 = .ok (.iload_n 3, 1) := by decide +kernel
theorem dX6_put_154 : decode cX6_put 154 = .ok (.iadd, 1) := by decide +kernel
theorem dX6_put_155 : decode cX6_put 155 = .ok (.putfield 121, 3) := by decide +kernel
theorem dX6_put_158 : decode cX6_put 158 = .ok (.aload_n 0, 1) := by decide +kernel
theorem dX6_put_159 : decode cX6_put 159 = .ok (.getfield 121, 3) := by decide +kernel
theorem dX6_put_162 : decode cX6_put 162 = .ok (.ireturn, 1) := by decide +kernel
theorem dX6_wipe_0 : decode cX6_wipe 0 = .ok (.aload_n 0, 1) := by decide +kernel
theorem dX6_wipe_1 : decode cX6_wipe 1 = .ok (.iconst 0, 1) := by decide +kernel
theorem dX6_wipe_2 : decode cX6_wipe 2 = .ok (.putfield 32, 3) := by decide +kernel
theorem dX6_wipe_5 : decode cX6_wipe 5 = .ok (.aload_n 0, 1) := by decide +kernel
theorem dX6_wipe_6 : decode cX6_wipe 6 = .ok (.getfield 121, 3) := by decide +kernel
theorem dX6_wipe_9 : decode cX6_wipe 9 = .ok (.istore_n 1, 1) := by decide +kernel
theorem dX6_wipe_10 : decode cX6_wipe 10 = .ok (.aload_n 0, 1) := by decide +kernel
theorem dX6_wipe_11 : decode cX6_wipe 11 = .ok (.iconst 0, 1) := by decide +kernel
theorem dX6_wipe_12 : decode cX6_wipe 12 = .ok (.putfield 121, 3) := by decide +kernel
theorem dX6_wipe_15 : decode cX6_wipe 15 = .ok (.iload_n 1, 1) := by decide +kernel
theorem dX6_wipe_16 : decode cX6_wipe 16 = .ok (.ireturn, 1) := by decide +kernel
theorem dX6_sign_0 : decode cX6_sign 0 = .ok (.aload_n 0, 1) := by decide +kernel
theorem dX6_sign_1 : decode cX6_sign 1 = .ok (.getfield 132, 3) := by decide +kernel
theorem dX6_sign_4 : decode cX6_sign 4 = .ok (.aload_n 0, 1) := by decide +kernel
theorem dX6_sign_5 : decode cX6_sign 5 = .ok (.getfield 121, 3) := by decide +kernel
theorem dX6_sign_8 : decode cX6_sign 8 = .ok (.if_icmp .ge 15, 3) := by decide +kernel
theorem dX6_sign_11 : decode cX6_sign 11 = .ok (.aload_n 0, 1) := by decide +kernel
theorem dX6_sign_12 : decode cX6_sign 12 = .ok (.getfield 26, 3) := by decide +kernel
theorem dX6_sign_15 : decode cX6_sign 15 = .ok (.aload_n 0, 1) := by decide +kernel
theorem dX6_sign_16 : decode cX6_sign 16 = .ok (.getfield 132, 3) := by decide +kernel
theorem dX6_sign_19 : decode cX6_sign 19 = .ok (.iaload, 1) := by decide +kernel
theorem dX6_sign_20 : decode cX6_sign 20 = .ok (.goto 4, 3) := by decide +kernel
theorem dX6_sign_23 : decode cX6_sign 23 = .ok (.iconst 0, 1) := by decide +kernel
theorem dX6_sign_24 : decode cX6_sign 24 = .ok (.ireturn, 1) := by decide +kernel
theorem dX6_wants_0 : decode cX6_wants 0 = .ok (.aload_n 0, 1) := by decide +kernel
theorem dX6_wants_1 : decode cX6_wants 1 = .ok (.aload_n 0, 1) := by decide +kernel
theorem dX6_wants_2 : decode cX6_wants 2 = .ok (.getfield 135, 3) := by decide +kernel
theorem dX6_wants_5 : decode cX6_wants 5 = .ok (.ifCond .eq 15, 3) := by decide +kernel
theorem dX6_wants_8 : decode cX6_wants 8 = .ok (.aload_n 0, 1) := by decide +kernel
theorem dX6_wants_9 : decode cX6_wants 9 = .ok (.invokevirtual 139, 3) := by decide +kernel
theorem dX6_wants_12 : decode cX6_wants 12 = .ok (.iload_n 1, 1) := by decide +kernel
theorem dX6_wants_13 : decode cX6_wants 13 = .ok (.if_icmp .ne 7, 3) := by decide +kernel
theorem dX6_wants_16 : decode cX6_wants 16 = .ok (.iconst 1, 1) := by decide +kernel
theorem dX6_wants_17 : decode cX6_wants 17 = .ok (.goto 4, 3) := by decide +kernel
theorem dX6_wants_20 : decode cX6_wants 20 = .ok (.iconst 0, 1) := by decide +kernel
theorem dX6_wants_21 : decode cX6_wants 21 = .ok (.putfield 135, 3) := by decide +kernel
theorem dX6_wants_24 : decode cX6_wants 24 = .ok (.aload_n 0, 1) := by decide +kernel
theorem dX6_wants_25 : decode cX6_wants 25 = .ok (.dup, 1) := by decide +kernel
theorem dX6_wants_26 : decode cX6_wants 26 = .ok (.getfield 132, 3) := by decide +kernel
theorem dX6_wants_29 : decode cX6_wants 29 = .ok (.aload_n 0, 1) := by decide +kernel
theorem dX6_wants_30 : decode cX6_wants 30 = .ok (.getfield 135, 3) := by decide +kernel
theorem dX6_wants_33 : decode cX6_wants 33 = .ok (.ifCond .eq 7, 3) := by decide +kernel
theorem dX6_wants_36 : decode cX6_wants 36 = .ok (.iconst 1, 1) := by decide +kernel
theorem dX6_wants_37 : decode cX6_wants 37 = .ok (.goto 4, 3) := by decide +kernel
theorem dX6_wants_40 : decode cX6_wants 40 = .ok (.iconst 0, 1) := by decide +kernel
theorem dX6_wants_41 : decode cX6_wants 41 = .ok (.iadd, 1) := by decide +kernel
theorem dX6_wants_42 : decode cX6_wants 42 = .ok (.putfield 132, 3) := by decide +kernel
theorem dX6_wants_45 : decode cX6_wants 45 = .ok (.return_, 1) := by decide +kernel
theorem dX6_digit_0 : decode cX6_digit 0 = .ok (.aload_n 0, 1) := by decide +kernel
theorem dX6_digit_1 : decode cX6_digit 1 = .ok (.aload_n 0, 1) := by decide +kernel
theorem dX6_digit_2 : decode cX6_digit 2 = .ok (.getfield 135, 3) := by decide +kernel
theorem dX6_digit_5 : decode cX6_digit 5 = .ok (.ifCond .eq 23, 3) := by decide +kernel
theorem dX6_digit_8 : decode cX6_digit 8 = .ok (.aload_n 0, 1) := by decide +kernel
theorem dX6_digit_9 : decode cX6_digit 9 = .ok (.invokevirtual 139, 3) := by decide +kernel
theorem dX6_digit_12 : decode cX6_digit 12 = .ok (.bipush 48, 2) := by decide +kernel
theorem dX6_digit_14 : decode cX6_digit 14 = .ok (.bipush 48, 2) := by decide +kernel
theorem dX6_digit_16 : decode cX6_digit 16 = .ok (.iload_n 1, 1) := by decide +kernel
theorem dX6_digit_17 : decode cX6_digit 17 = .ok (.iadd, 1) := by decide +kernel
theorem dX6_digit_18 : decode cX6_digit 18 = .ok (.invokestatic 54, 3) := by decide +kernel
theorem dX6_digit_21 : decode cX6_digit 21 = .ok (.ifCond .eq 7, 3) := by decide +kernel
theorem dX6_digit_24 : decode cX6_digit 24 = .ok (.iconst 1, 1) := by decide +kernel
theorem dX6_digit_25 : decode cX6_digit 25 = .ok (.goto 4, 3) := by decide +kernel
theorem dX6_digit_28 : decode cX6_digit 28 = .ok (.iconst 0, 1) := by decide +kernel
theorem dX6_digit_29 : decode cX6_digit 29 = .ok (.putfield 135, 3) := by decide +kernel
theorem dX6_digit_32 : decode cX6_digit 32 = .ok (.aload_n 0, 1) := by decide +kernel
theorem dX6_digit_33 : decode cX6_digit 33 = .ok (.invokevirtual 139, 3) := by decide +kernel
theorem dX6_digit_36 : decode cX6_digit 36 = .ok (.bipush 48, 2) := by decide +kernel
theorem dX6_digit_38 : decode cX6_digit 38 = .ok (.isub, 1) := by decide +kernel
theorem dX6_digit_39 : decode cX6_digit 39 = .ok (.istore_n 2, 1) := by decide +kernel
theorem dX6_digit_40 : decode cX6_digit 40 = .ok (.aload_n 0, 1) := by decide +kernel
theorem dX6_digit_41 : decode cX6_digit 41 = .ok (.dup, 1) := by decide +kernel
theorem dX6_digit_42 : decode cX6_digit 42 = .ok (.getfield 132, 3) := by decide +kernel
theorem dX6_digit_45 : decode cX6_digit 45 = .ok (.aload_n 0, 1) := by decide +kernel
theorem dX6_digit_46 : decode cX6_digit 46 = .ok (.getfield 135, 3) := by decide +kernel
theorem dX6_digit_49 : decode cX6_digit 49 = .ok (.ifCond .eq 7, 3) := by decide +kernel
theorem dX6_digit_52 : decode cX6_digit 52 = .ok (.iconst 1, 1) := by decide +kernel
theorem dX6_digit_53 : decode cX6_digit 53 = .ok (.goto 4, 3) := by decide +kernel
theorem dX6_digit_56 : decode cX6_digit 56 = .ok (.iconst 0, 1) := by decide +kernel
theorem dX6_digit_57 : decode cX6_digit 57 = .ok (.iadd, 1) := by decide +kernel
theorem dX6_digit_58 : decode cX6_digit 58 = .ok (.putfield 132, 3) := by decide +kernel
theorem dX6_digit_61 : decode cX6_digit 61 = .ok (.iload_n 2, 1) := by decide +kernel
theorem dX6_digit_62 : decode cX6_digit 62 = .ok (.ireturn, 1) := by decide +kernel
theorem dX6_number_0 : decode cX6_number 0 = .ok (.aload_n 0, 1) := by decide +kernel
theorem dX6_number_1 : decode cX6_number 1 = .ok (.bipush 9, 2) := by decide +kernel
theorem dX6_number_3 : decode cX6_number 3 = .ok (.invokevirtual 142, 3) := by decide +kernel
theorem dX6_number_6 : decode cX6_number 6 = .ok (.istore_n 1, 1) := by decide +kernel
theorem dX6_number_7 : decode cX6_number 7 = .ok (.iconst 1, 1) := by decide +kernel
theorem dX6_number_8 : decode cX6_number 8 = .ok (.istore_n 2, 1) := by decide +kernel
theorem dX6_number_9 : decode cX6_number 9 = .ok (.iload_n 2, 1) := by decide +kernel
theorem dX6_number_10 : decode cX6_number 10 = .ok (.iconst 3, 1) := by decide +kernel
theorem dX6_number_11 : decode cX6_number 11 = .ok (.if_icmp .ge 57, 3) := by decide +kernel
theorem dX6_number_14 : decode cX6_number 14 = .ok (.aload_n 0, 1) := by decide +kernel
theorem dX6_number_15 : decode cX6_number 15 = .ok (.getfield 135, 3) := by decide +kernel
theorem dX6_number_18 : decode cX6_number 18 = .ok (.ifCond .eq 50, 3) := by decide +kernel
theorem dX6_number_21 : decode cX6_number 21 = .ok (.iload_n 1, 1) := by decide +kernel
theorem dX6_number_22 : decode cX6_number 22 = .ok (.ifCond .le 46, 3) := by decide +kernel
theorem dX6_number_25 : decode cX6_number 25 = .ok (.aload_n 0, 1) := by decide +kernel
theorem dX6_number_26 : decode cX6_number 26 = .ok (.invokevirtual 139, 3) := by decide +kernel
theorem dX6_number_29 : decode cX6_number 29 = .ok (.bipush 48, 2) := by decide +kernel
theorem dX6_number_31 : decode cX6_number 31 = .ok (.bipush 57, 2) := by decide +kernel
theorem dX6_number_33 : decode cX6_number 33 = .ok (.invokestatic 54, 3) := by decide +kernel
theorem dX6_number_36 : decode cX6_number 36 = .ok (.ifCond .eq 32, 3) := by decide +kernel
theorem dX6_number_39 : decode cX6_number 39 = .ok (.bipush 10, 2) := by decide +kernel
theorem dX6_number_41 : decode cX6_number 41 = .ok (.iload_n 1, 1) := by decide +kernel
theorem dX6_number_42 : decode cX6_number 42 = .ok (.imul, 1) := by decide +kernel
theorem dX6_number_43 : decode cX6_number 43 = .ok (.aload_n 0, 1) := by decide +kernel
theorem dX6_number_44 : decode cX6_number 44 = .ok (.invokevirtual 139, 3) := by decide +kernel
theorem dX6_number_47 : decode cX6_number 47 = .ok (.iadd, 1) := by decide +kernel
theorem dX6_number_48 : decode cX6_number 48 = .ok (.bipush 48, 2) := by decide +kernel
theorem dX6_number_50 : decode cX6_number 50 = .ok (.isub, 1) := by decide +kernel
theorem dX6_number_51 : decode cX6_number 51 = .ok (.istore_n 1, 1) := by decide +kernel
theorem dX6_number_52 : decode cX6_number 52 = .ok (.aload_n 0, 1) := by decide +kernel
theorem dX6_number_53 : decode cX6_number 53 = .ok (.dup, 1) := by decide +kernel
theorem dX6_number_54 : decode cX6_number 54 = .ok (.getfield 132, 3) := by decide +kernel
theorem dX6_number_57 : decode cX6_number 57 = .ok (.iconst 1, 1) := by decide +kernel
theorem dX6_number_58 : decode cX6_number 58 = .ok (.iadd, 1) := by decide +kernel
theorem dX6_number_59 : decode cX6_number 59 = .ok (.putfield 132, 3) := by decide +kernel
theorem dX6_number_62 : decode cX6_number 62 = .ok (.iinc 2 1, 3) := by decide +kernel
theorem dX6_number_65 : decode cX6_number 65 = .ok (.goto (-56), 3) := by decide +kernel
theorem dX6_number_68 : decode cX6_number 68 = .ok (.iload_n 1, 1) := by decide +kernel
theorem dX6_number_69 : decode cX6_number 69 = .ok (.ireturn, 1) := by decide +kernel
theorem dX6_readsOrder_0 : decode cX6_readsOrder 0 = .ok (.iconst 4, 1) := by decide +kernel
theorem dX6_readsOrder_1 : decode cX6_readsOrder 1 = .ok (.aload_n 0, 1) := by decide +kernel
theorem dX6_readsOrder_2 : decode cX6_readsOrder 2 = .ok (.getfield 145, 3) := by decide +kernel
theorem dX6_readsOrder_5 : decode cX6_readsOrder 5 = .ok (.imul, 1) := by decide +kernel
theorem dX6_readsOrder_6 : decode cX6_readsOrder 6 = .ok (.istore_n 1, 1) := by decide +kernel
theorem dX6_readsOrder_7 : decode cX6_readsOrder 7 = .ok (.aload_n 0, 1) := by decide +kernel
theorem dX6_readsOrder_8 : decode cX6_readsOrder 8 = .ok (.invokevirtual 139, 3) := by decide +kernel
theorem dX6_readsOrder_11 : decode cX6_readsOrder 11 = .ok (.istore_n 2, 1) := by decide +kernel
theorem dX6_readsOrder_12 : decode cX6_readsOrder 12 = .ok (.aload_n 0, 1) := by decide +kernel
theorem dX6_readsOrder_13 : decode cX6_readsOrder 13 = .ok (.aload_n 0, 1) := by decide +kernel
theorem dX6_readsOrder_14 : decode cX6_readsOrder 14 = .ok (.getfield 135, 3) := by decide +kernel
theorem dX6_readsOrder_17 : decode cX6_readsOrder 17 = .ok (.ifCond .eq 31, 3) := by decide +kernel
theorem dX6_readsOrder_20 : decode cX6_readsOrder 20 = .ok (.iload_n 2, 1) := by decide +kernel
theorem dX6_readsOrder_21 : decode cX6_readsOrder 21 = .ok (.bipush 111, 2) := by decide +kernel
theorem dX6_readsOrder_23 : decode cX6_readsOrder 23 = .ok (.if_icmp .eq 21, 3) := by decide +kernel
theorem dX6_readsOrder_26 : decode cX6_readsOrder 26 = .ok (.iload_n 2, 1) := by decide +kernel
theorem dX6_readsOrder_27 : decode cX6_readsOrder 27 = .ok (.bipush 102, 2) := by decide +kernel
theorem dX6_readsOrder_29 : decode cX6_readsOrder 29 = .ok (.if_icmp .eq 15, 3) := by decide +kernel
theorem dX6_readsOrder_32 : decode cX6_readsOrder 32 = .ok (.iload_n 2, 1) := by decide +kernel
theorem dX6_readsOrder_33 : decode cX6_readsOrder 33 = .ok (.bipush 115, 2) := by decide +kernel
theorem dX6_readsOrder_35 : decode cX6_readsOrder 35 = .ok (.if_icmp .eq 9, 3) := by decide +kernel
theorem dX6_readsOrder_38 : decode cX6_readsOrder 38 = .ok (.iload_n 2, 1) := by decide +kernel
theorem dX6_readsOrder_39 : decode cX6_readsOrder 39 = .ok (.bipush 116, 2) := by decide +kernel
theorem dX6_readsOrder_41 : decode cX6_readsOrder 41 = .ok (.if_icmp .ne 7, 3) := by decide +kernel
theorem dX6_readsOrder_44 : decode cX6_readsOrder 44 = .ok (.iconst 1, 1) := by decide +kernel
theorem dX6_readsOrder_45 : decode cX6_readsOrder 45 = .ok (.goto 4, 3) := by decide +kernel
theorem dX6_readsOrder_48 : decode cX6_readsOrder 48 = .ok (.iconst 0, 1) := by decide +kernel
theorem dX6_readsOrder_49 : decode cX6_readsOrder 49 = .ok (.putfield 135, 3) := by decide +kernel
theorem dX6_readsOrder_52 : decode cX6_readsOrder 52 = .ok (.aload_n 0, 1) := by decide +kernel
theorem dX6_readsOrder_53 : decode cX6_readsOrder 53 = .ok (.dup, 1) := by decide +kernel
theorem dX6_readsOrder_54 : decode cX6_readsOrder 54 = .ok (.getfield 132, 3) := by decide +kernel
theorem dX6_readsOrder_57 : decode cX6_readsOrder 57 = .ok (.aload_n 0, 1) := by decide +kernel
theorem dX6_readsOrder_58 : decode cX6_readsOrder 58 = .ok (.getfield 135, 3) := by decide +kernel
theorem dX6_readsOrder_61 : decode cX6_readsOrder 61 = .ok (.ifCond .eq 7, 3) := by decide +kernel
theorem dX6_readsOrder_64 : decode cX6_readsOrder 64 = .ok (.iconst 1, 1) := by decide +kernel
theorem dX6_readsOrder_65 : decode cX6_readsOrder 65 = .ok (.goto 4, 3) := by decide +kernel
theorem dX6_readsOrder_68 : decode cX6_readsOrder 68 = .ok (.iconst 0, 1) := by decide +kernel
theorem dX6_readsOrder_69 : decode cX6_readsOrder 69 = .ok (.iadd, 1) := by decide +kernel
theorem dX6_readsOrder_70 : decode cX6_readsOrder 70 = .ok (.putfield 132, 3) := by decide +kernel
theorem dX6_readsOrder_73 : decode cX6_readsOrder 73 = .ok (.aload_n 0, 1) := by decide +kernel
theorem dX6_readsOrder_74 : decode cX6_readsOrder 74 = .ok (.getfield 29, 3) := by decide +kernel
theorem dX6_readsOrder_77 : decode cX6_readsOrder 77 = .ok (.iload_n 1, 1) := by decide +kernel
theorem dX6_readsOrder_78 : decode cX6_readsOrder 78 = .ok (.iload_n 2, 1) := by decide +kernel
theorem dX6_readsOrder_79 : decode cX6_readsOrder 79 = .ok (.iastore, 1) := by decide +kernel
theorem dX6_readsOrder_80 : decode cX6_readsOrder 80 = .ok (.aload_n 0, 1) := by decide +kernel
theorem dX6_readsOrder_81 : decode cX6_readsOrder 81 = .ok (.getfield 29, 3) := by decide +kernel
theorem dX6_readsOrder_84 : decode cX6_readsOrder 84 = .ok (.iload_n 1, 1) := by decide +kernel
theorem dX6_readsOrder_85 : decode cX6_readsOrder 85 = .ok (.iconst 1, 1) := by decide +kernel
theorem dX6_readsOrder_86 : decode cX6_readsOrder 86 = .ok (.iadd, 1) := by decide +kernel
theorem dX6_readsOrder_87 : decode cX6_readsOrder 87 = .ok (.iload_n 2, 1) := by decide +kernel
theorem dX6_readsOrder_88 : decode cX6_readsOrder 88 = .ok (.bipush 115, 2) := by decide +kernel
theorem dX6_readsOrder_90 : decode cX6_readsOrder 90 = .ok (.if_icmp .ne 12, 3) := by decide +kernel
theorem dX6_readsOrder_93 : decode cX6_readsOrder 93 = .ok (.aload_n 0, 1) := by decide +kernel
theorem dX6_readsOrder_94 : decode cX6_readsOrder 94 = .ok (.bipush 7, 2) := by decide +kernel
theorem dX6_readsOrder_96 : decode cX6_readsOrder 96 = .ok (.invokevirtual 142, 3) := by decide +kernel
theorem dX6_readsOrder_99 : decode cX6_readsOrder 99 = .ok (.goto 7, 3) := by decide +kernel
theorem dX6_readsOrder_102 : decode cX6_readsOrder 102 = .ok (.aload_n 0, 1) := by decide +kernel
theorem dX6_readsOrder_103 : decode cX6_readsOrder 103 = .ok (.invokevirtual 148, 3) := by decide +kernel
theorem dX6_readsOrder_106 : decode cX6_readsOrder 106 = .ok (.iastore, 1) := by decide +kernel
theorem dX6_readsOrder_107 : decode cX6_readsOrder 107 = .ok (.iload_n 2, 1) := by decide +kernel
theorem dX6_readsOrder_108 : decode cX6_readsOrder 108 = .ok (.bipush 116, 2) := by decide +kernel
theorem dX6_readsOrder_110 : decode cX6_readsOrder 110 = .ok (.if_icmp .eq 43, 3) := by decide +kernel
theorem dX6_readsOrder_113 : decode cX6_readsOrder 113 = .ok (.aload_n 0, 1) := by decide +kernel
theorem dX6_readsOrder_114 : decode cX6_readsOrder 114 = .ok (.iload_n 2, 1) := by decide +kernel
theorem dX6_readsOrder_115 : decode cX6_readsOrder 115 = .ok (.bipush 111, 2) := by decide +kernel
theorem dX6_readsOrder_117 : decode cX6_readsOrder 117 = .ok (.if_icmp .ne 8, 3) := by decide +kernel
theorem dX6_readsOrder_120 : decode cX6_readsOrder 120 = .ok (.bipush 58, 2) := by decide +kernel
theorem dX6_readsOrder_122 : decode cX6_readsOrder 122 = .ok (.goto 16, 3) := by decide +kernel
theorem dX6_readsOrder_125 : decode cX6_readsOrder 125 = .ok (.iload_n 2, 1) := by decide +kernel
theorem dX6_readsOrder_126 : decode cX6_readsOrder 126 = .ok (.bipush 102, 2) := by decide +kernel
theorem dX6_readsOrder_128 : decode cX6_readsOrder 128 = .ok (.if_icmp .ne 8, 3) := by decide +kernel
theorem dX6_readsOrder_131 : decode cX6_readsOrder 131 = .ok (.bipush 44, 2) := by decide +kernel
theorem dX6_readsOrder_133 : decode cX6_readsOrder 133 = .ok (.goto 5, 3) := by decide +kernel
theorem dX6_readsOrder_136 : decode cX6_readsOrder 136 = .ok (.bipush 42, 2) := by decide +kernel
theorem dX6_readsOrder_138 : decode cX6_readsOrder 138 = .ok (.invokevirtual 151, 3) := by decide +kernel
theorem dX6_readsOrder_141 : decode cX6_readsOrder 141 = .ok (.aload_n 0, 1) := by decide +kernel
theorem dX6_readsOrder_142 : decode cX6_readsOrder 142 = .ok (.getfield 29, 3) := by decide +kernel
theorem dX6_readsOrder_145 : decode cX6_readsOrder 145 = .ok (.iload_n 1, 1) := by decide +kernel
theorem dX6_readsOrder_146 : decode cX6_readsOrder 146 = .ok (.iconst 2, 1) := by decide +kernel
theorem dX6_readsOrder_147 : decode cX6_readsOrder 147 = .ok (.iadd, 1) := by decide +kernel
theorem dX6_readsOrder_148 : decode cX6_readsOrder 148 = .ok (.aload_n 0, 1) := by decide +kernel
theorem dX6_readsOrder_149 : decode cX6_readsOrder 149 = .ok (.invokevirtual 148, 3) := by decide +kernel
theorem dX6_readsOrder_152 : decode cX6_readsOrder 152 = .ok (.iastore, 1) := by decide +kernel
theorem dX6_readsOrder_153 : decode cX6_readsOrder 153 = .ok (.iload_n 2, 1) := by decide +kernel
theorem dX6_readsOrder_154 : decode cX6_readsOrder 154 = .ok (.bipush 111, 2) := by decide +kernel
theorem dX6_readsOrder_156 : decode cX6_readsOrder 156 = .ok (.if_icmp .ne 25, 3) := by decide +kernel
theorem dX6_readsOrder_159 : decode cX6_readsOrder 159 = .ok (.aload_n 0, 1) := by decide +kernel
theorem dX6_readsOrder_160 : decode cX6_readsOrder 160 = .ok (.bipush 33, 2) := by decide +kernel
theorem dX6_readsOrder_162 : decode cX6_readsOrder 162 = .ok (.invokevirtual 151, 3) := by decide +kernel
theorem dX6_readsOrder_165 : decode cX6_readsOrder 165 = .ok (.aload_n 0, 1) := by decide +kernel
theorem dX6_readsOrder_166 : decode cX6_readsOrder 166 = .ok (.getfield 29, 3) := by decide +kernel
theorem dX6_readsOrder_169 : decode cX6_readsOrder 169 = .ok (.iload_n 1, 1) := by decide +kernel
theorem dX6_readsOrder_170 : decode cX6_readsOrder 170 = .ok (.iconst 3, 1) := by decide +kernel
theorem dX6_readsOrder_171 : decode cX6_readsOrder 171 = .ok (.iadd, 1) := by decide +kernel
theorem dX6_readsOrder_172 : decode cX6_readsOrder 172 = .ok (.aload_n 0, 1) := by decide +kernel
theorem dX6_readsOrder_173 : decode cX6_readsOrder 173 = .ok (.iconst 3, 1) := by decide +kernel
theorem dX6_readsOrder_174 : decode cX6_readsOrder 174 = .ok (.invokevirtual 142, 3) := by decide +kernel
theorem dX6_readsOrder_177 : decode cX6_readsOrder 177 = .ok (.iastore, 1) := by decide +kernel
theorem dX6_readsOrder_178 : decode cX6_readsOrder 178 = .ok (.goto 27, 3) := by decide +kernel
theorem dX6_readsOrder_181 : decode cX6_readsOrder 181 = .ok (.iload_n 2, 1) := by decide +kernel
theorem dX6_readsOrder_182 : decode cX6_readsOrder 182 = .ok (.bipush 102, 2) := by decide +kernel
theorem dX6_readsOrder_184 : decode cX6_readsOrder 184 = .ok (.if_icmp .ne 21, 3) := by decide +kernel
theorem dX6_readsOrder_187 : decode cX6_readsOrder 187 = .ok (.aload_n 0, 1) := by decide +kernel
theorem dX6_readsOrder_188 : decode cX6_readsOrder 188 = .ok (.bipush 44, 2) := by decide +kernel
theorem dX6_readsOrder_190 : decode cX6_readsOrder 190 = .ok (.invokevirtual 151, 3) := by decide +kernel
theorem dX6_readsOrder_193 : decode cX6_readsOrder 193 = .ok (.aload_n 0, 1) := by decide +kernel
theorem dX6_readsOrder_194 : decode cX6_readsOrder 194 = .ok (.getfield 29, 3) := by decide +kernel
theorem dX6_readsOrder_197 : decode cX6_readsOrder 197 = .ok (.iload_n 1, 1) := by decide +kernel
theorem dX6_readsOrder_198 : decode cX6_readsOrder 198 = .ok (.iconst 3, 1) := by decide +kernel
theorem dX6_readsOrder_199 : decode cX6_readsOrder 199 = .ok (.iadd, 1) := by decide +kernel
theorem dX6_readsOrder_200 : decode cX6_readsOrder 200 = .ok (.aload_n 0, 1) := by decide +kernel
theorem dX6_readsOrder_201 : decode cX6_readsOrder 201 = .ok (.invokevirtual 148, 3) := by decide +kernel
theorem dX6_readsOrder_204 : decode cX6_readsOrder 204 = .ok (.iastore, 1) := by decide +kernel
theorem dX6_readsOrder_205 : decode cX6_readsOrder 205 = .ok (.aload_n 0, 1) := by decide +kernel
theorem dX6_readsOrder_206 : decode cX6_readsOrder 206 = .ok (.dup, 1) := by decide +kernel
theorem dX6_readsOrder_207 : decode cX6_readsOrder 207 = .ok (.getfield 145, 3) := by decide +kernel
theorem dX6_readsOrder_210 : decode cX6_readsOrder 210 = .ok (.aload_n 0, 1) := by decide +kernel
theorem dX6_readsOrder_211 : decode cX6_readsOrder 211 = .ok (.getfield 135, 3) := by decide +kernel
theorem dX6_readsOrder_214 : decode cX6_readsOrder 214 = .ok (.ifCond .eq 7, 3) := by decide +kernel
theorem dX6_readsOrder_217 : decode cX6_readsOrder 217 = .ok (.iconst 1, 1) := by decide +kernel
theorem dX6_readsOrder_218 : decode cX6_readsOrder 218 = .ok (.goto 4, 3) := by decide +kernel
theorem dX6_readsOrder_221 : decode cX6_readsOrder 221 = .ok (.iconst 0, 1) := by decide +kernel
theorem dX6_readsOrder_222 : decode cX6_readsOrder 222 = .ok (.iadd, 1) := by decide +kernel
theorem dX6_readsOrder_223 : decode cX6_readsOrder 223 = .ok (.putfield 145, 3) := by decide +kernel
theorem dX6_readsOrder_226 : decode cX6_readsOrder 226 = .ok (.return_, 1) := by decide +kernel
theorem dX6_reads_0 : decode cX6_reads 0 = .ok (.aload_n 0, 1) := by decide +kernel
theorem dX6_reads_1 : decode cX6_reads 1 = .ok (.iconst 0, 1) := by decide +kernel
theorem dX6_reads_2 : decode cX6_reads 2 = .ok (.putfield 132, 3) := by decide +kernel
theorem dX6_reads_5 : decode cX6_reads 5 = .ok (.aload_n 0, 1) := by decide +kernel
theorem dX6_reads_6 : decode cX6_reads 6 = .ok (.iconst 1, 1) := by decide +kernel
theorem dX6_reads_7 : decode cX6_reads 7 = .ok (.putfield 135, 3) := by decide +kernel
theorem dX6_reads_10 : decode cX6_reads 10 = .ok (.aload_n 0, 1) := by decide +kernel
theorem dX6_reads_11 : decode cX6_reads 11 = .ok (.iconst 0, 1) := by decide +kernel
theorem dX6_reads_12 : decode cX6_reads 12 = .ok (.putfield 145, 3) := by decide +kernel
theorem dX6_reads_15 : decode cX6_reads 15 = .ok (.aload_n 0, 1) := by decide +kernel
theorem dX6_reads_16 : decode cX6_reads 16 = .ok (.invokevirtual 154, 3) := by decide +kernel
theorem dX6_reads_19 : decode cX6_reads 19 = .ok (.aload_n 0, 1) := by decide +kernel
theorem dX6_reads_20 : decode cX6_reads 20 = .ok (.getfield 135, 3) := by decide +kernel
theorem dX6_reads_23 : decode cX6_reads 23 = .ok (.ifCond .eq 34, 3) := by decide +kernel
theorem dX6_reads_26 : decode cX6_reads 26 = .ok (.aload_n 0, 1) := by decide +kernel
theorem dX6_reads_27 : decode cX6_reads 27 = .ok (.getfield 132, 3) := by decide +kernel
theorem dX6_reads_30 : decode cX6_reads 30 = .ok (.aload_n 0, 1) := by decide +kernel
theorem dX6_reads_31 : decode cX6_reads 31 = .ok (.getfield 121, 3) := by decide +kernel
theorem dX6_reads_34 : decode cX6_reads 34 = .ok (.if_icmp .ge 23, 3) := by decide +kernel
theorem dX6_reads_37 : decode cX6_reads 37 = .ok (.aload_n 0, 1) := by decide +kernel
theorem dX6_reads_38 : decode cX6_reads 38 = .ok (.bipush 59, 2) := by decide +kernel
theorem dX6_reads_40 : decode cX6_reads 40 = .ok (.invokevirtual 151, 3) := by decide +kernel
theorem dX6_reads_43 : decode cX6_reads 43 = .ok (.aload_n 0, 1) := by decide +kernel
theorem dX6_reads_44 : decode cX6_reads 44 = .ok (.getfield 135, 3) := by decide +kernel
theorem dX6_reads_47 : decode cX6_reads 47 = .ok (.ifCond .eq (-28), 3) := by decide +kernel
theorem dX6_reads_50 : decode cX6_reads 50 = .ok (.aload_n 0, 1) := by decide +kernel
theorem dX6_reads_51 : decode cX6_reads 51 = .ok (.invokevirtual 154, 3) := by decide +kernel
theorem dX6_reads_54 : decode cX6_reads 54 = .ok (.goto (-35), 3) := by decide +kernel
theorem dX6_reads_57 : decode cX6_reads 57 = .ok (.aload_n 0, 1) := by decide +kernel
theorem dX6_reads_58 : decode cX6_reads 58 = .ok (.getfield 135, 3) := by decide +kernel
theorem dX6_reads_61 : decode cX6_reads 61 = .ok (.ifCond .eq 8, 3) := by decide +kernel
theorem dX6_reads_64 : decode cX6_reads 64 = .ok (.bipush (-6), 2) := by decide +kernel
theorem dX6_reads_66 : decode cX6_reads 66 = .ok (.goto 7, 3) := by decide +kernel
theorem dX6_reads_69 : decode cX6_reads 69 = .ok (.aload_n 0, 1) := by decide +kernel
theorem dX6_reads_70 : decode cX6_reads 70 = .ok (.getfield 132, 3) := by decide +kernel
theorem dX6_reads_73 : decode cX6_reads 73 = .ok (.ireturn, 1) := by decide +kernel
theorem dX6_fault_0 : decode cX6_fault 0 = .ok (.aload_n 0, 1) := by decide +kernel
theorem dX6_fault_1 : decode cX6_fault 1 = .ok (.iconst 0, 1) := by decide +kernel
theorem dX6_fault_2 : decode cX6_fault 2 = .ok (.putfield 32, 3) := by decide +kernel
theorem dX6_fault_5 : decode cX6_fault 5 = .ok (.aload_n 0, 1) := by decide +kernel
theorem dX6_fault_6 : decode cX6_fault 6 = .ok (.invokevirtual 157, 3) := by decide +kernel
theorem dX6_fault_9 : decode cX6_fault 9 = .ok (.ireturn, 1) := by decide +kernel
theorem dX6_refuses_0 : decode cX6_refuses 0 = .ok (.aload_n 0, 1) := by decide +kernel
theorem dX6_refuses_1 : decode cX6_refuses 1 = .ok (.getfield 29, 3) := by decide +kernel
theorem dX6_refuses_4 : decode cX6_refuses 4 = .ok (.iload_n 1, 1) := by decide +kernel
theorem dX6_refuses_5 : decode cX6_refuses 5 = .ok (.iaload, 1) := by decide +kernel
theorem dX6_refuses_6 : decode cX6_refuses 6 = .ok (.lookupswitch 111 #[(102, 63), (111, 34), (115, 91)], 34) := by decide +kernel
theorem dX6_refuses_40 : decode cX6_refuses 40 = .ok (.aload_n 0, 1) := by decide +kernel
theorem dX6_refuses_41 : decode cX6_refuses 41 = .ok (.aload_n 0, 1) := by decide +kernel
theorem dX6_refuses_42 : decode cX6_refuses 42 = .ok (.getfield 29, 3) := by decide +kernel
theorem dX6_refuses_45 : decode cX6_refuses 45 = .ok (.iload_n 1, 1) := by decide +kernel
theorem dX6_refuses_46 : decode cX6_refuses 46 = .ok (.iconst 1, 1) := by decide +kernel
theorem dX6_refuses_47 : decode cX6_refuses 47 = .ok (.iadd, 1) := by decide +kernel
theorem dX6_refuses_48 : decode cX6_refuses 48 = .ok (.iaload, 1) := by decide +kernel
theorem dX6_refuses_49 : decode cX6_refuses 49 = .ok (.aload_n 0, 1) := by decide +kernel
theorem dX6_refuses_50 : decode cX6_refuses 50 = .ok (.getfield 29, 3) := by decide +kernel
theorem dX6_refuses_53 : decode cX6_refuses 53 = .ok (.iload_n 1, 1) := by decide +kernel
theorem dX6_refuses_54 : decode cX6_refuses 54 = .ok (.iconst 2, 1) := by decide +kernel
theorem dX6_refuses_55 : decode cX6_refuses 55 = .ok (.iadd, 1) := by decide +kernel
theorem dX6_refuses_56 : decode cX6_refuses 56 = .ok (.iaload, 1) := by decide +kernel
theorem dX6_refuses_57 : decode cX6_refuses 57 = .ok (.aload_n 0, 1) := by decide +kernel
theorem dX6_refuses_58 : decode cX6_refuses 58 = .ok (.getfield 29, 3) := by decide +kernel
theorem dX6_refuses_61 : decode cX6_refuses 61 = .ok (.iload_n 1, 1) := by decide +kernel
theorem dX6_refuses_62 : decode cX6_refuses 62 = .ok (.iconst 3, 1) := by decide +kernel
theorem dX6_refuses_63 : decode cX6_refuses 63 = .ok (.iadd, 1) := by decide +kernel
theorem dX6_refuses_64 : decode cX6_refuses 64 = .ok (.iaload, 1) := by decide +kernel
theorem dX6_refuses_65 : decode cX6_refuses 65 = .ok (.invokevirtual 93, 3) := by decide +kernel
theorem dX6_refuses_68 : decode cX6_refuses 68 = .ok (.ireturn, 1) := by decide +kernel
theorem dX6_refuses_69 : decode cX6_refuses 69 = .ok (.aload_n 0, 1) := by decide +kernel
theorem dX6_refuses_70 : decode cX6_refuses 70 = .ok (.getfield 29, 3) := by decide +kernel
theorem dX6_refuses_73 : decode cX6_refuses 73 = .ok (.iload_n 1, 1) := by decide +kernel
theorem dX6_refuses_74 : decode cX6_refuses 74 = .ok (.iconst 1, 1) := by decide +kernel
theorem dX6_refuses_75 : decode cX6_refuses 75 = .ok (.iadd, 1) := by decide +kernel
theorem dX6_refuses_76 : decode cX6_refuses 76 = .ok (.iaload, 1) := by decide +kernel
theorem dX6_refuses_77 : decode cX6_refuses 77 = .ok (.aload_n 0, 1) := by decide +kernel
theorem dX6_refuses_78 : decode cX6_refuses 78 = .ok (.getfield 29, 3) := by decide +kernel
theorem dX6_refuses_81 : decode cX6_refuses 81 = .ok (.iload_n 1, 1) := by decide +kernel
theorem dX6_refuses_82 : decode cX6_refuses 82 = .ok (.iconst 2, 1) := by decide +kernel
theorem dX6_refuses_83 : decode cX6_refuses 83 = .ok (.iadd, 1) := by decide +kernel
theorem dX6_refuses_84 : decode cX6_refuses 84 = .ok (.iaload, 1) := by decide +kernel
theorem dX6_refuses_85 : decode cX6_refuses 85 = .ok (.aload_n 0, 1) := by decide +kernel
theorem dX6_refuses_86 : decode cX6_refuses 86 = .ok (.getfield 29, 3) := by decide +kernel
theorem dX6_refuses_89 : decode cX6_refuses 89 = .ok (.iload_n 1, 1) := by decide +kernel
theorem dX6_refuses_90 : decode cX6_refuses 90 = .ok (.iconst 3, 1) := by decide +kernel
theorem dX6_refuses_91 : decode cX6_refuses 91 = .ok (.iadd, 1) := by decide +kernel
theorem dX6_refuses_92 : decode cX6_refuses 92 = .ok (.iaload, 1) := by decide +kernel
theorem dX6_refuses_93 : decode cX6_refuses 93 = .ok (.invokestatic 99, 3) := by decide +kernel
theorem dX6_refuses_96 : decode cX6_refuses 96 = .ok (.ireturn, 1) := by decide +kernel
theorem dX6_refuses_97 : decode cX6_refuses 97 = .ok (.aload_n 0, 1) := by decide +kernel
theorem dX6_refuses_98 : decode cX6_refuses 98 = .ok (.getfield 29, 3) := by decide +kernel
theorem dX6_refuses_101 : decode cX6_refuses 101 = .ok (.iload_n 1, 1) := by decide +kernel
theorem dX6_refuses_102 : decode cX6_refuses 102 = .ok (.iconst 1, 1) := by decide +kernel
theorem dX6_refuses_103 : decode cX6_refuses 103 = .ok (.iadd, 1) := by decide +kernel
theorem dX6_refuses_104 : decode cX6_refuses 104 = .ok (.iaload, 1) := by decide +kernel
theorem dX6_refuses_105 : decode cX6_refuses 105 = .ok (.aload_n 0, 1) := by decide +kernel
theorem dX6_refuses_106 : decode cX6_refuses 106 = .ok (.getfield 29, 3) := by decide +kernel
theorem dX6_refuses_109 : decode cX6_refuses 109 = .ok (.iload_n 1, 1) := by decide +kernel
theorem dX6_refuses_110 : decode cX6_refuses 110 = .ok (.iconst 2, 1) := by decide +kernel
theorem dX6_refuses_111 : decode cX6_refuses 111 = .ok (.iadd, 1) := by decide +kernel
theorem dX6_refuses_112 : decode cX6_refuses 112 = .ok (.iaload, 1) := by decide +kernel
theorem dX6_refuses_113 : decode cX6_refuses 113 = .ok (.invokestatic 102, 3) := by decide +kernel
theorem dX6_refuses_116 : decode cX6_refuses 116 = .ok (.ireturn, 1) := by decide +kernel
theorem dX6_refuses_117 : decode cX6_refuses 117 = .ok (.aload_n 0, 1) := by decide +kernel
theorem dX6_refuses_118 : decode cX6_refuses 118 = .ok (.aload_n 0, 1) := by decide +kernel
theorem dX6_refuses_119 : decode cX6_refuses 119 = .ok (.getfield 29, 3) := by decide +kernel
theorem dX6_refuses_122 : decode cX6_refuses 122 = .ok (.iload_n 1, 1) := by decide +kernel
theorem dX6_refuses_123 : decode cX6_refuses 123 = .ok (.iconst 1, 1) := by decide +kernel
theorem dX6_refuses_124 : decode cX6_refuses 124 = .ok (.iadd, 1) := by decide +kernel
theorem dX6_refuses_125 : decode cX6_refuses 125 = .ok (.iaload, 1) := by decide +kernel
theorem dX6_refuses_126 : decode cX6_refuses 126 = .ok (.invokevirtual 106, 3) := by decide +kernel
theorem dX6_refuses_129 : decode cX6_refuses 129 = .ok (.ireturn, 1) := by decide +kernel
theorem dX6_does_0 : decode cX6_does 0 = .ok (.aload_n 0, 1) := by decide +kernel
theorem dX6_does_1 : decode cX6_does 1 = .ok (.getfield 29, 3) := by decide +kernel
theorem dX6_does_4 : decode cX6_does 4 = .ok (.iload_n 1, 1) := by decide +kernel
theorem dX6_does_5 : decode cX6_does 5 = .ok (.iaload, 1) := by decide +kernel
theorem dX6_does_6 : decode cX6_does 6 = .ok (.lookupswitch 125 #[(102, 66), (111, 34), (115, 98)], 34) := by decide +kernel
theorem dX6_does_40 : decode cX6_does 40 = .ok (.aload_n 0, 1) := by decide +kernel
theorem dX6_does_41 : decode cX6_does 41 = .ok (.aload_n 0, 1) := by decide +kernel
theorem dX6_does_42 : decode cX6_does 42 = .ok (.getfield 29, 3) := by decide +kernel
theorem dX6_does_45 : decode cX6_does 45 = .ok (.iload_n 1, 1) := by decide +kernel
theorem dX6_does_46 : decode cX6_does 46 = .ok (.iconst 1, 1) := by decide +kernel
theorem dX6_does_47 : decode cX6_does 47 = .ok (.iadd, 1) := by decide +kernel
theorem dX6_does_48 : decode cX6_does 48 = .ok (.iaload, 1) := by decide +kernel
theorem dX6_does_49 : decode cX6_does 49 = .ok (.aload_n 0, 1) := by decide +kernel
theorem dX6_does_50 : decode cX6_does 50 = .ok (.getfield 29, 3) := by decide +kernel
theorem dX6_does_53 : decode cX6_does 53 = .ok (.iload_n 1, 1) := by decide +kernel
theorem dX6_does_54 : decode cX6_does 54 = .ok (.iconst 2, 1) := by decide +kernel
theorem dX6_does_55 : decode cX6_does 55 = .ok (.iadd, 1) := by decide +kernel
theorem dX6_does_56 : decode cX6_does 56 = .ok (.iaload, 1) := by decide +kernel
theorem dX6_does_57 : decode cX6_does 57 = .ok (.aload_n 0, 1) := by decide +kernel
theorem dX6_does_58 : decode cX6_does 58 = .ok (.getfield 29, 3) := by decide +kernel
theorem dX6_does_61 : decode cX6_does 61 = .ok (.iload_n 1, 1) := by decide +kernel
theorem dX6_does_62 : decode cX6_does 62 = .ok (.iconst 3, 1) := by decide +kernel
theorem dX6_does_63 : decode cX6_does 63 = .ok (.iadd, 1) := by decide +kernel
theorem dX6_does_64 : decode cX6_does 64 = .ok (.iaload, 1) := by decide +kernel
theorem dX6_does_65 : decode cX6_does 65 = .ok (.invokevirtual 96, 3) := by decide +kernel
theorem dX6_does_68 : decode cX6_does 68 = .ok (.pop, 1) := by decide +kernel
theorem dX6_does_69 : decode cX6_does 69 = .ok (.goto 75, 3) := by decide +kernel
theorem dX6_does_72 : decode cX6_does 72 = .ok (.aload_n 0, 1) := by decide +kernel
theorem dX6_does_73 : decode cX6_does 73 = .ok (.aload_n 0, 1) := by decide +kernel
theorem dX6_does_74 : decode cX6_does 74 = .ok (.getfield 29, 3) := by decide +kernel
theorem dX6_does_77 : decode cX6_does 77 = .ok (.iload_n 1, 1) := by decide +kernel
theorem dX6_does_78 : decode cX6_does 78 = .ok (.iconst 1, 1) := by decide +kernel
theorem dX6_does_79 : decode cX6_does 79 = .ok (.iadd, 1) := by decide +kernel
theorem dX6_does_80 : decode cX6_does 80 = .ok (.iaload, 1) := by decide +kernel
theorem dX6_does_81 : decode cX6_does 81 = .ok (.aload_n 0, 1) := by decide +kernel
theorem dX6_does_82 : decode cX6_does 82 = .ok (.getfield 29, 3) := by decide +kernel
theorem dX6_does_85 : decode cX6_does 85 = .ok (.iload_n 1, 1) := by decide +kernel
theorem dX6_does_86 : decode cX6_does 86 = .ok (.iconst 2, 1) := by decide +kernel
theorem dX6_does_87 : decode cX6_does 87 = .ok (.iadd, 1) := by decide +kernel
theorem dX6_does_88 : decode cX6_does 88 = .ok (.iaload, 1) := by decide +kernel
theorem dX6_does_89 : decode cX6_does 89 = .ok (.aload_n 0, 1) := by decide +kernel
theorem dX6_does_90 : decode cX6_does 90 = .ok (.getfield 29, 3) := by decide +kernel
theorem dX6_does_93 : decode cX6_does 93 = .ok (.iload_n 1, 1) := by decide +kernel
theorem dX6_does_94 : decode cX6_does 94 = .ok (.iconst 3, 1) := by decide +kernel
theorem dX6_does_95 : decode cX6_does 95 = .ok (.iadd, 1) := by decide +kernel
theorem dX6_does_96 : decode cX6_does 96 = .ok (.iaload, 1) := by decide +kernel
theorem dX6_does_97 : decode cX6_does 97 = .ok (.invokevirtual 66, 3) := by decide +kernel
theorem dX6_does_100 : decode cX6_does 100 = .ok (.pop, 1) := by decide +kernel
theorem dX6_does_101 : decode cX6_does 101 = .ok (.goto 43, 3) := by decide +kernel
theorem dX6_does_104 : decode cX6_does 104 = .ok (.aload_n 0, 1) := by decide +kernel
theorem dX6_does_105 : decode cX6_does 105 = .ok (.getfield 7, 3) := by decide +kernel
theorem dX6_does_108 : decode cX6_does 108 = .ok (.bipush 8, 2) := by decide +kernel
theorem dX6_does_110 : decode cX6_does 110 = .ok (.aload_n 0, 1) := by decide +kernel
theorem dX6_does_111 : decode cX6_does 111 = .ok (.getfield 29, 3) := by decide +kernel
theorem dX6_does_114 : decode cX6_does 114 = .ok (.iload_n 1, 1) := by decide +kernel
theorem dX6_does_115 : decode cX6_does 115 = .ok (.iconst 1, 1) := by decide +kernel
theorem dX6_does_116 : decode cX6_does 116 = .ok (.iadd, 1) := by decide +kernel
theorem dX6_does_117 : decode cX6_does 117 = .ok (.iaload, 1) := by decide +kernel
theorem dX6_does_118 : decode cX6_does 118 = .ok (.iadd, 1) := by decide +kernel
theorem dX6_does_119 : decode cX6_does 119 = .ok (.aload_n 0, 1) := by decide +kernel
theorem dX6_does_120 : decode cX6_does 120 = .ok (.getfield 29, 3) := by decide +kernel
theorem dX6_does_123 : decode cX6_does 123 = .ok (.iload_n 1, 1) := by decide +kernel
theorem dX6_does_124 : decode cX6_does 124 = .ok (.iconst 2, 1) := by decide +kernel
theorem dX6_does_125 : decode cX6_does 125 = .ok (.iadd, 1) := by decide +kernel
theorem dX6_does_126 : decode cX6_does 126 = .ok (.iaload, 1) := by decide +kernel
theorem dX6_does_127 : decode cX6_does 127 = .ok (.iastore, 1) := by decide +kernel
theorem dX6_does_128 : decode cX6_does 128 = .ok (.goto 16, 3) := by decide +kernel
theorem dX6_does_131 : decode cX6_does 131 = .ok (.aload_n 0, 1) := by decide +kernel
theorem dX6_does_132 : decode cX6_does 132 = .ok (.aload_n 0, 1) := by decide +kernel
theorem dX6_does_133 : decode cX6_does 133 = .ok (.getfield 29, 3) := by decide +kernel
theorem dX6_does_136 : decode cX6_does 136 = .ok (.iload_n 1, 1) := by decide +kernel
theorem dX6_does_137 : decode cX6_does 137 = .ok (.iconst 1, 1) := by decide +kernel
theorem dX6_does_138 : decode cX6_does 138 = .ok (.iadd, 1) := by decide +kernel
theorem dX6_does_139 : decode cX6_does 139 = .ok (.iaload, 1) := by decide +kernel
theorem dX6_does_140 : decode cX6_does 140 = .ok (.invokevirtual 109, 3) := by decide +kernel
theorem dX6_does_143 : decode cX6_does 143 = .ok (.pop, 1) := by decide +kernel
theorem dX6_does_144 : decode cX6_does 144 = .ok (.return_, 1) := by decide +kernel
theorem dX6_carryOut_0 : decode cX6_carryOut 0 = .ok (.aload_n 0, 1) := by decide +kernel
theorem dX6_carryOut_1 : decode cX6_carryOut 1 = .ok (.iconst 0, 1) := by decide +kernel
theorem dX6_carryOut_2 : decode cX6_carryOut 2 = .ok (.putfield 32, 3) := by decide +kernel
theorem dX6_carryOut_5 : decode cX6_carryOut 5 = .ok (.aload_n 0, 1) := by decide +kernel
theorem dX6_carryOut_6 : decode cX6_carryOut 6 = .ok (.invokevirtual 157, 3) := by decide +kernel
theorem dX6_carryOut_9 : decode cX6_carryOut 9 = .ok (.bipush (-6), 2) := by decide +kernel
theorem dX6_carryOut_11 : decode cX6_carryOut 11 = .ok (.if_icmp .eq 6, 3) := by decide +kernel
theorem dX6_carryOut_14 : decode cX6_carryOut 14 = .ok (.bipush (-3), 2) := by decide +kernel
theorem dX6_carryOut_16 : decode cX6_carryOut 16 = .ok (.ireturn, 1) := by decide +kernel
theorem dX6_carryOut_17 : decode cX6_carryOut 17 = .ok (.aload_n 0, 1) := by decide +kernel
theorem dX6_carryOut_18 : decode cX6_carryOut 18 = .ok (.invokevirtual 90, 3) := by decide +kernel
theorem dX6_carryOut_21 : decode cX6_carryOut 21 = .ok (.aload_n 0, 1) := by decide +kernel
theorem dX6_carryOut_22 : decode cX6_carryOut 22 = .ok (.iconst 0, 1) := by decide +kernel
theorem dX6_carryOut_23 : decode cX6_carryOut 23 = .ok (.putfield 121, 3) := by decide +kernel
theorem dX6_carryOut_26 : decode cX6_carryOut 26 = .ok (.iconst 0, 1) := by decide +kernel
theorem dX6_carryOut_27 : decode cX6_carryOut 27 = .ok (.istore_n 1, 1) := by decide +kernel
theorem dX6_carryOut_28 : decode cX6_carryOut 28 = .ok (.iload_n 1, 1) := by decide +kernel
theorem dX6_carryOut_29 : decode cX6_carryOut 29 = .ok (.aload_n 0, 1) := by decide +kernel
theorem dX6_carryOut_30 : decode cX6_carryOut 30 = .ok (.getfield 145, 3) := by decide +kernel
theorem dX6_carryOut_33 : decode cX6_carryOut 33 = .ok (.if_icmp .ge 28, 3) := by decide +kernel
theorem dX6_carryOut_36 : decode cX6_carryOut 36 = .ok (.aload_n 0, 1) := by decide +kernel
theorem dX6_carryOut_37 : decode cX6_carryOut 37 = .ok (.iconst 4, 1) := by decide +kernel
theorem dX6_carryOut_38 : decode cX6_carryOut 38 = .ok (.iload_n 1, 1) := by decide +kernel
theorem dX6_carryOut_39 : decode cX6_carryOut 39 = .ok (.imul, 1) := by decide +kernel
theorem dX6_carryOut_40 : decode cX6_carryOut 40 = .ok (.invokevirtual 160, 3) := by decide +kernel
theorem dX6_carryOut_43 : decode cX6_carryOut 43 = .ok (.ifCond .eq 5, 3) := by decide +kernel
theorem dX6_carryOut_46 : decode cX6_carryOut 46 = .ok (.iload_n 1, 1) := by decide +kernel
theorem dX6_carryOut_47 : decode cX6_carryOut 47 = .ok (.ireturn, 1) := by decide +kernel
theorem dX6_carryOut_48 : decode cX6_carryOut 48 = .ok (.aload_n 0, 1) := by decide +kernel
theorem dX6_carryOut_49 : decode cX6_carryOut 49 = .ok (.iconst 4, 1) := by decide +kernel
theorem dX6_carryOut_50 : decode cX6_carryOut 50 = .ok (.iload_n 1, 1) := by decide +kernel
theorem dX6_carryOut_51 : decode cX6_carryOut 51 = .ok (.imul, 1) := by decide +kernel
theorem dX6_carryOut_52 : decode cX6_carryOut 52 = .ok (.invokevirtual 163, 3) := by decide +kernel
theorem dX6_carryOut_55 : decode cX6_carryOut 55 = .ok (.iinc 1 1, 3) := by decide +kernel
theorem dX6_carryOut_58 : decode cX6_carryOut 58 = .ok (.goto (-30), 3) := by decide +kernel
theorem dX6_carryOut_61 : decode cX6_carryOut 61 = .ok (.aload_n 0, 1) := by decide +kernel
theorem dX6_carryOut_62 : decode cX6_carryOut 62 = .ok (.getfield 145, 3) := by decide +kernel
theorem dX6_carryOut_65 : decode cX6_carryOut 65 = .ok (.ireturn, 1) := by decide +kernel
theorem dX6_undo_0 : decode cX6_undo 0 = .ok (.aload_n 0, 1) := by decide +kernel
theorem dX6_undo_1 : decode cX6_undo 1 = .ok (.iconst 0, 1) := by decide +kernel
theorem dX6_undo_2 : decode cX6_undo 2 = .ok (.putfield 32, 3) := by decide +kernel
theorem dX6_undo_5 : decode cX6_undo 5 = .ok (.aload_n 0, 1) := by decide +kernel
theorem dX6_undo_6 : decode cX6_undo 6 = .ok (.getfield 40, 3) := by decide +kernel
theorem dX6_undo_9 : decode cX6_undo 9 = .ok (.ifCond .ne 6, 3) := by decide +kernel
theorem dX6_undo_12 : decode cX6_undo 12 = .ok (.bipush (-5), 2) := by decide +kernel
theorem dX6_undo_14 : decode cX6_undo 14 = .ok (.ireturn, 1) := by decide +kernel
theorem dX6_undo_15 : decode cX6_undo 15 = .ok (.aload_n 0, 1) := by decide +kernel
theorem dX6_undo_16 : decode cX6_undo 16 = .ok (.dup, 1) := by decide +kernel
theorem dX6_undo_17 : decode cX6_undo 17 = .ok (.getfield 40, 3) := by decide +kernel
theorem dX6_undo_20 : decode cX6_undo 20 = .ok (.iconst 1, 1) := by decide +kernel
theorem dX6_undo_21 : decode cX6_undo 21 = .ok (.isub, 1) := by decide +kernel
theorem dX6_undo_22 : decode cX6_undo 22 = .ok (.putfield 40, 3) := by decide +kernel
theorem dX6_undo_25 : decode cX6_undo 25 = .ok (.iconst 0, 1) := by decide +kernel
theorem dX6_undo_26 : decode cX6_undo 26 = .ok (.istore_n 1, 1) := by decide +kernel
theorem dX6_undo_27 : decode cX6_undo 27 = .ok (.iload_n 1, 1) := by decide +kernel
theorem dX6_undo_28 : decode cX6_undo 28 = .ok (.sipush 164, 3) := by decide +kernel
theorem dX6_undo_31 : decode cX6_undo 31 = .ok (.if_icmp .ge 30, 3) := by decide +kernel
theorem dX6_undo_34 : decode cX6_undo 34 = .ok (.aload_n 0, 1) := by decide +kernel
theorem dX6_undo_35 : decode cX6_undo 35 = .ok (.getfield 7, 3) := by decide +kernel
theorem dX6_undo_38 : decode cX6_undo 38 = .ok (.iload_n 1, 1) := by decide +kernel
theorem dX6_undo_39 : decode cX6_undo 39 = .ok (.aload_n 0, 1) := by decide +kernel
theorem dX6_undo_40 : decode cX6_undo 40 = .ok (.getfield 16, 3) := by decide +kernel
theorem dX6_undo_43 : decode cX6_undo 43 = .ok (.sipush 164, 3) := by decide +kernel
theorem dX6_undo_46 : decode cX6_undo 46 = .ok (.aload_n 0, 1) := by decide +kernel
theorem dX6_undo_47 : decode cX6_undo 47 = .ok (.getfield 40, 3) := by decide +kernel
theorem dX6_undo_50 : decode cX6_undo 50 = .ok (.imul, 1) := by decide +kernel
theorem dX6_undo_51 : decode cX6_undo 51 = .ok (.iload_n 1, 1) := by decide +kernel
theorem dX6_undo_52 : decode cX6_undo 52 = .ok (.iadd, 1) := by decide +kernel
theorem dX6_undo_53 : decode cX6_undo 53 = .ok (.iaload, 1) := by decide +kernel
theorem dX6_undo_54 : decode cX6_undo 54 = .ok (.iastore, 1) := by decide +kernel
theorem dX6_undo_55 : decode cX6_undo 55 = .ok (.iinc 1 1, 3) := by decide +kernel
theorem dX6_undo_58 : decode cX6_undo 58 = .ok (.goto (-31), 3) := by decide +kernel
theorem dX6_undo_61 : decode cX6_undo 61 = .ok (.aload_n 0, 1) := by decide +kernel
theorem dX6_undo_62 : decode cX6_undo 62 = .ok (.getfield 40, 3) := by decide +kernel
theorem dX6_undo_65 : decode cX6_undo 65 = .ok (.ireturn, 1) := by decide +kernel
theorem dX6_save_0 : decode cX6_save 0 = .ok (.aload_n 0, 1) := by decide +kernel
theorem dX6_save_1 : decode cX6_save 1 = .ok (.iconst 0, 1) := by decide +kernel
theorem dX6_save_2 : decode cX6_save 2 = .ok (.putfield 32, 3) := by decide +kernel
theorem dX6_save_5 : decode cX6_save 5 = .ok (.iload_n 1, 1) := by decide +kernel
theorem dX6_save_6 : decode cX6_save 6 = .ok (.iconst 0, 1) := by decide +kernel
theorem dX6_save_7 : decode cX6_save 7 = .ok (.iconst 1, 1) := by decide +kernel
theorem dX6_save_8 : decode cX6_save 8 = .ok (.invokestatic 54, 3) := by decide +kernel
theorem dX6_save_11 : decode cX6_save 11 = .ok (.ifCond .ne 6, 3) := by decide +kernel
theorem dX6_save_14 : decode cX6_save 14 = .ok (.bipush (-2), 2) := by decide +kernel
theorem dX6_save_16 : decode cX6_save 16 = .ok (.ireturn, 1) := by decide +kernel
theorem dX6_save_17 : decode cX6_save 17 = .ok (.iconst 0, 1) := by decide +kernel
theorem dX6_save_18 : decode cX6_save 18 = .ok (.istore_n 2, 1) := by decide +kernel
theorem dX6_save_19 : decode cX6_save 19 = .ok (.iload_n 2, 1) := by decide +kernel
theorem dX6_save_20 : decode cX6_save 20 = .ok (.sipush 164, 3) := by decide +kernel
theorem dX6_save_23 : decode cX6_save 23 = .ok (.if_icmp .ge 27, 3) := by decide +kernel
theorem dX6_save_26 : decode cX6_save 26 = .ok (.aload_n 0, 1) := by decide +kernel
theorem dX6_save_27 : decode cX6_save 27 = .ok (.getfield 19, 3) := by decide +kernel
theorem dX6_save_30 : decode cX6_save 30 = .ok (.sipush 164, 3) := by decide +kernel
theorem dX6_save_33 : decode cX6_save 33 = .ok (.iload_n 1, 1) := by decide +kernel
theorem dX6_save_34 : decode cX6_save 34 = .ok (.imul, 1) := by decide +kernel
theorem dX6_save_35 : decode cX6_save 35 = .ok (.iload_n 2, 1) := by decide +kernel
theorem dX6_save_36 : decode cX6_save 36 = .ok (.iadd, 1) := by decide +kernel
theorem dX6_save_37 : decode cX6_save 37 = .ok (.aload_n 0, 1) := by decide +kernel
theorem dX6_save_38 : decode cX6_save 38 = .ok (.getfield 7, 3) := by decide +kernel
theorem dX6_save_41 : decode cX6_save 41 = .ok (.iload_n 2, 1) := by decide +kernel
theorem dX6_save_42 : decode cX6_save 42 = .ok (.iaload, 1) := by decide +kernel
theorem dX6_save_43 : decode cX6_save 43 = .ok (.iastore, 1) := by decide +kernel
theorem dX6_save_44 : decode cX6_save 44 = .ok (.iinc 2 1, 3) := by decide +kernel
theorem dX6_save_47 : decode cX6_save 47 = .ok (.goto (-28), 3) := by decide +kernel
theorem dX6_save_50 : decode cX6_save 50 = .ok (.aload_n 0, 1) := by decide +kernel
theorem dX6_save_51 : decode cX6_save 51 = .ok (.getfield 22, 3) := by decide +kernel
theorem dX6_save_54 : decode cX6_save 54 = .ok (.iload_n 1, 1) := by decide +kernel
theorem dX6_save_55 : decode cX6_save 55 = .ok (.iconst 1, 1) := by decide +kernel
theorem dX6_save_56 : decode cX6_save 56 = .ok (.bastore, 1) := by decide +kernel
theorem dX6_save_57 : decode cX6_save 57 = .ok (.aload_n 0, 1) := by decide +kernel
theorem dX6_save_58 : decode cX6_save 58 = .ok (.getfield 7, 3) := by decide +kernel
theorem dX6_save_61 : decode cX6_save 61 = .ok (.bipush 6, 2) := by decide +kernel
theorem dX6_save_63 : decode cX6_save 63 = .ok (.iaload, 1) := by decide +kernel
theorem dX6_save_64 : decode cX6_save 64 = .ok (.ireturn, 1) := by decide +kernel
theorem dX6_restore_0 : decode cX6_restore 0 = .ok (.aload_n 0, 1) := by decide +kernel
theorem dX6_restore_1 : decode cX6_restore 1 = .ok (.iconst 0, 1) := by decide +kernel
theorem dX6_restore_2 : decode cX6_restore 2 = .ok (.putfield 32, 3) := by decide +kernel
theorem dX6_restore_5 : decode cX6_restore 5 = .ok (.iload_n 1, 1) := by decide +kernel
theorem dX6_restore_6 : decode cX6_restore 6 = .ok (.iconst 0, 1) := by decide +kernel
theorem dX6_restore_7 : decode cX6_restore 7 = .ok (.iconst 1, 1) := by decide +kernel
theorem dX6_restore_8 : decode cX6_restore 8 = .ok (.invokestatic 54, 3) := by decide +kernel
theorem dX6_restore_11 : decode cX6_restore 11 = .ok (.ifCond .ne 6, 3) := by decide +kernel
theorem dX6_restore_14 : decode cX6_restore 14 = .ok (.bipush (-2), 2) := by decide +kernel
theorem dX6_restore_16 : decode cX6_restore 16 = .ok (.ireturn, 1) := by decide +kernel
theorem dX6_restore_17 : decode cX6_restore 17 = .ok (.aload_n 0, 1) := by decide +kernel
theorem dX6_restore_18 : decode cX6_restore 18 = .ok (.getfield 22, 3) := by decide +kernel
theorem dX6_restore_21 : decode cX6_restore 21 = .ok (.iload_n 1, 1) := by decide +kernel
theorem dX6_restore_22 : decode cX6_restore 22 = .ok (.baload, 1) := by decide +kernel
theorem dX6_restore_23 : decode cX6_restore 23 = .ok (.ifCond .ne 6, 3) := by decide +kernel
theorem dX6_restore_26 : decode cX6_restore 26 = .ok (.bipush (-5), 2) := by decide +kernel
theorem dX6_restore_28 : decode cX6_restore 28 = .ok (.ireturn, 1) := by decide +kernel
theorem dX6_restore_29 : decode cX6_restore 29 = .ok (.aload_n 0, 1) := by decide +kernel
theorem dX6_restore_30 : decode cX6_restore 30 = .ok (.invokevirtual 90, 3) := by decide +kernel
theorem dX6_restore_33 : decode cX6_restore 33 = .ok (.iconst 0, 1) := by decide +kernel
theorem dX6_restore_34 : decode cX6_restore 34 = .ok (.istore_n 2, 1) := by decide +kernel
theorem dX6_restore_35 : decode cX6_restore 35 = .ok (.iload_n 2, 1) := by decide +kernel
theorem dX6_restore_36 : decode cX6_restore 36 = .ok (.sipush 164, 3) := by decide +kernel
theorem dX6_restore_39 : decode cX6_restore 39 = .ok (.if_icmp .ge 27, 3) := by decide +kernel
theorem dX6_restore_42 : decode cX6_restore 42 = .ok (.aload_n 0, 1) := by decide +kernel
theorem dX6_restore_43 : decode cX6_restore 43 = .ok (.getfield 7, 3) := by decide +kernel
theorem dX6_restore_46 : decode cX6_restore 46 = .ok (.iload_n 2, 1) := by decide +kernel
theorem dX6_restore_47 : decode cX6_restore 47 = .ok (.aload_n 0, 1) := by decide +kernel
theorem dX6_restore_48 : decode cX6_restore 48 = .ok (.getfield 19, 3) := by decide +kernel
theorem dX6_restore_51 : decode cX6_restore 51 = .ok (.sipush 164, 3) := by decide +kernel
theorem dX6_restore_54 : decode cX6_restore 54 = .ok (.iload_n 1, 1) := by decide +kernel
theorem dX6_restore_55 : decode cX6_restore 55 = .ok (.imul, 1) := by decide +kernel
theorem dX6_restore_56 : decode cX6_restore 56 = .ok (.iload_n 2, 1) := by decide +kernel
theorem dX6_restore_57 : decode cX6_restore 57 = .ok (.iadd, 1) := by decide +kernel
theorem dX6_restore_58 : decode cX6_restore 58 = .ok (.iaload, 1) := by decide +kernel
theorem dX6_restore_59 : decode cX6_restore 59 = .ok (.iastore, 1) := by decide +kernel
theorem dX6_restore_60 : decode cX6_restore 60 = .ok (.iinc 2 1, 3) := by decide +kernel
theorem dX6_restore_63 : decode cX6_restore 63 = .ok (.goto (-28), 3) := by decide +kernel
theorem dX6_restore_66 : decode cX6_restore 66 = .ok (.aload_n 0, 1) := by decide +kernel
theorem dX6_restore_67 : decode cX6_restore 67 = .ok (.getfield 7, 3) := by decide +kernel
theorem dX6_restore_70 : decode cX6_restore 70 = .ok (.bipush 6, 2) := by decide +kernel
theorem dX6_restore_72 : decode cX6_restore 72 = .ok (.iaload, 1) := by decide +kernel
theorem dX6_restore_73 : decode cX6_restore 73 = .ok (.ireturn, 1) := by decide +kernel
end
section
theorem dL_law_0 : decode cL_law 0 = .ok (.new 7, 3) := by decide +kernel
theorem dL_law_3 : decode cL_law 3 = .ok (.dup, 1) := by decide +kernel
theorem dL_law_4 : decode cL_law 4 = .ok (.invokespecial 9, 3) := by decide +kernel
theorem dL_law_7 : decode cL_law 7 = .ok (.astore_n 1, 1) := by decide +kernel
theorem dL_law_8 : decode cL_law 8 = .ok (.new 10, 3) := by decide +kernel
theorem dL_law_11 : decode cL_law 11 = .ok (.dup, 1) := by decide +kernel
theorem dL_law_12 : decode cL_law 12 = .ok (.invokespecial 12, 3) := by decide +kernel
theorem dL_law_15 : decode cL_law 15 = .ok (.astore_n 2, 1) := by decide +kernel
theorem dL_law_16 : decode cL_law 16 = .ok (.iconst 0, 1) := by decide +kernel
theorem dL_law_17 : decode cL_law 17 = .ok (.istore_n 3, 1) := by decide +kernel
theorem dL_law_18 : decode cL_law 18 = .ok (.iload_n 3, 1) := by decide +kernel
theorem dL_law_19 : decode cL_law 19 = .ok (.aload_n 0, 1) := by decide +kernel
theorem dL_law_20 : decode cL_law 20 = .ok (.arraylength, 1) := by decide +kernel
theorem dL_law_21 : decode cL_law 21 = .ok (.iconst 5, 1) := by decide +kernel
theorem dL_law_22 : decode cL_law 22 = .ok (.isub, 1) := by decide +kernel
theorem dL_law_23 : decode cL_law 23 = .ok (.if_icmp .gt 782, 3) := by decide +kernel
theorem dL_law_26 : decode cL_law 26 = .ok (.aload_n 0, 1) := by decide +kernel
theorem dL_law_27 : decode cL_law 27 = .ok (.iload_n 3, 1) := by decide +kernel
theorem dL_law_28 : decode cL_law 28 = .ok (.iaload, 1) := by decide +kernel
theorem dL_law_29 : decode cL_law 29 = .ok (.bipush 31, 2) := by decide +kernel
theorem dL_law_31 : decode cL_law 31 = .ok (.iand, 1) := by decide +kernel
theorem dL_law_32 : decode cL_law 32 = .ok (.tableswitch 767 0 22 #[108, 161, 184, 207, 250, 293, 326, 349, 382, 405, 438, 471, 494, 527, 550, 583, 616, 669, 682, 695, 708, 721, 744], 108) := by decide +kernel
theorem dL_law_140 : decode cL_law 140 = .ok (.aload_n 1, 1) := by decide +kernel
theorem dL_law_141 : decode cL_law 141 = .ok (.aload_n 0, 1) := by decide +kernel
theorem dL_law_142 : decode cL_law 142 = .ok (.iload_n 3, 1) := by decide +kernel
theorem dL_law_143 : decode cL_law 143 = .ok (.iconst 1, 1) := by decide +kernel
theorem dL_law_144 : decode cL_law 144 = .ok (.iadd, 1) := by decide +kernel
theorem dL_law_145 : decode cL_law 145 = .ok (.iaload, 1) := by decide +kernel
theorem dL_law_146 : decode cL_law 146 = .ok (.aload_n 0, 1) := by decide +kernel
theorem dL_law_147 : decode cL_law 147 = .ok (.iload_n 3, 1) := by decide +kernel
theorem dL_law_148 : decode cL_law 148 = .ok (.iconst 2, 1) := by decide +kernel
theorem dL_law_149 : decode cL_law 149 = .ok (.iadd, 1) := by decide +kernel
theorem dL_law_150 : decode cL_law 150 = .ok (.iaload, 1) := by decide +kernel
theorem dL_law_151 : decode cL_law 151 = .ok (.aload_n 0, 1) := by decide +kernel
theorem dL_law_152 : decode cL_law 152 = .ok (.iload_n 3, 1) := by decide +kernel
theorem dL_law_153 : decode cL_law 153 = .ok (.iconst 3, 1) := by decide +kernel
theorem dL_law_154 : decode cL_law 154 = .ok (.iadd, 1) := by decide +kernel
theorem dL_law_155 : decode cL_law 155 = .ok (.iaload, 1) := by decide +kernel
theorem dL_law_156 : decode cL_law 156 = .ok (.aload_n 0, 1) := by decide +kernel
theorem dL_law_157 : decode cL_law 157 = .ok (.iload_n 3, 1) := by decide +kernel
theorem dL_law_158 : decode cL_law 158 = .ok (.iconst 4, 1) := by decide +kernel
theorem dL_law_159 : decode cL_law 159 = .ok (.iadd, 1) := by decide +kernel
theorem dL_law_160 : decode cL_law 160 = .ok (.iaload, 1) := by decide +kernel
theorem dL_law_161 : decode cL_law 161 = .ok (.invokevirtual 13, 3) := by decide +kernel
theorem dL_law_164 : decode cL_law 164 = .ok (.aload_n 2, 1) := by decide +kernel
theorem dL_law_165 : decode cL_law 165 = .ok (.aload_n 0, 1) := by decide +kernel
theorem dL_law_166 : decode cL_law 166 = .ok (.iload_n 3, 1) := by decide +kernel
theorem dL_law_167 : decode cL_law 167 = .ok (.iconst 1, 1) := by decide +kernel
theorem dL_law_168 : decode cL_law 168 = .ok (.iadd, 1) := by decide +kernel
theorem dL_law_169 : decode cL_law 169 = .ok (.iaload, 1) := by decide +kernel
theorem dL_law_170 : decode cL_law 170 = .ok (.aload_n 0, 1) := by decide +kernel
theorem dL_law_171 : decode cL_law 171 = .ok (.iload_n 3, 1) := by decide +kernel
theorem dL_law_172 : decode cL_law 172 = .ok (.iconst 2, 1) := by decide +kernel
theorem dL_law_173 : decode cL_law 173 = .ok (.iadd, 1) := by decide +kernel
theorem dL_law_174 : decode cL_law 174 = .ok (.iaload, 1) := by decide +kernel
theorem dL_law_175 : decode cL_law 175 = .ok (.aload_n 0, 1) := by decide +kernel
theorem dL_law_176 : decode cL_law 176 = .ok (.iload_n 3, 1) := by decide +kernel
theorem dL_law_177 : decode cL_law 177 = .ok (.iconst 3, 1) := by decide +kernel
theorem dL_law_178 : decode cL_law 178 = .ok (.iadd, 1) := by decide +kernel
theorem dL_law_179 : decode cL_law 179 = .ok (.iaload, 1) := by decide +kernel
theorem dL_law_180 : decode cL_law 180 = .ok (.aload_n 0, 1) := by decide +kernel
theorem dL_law_181 : decode cL_law 181 = .ok (.iload_n 3, 1) := by decide +kernel
theorem dL_law_182 : decode cL_law 182 = .ok (.iconst 4, 1) := by decide +kernel
theorem dL_law_183 : decode cL_law 183 = .ok (.iadd, 1) := by decide +kernel
theorem dL_law_184 : decode cL_law 184 = .ok (.iaload, 1) := by decide +kernel
theorem dL_law_185 : decode cL_law 185 = .ok (.invokevirtual 17, 3) := by decide +kernel
theorem dL_law_188 : decode cL_law 188 = .ok (.if_icmp .eq 611, 3) := by decide +kernel
theorem dL_law_191 : decode cL_law 191 = .ok (.iconst 0, 1) := by decide +kernel
theorem dL_law_192 : decode cL_law 192 = .ok (.ireturn, 1) := by decide +kernel
theorem dL_law_193 : decode cL_law 193 = .ok (.aload_n 1, 1) := by decide +kernel
theorem dL_law_194 : decode cL_law 194 = .ok (.aload_n 0, 1) := by decide +kernel
theorem dL_law_195 : decode cL_law 195 = .ok (.iload_n 3, 1) := by decide +kernel
theorem dL_law_196 : decode cL_law 196 = .ok (.iconst 1, 1) := by decide +kernel
theorem dL_law_197 : decode cL_law 197 = .ok (.iadd, 1) := by decide +kernel
theorem dL_law_198 : decode cL_law 198 = .ok (.iaload, 1) := by decide +kernel
theorem dL_law_199 : decode cL_law 199 = .ok (.invokevirtual 18, 3) := by decide +kernel
theorem dL_law_202 : decode cL_law 202 = .ok (.aload_n 2, 1) := by decide +kernel
theorem dL_law_203 : decode cL_law 203 = .ok (.aload_n 0, 1) := by decide +kernel
theorem dL_law_204 : decode cL_law 204 = .ok (.iload_n 3, 1) := by decide +kernel
theorem dL_law_205 : decode cL_law 205 = .ok (.iconst 1, 1) := by decide +kernel
theorem dL_law_206 : decode cL_law 206 = .ok (.iadd, 1) := by decide +kernel
theorem dL_law_207 : decode cL_law 207 = .ok (.iaload, 1) := by decide +kernel
theorem dL_law_208 : decode cL_law 208 = .ok (.invokevirtual 22, 3) := by decide +kernel
theorem dL_law_211 : decode cL_law 211 = .ok (.if_icmp .eq 588, 3) := by decide +kernel
theorem dL_law_214 : decode cL_law 214 = .ok (.iconst 0, 1) := by decide +kernel
theorem dL_law_215 : decode cL_law 215 = .ok (.ireturn, 1) := by decide +kernel
theorem dL_law_216 : decode cL_law 216 = .ok (.aload_n 1, 1) := by decide +kernel
theorem dL_law_217 : decode cL_law 217 = .ok (.aload_n 0, 1) := by decide +kernel
theorem dL_law_218 : decode cL_law 218 = .ok (.iload_n 3, 1) := by decide +kernel
theorem dL_law_219 : decode cL_law 219 = .ok (.iconst 1, 1) := by decide +kernel
theorem dL_law_220 : decode cL_law 220 = .ok (.iadd, 1) := by decide +kernel
theorem dL_law_221 : decode cL_law 221 = .ok (.iaload, 1) := by decide +kernel
theorem dL_law_222 : decode cL_law 222 = .ok (.invokevirtual 23, 3) := by decide +kernel
theorem dL_law_225 : decode cL_law 225 = .ok (.aload_n 2, 1) := by decide +kernel
theorem dL_law_226 : decode cL_law 226 = .ok (.aload_n 0, 1) := by decide +kernel
theorem dL_law_227 : decode cL_law 227 = .ok (.iload_n 3, 1) := by decide +kernel
theorem dL_law_228 : decode cL_law 228 = .ok (.iconst 1, 1) := by decide +kernel
theorem dL_law_229 : decode cL_law 229 = .ok (.iadd, 1) := by decide +kernel
theorem dL_law_230 : decode cL_law 230 = .ok (.iaload, 1) := by decide +kernel
theorem dL_law_231 : decode cL_law 231 = .ok (.invokevirtual 26, 3) := by decide +kernel
theorem dL_law_234 : decode cL_law 234 = .ok (.if_icmp .eq 565, 3) := by decide +kernel
theorem dL_law_237 : decode cL_law 237 = .ok (.iconst 0, 1) := by decide +kernel
theorem dL_law_238 : decode cL_law 238 = .ok (.ireturn, 1) := by decide +kernel
theorem dL_law_239 : decode cL_law 239 = .ok (.aload_n 1, 1) := by decide +kernel
theorem dL_law_240 : decode cL_law 240 = .ok (.aload_n 0, 1) := by decide +kernel
theorem dL_law_241 : decode cL_law 241 = .ok (.iload_n 3, 1) := by decide +kernel
theorem dL_law_242 : decode cL_law 242 = .ok (.iconst 1, 1) := by decide +kernel
theorem dL_law_243 : decode cL_law 243 = .ok (.iadd, 1) := by decide +kernel
theorem dL_law_244 : decode cL_law 244 = .ok (.iaload, 1) := by decide +kernel
theorem dL_law_245 : decode cL_law 245 = .ok (.aload_n 0, 1) := by decide +kernel
theorem dL_law_246 : decode cL_law 246 = .ok (.iload_n 3, 1) := by decide +kernel
theorem dL_law_247 : decode cL_law 247 = .ok (.iconst 2, 1) := by decide +kernel
theorem dL_law_248 : decode cL_law 248 = .ok (.iadd, 1) := by decide +kernel
theorem dL_law_249 : decode cL_law 249 = .ok (.iaload, 1) := by decide +kernel
theorem dL_law_250 : decode cL_law 250 = .ok (.aload_n 0, 1) := by decide +kernel
theorem dL_law_251 : decode cL_law 251 = .ok (.iload_n 3, 1) := by decide +kernel
theorem dL_law_252 : decode cL_law 252 = .ok (.iconst 3, 1) := by decide +kernel
theorem dL_law_253 : decode cL_law 253 = .ok (.iadd, 1) := by decide +kernel
theorem dL_law_254 : decode cL_law 254 = .ok (.iaload, 1) := by decide +kernel
theorem dL_law_255 : decode cL_law 255 = .ok (.invokevirtual 27, 3) := by decide +kernel
theorem dL_law_258 : decode cL_law 258 = .ok (.aload_n 2, 1) := by decide +kernel
theorem dL_law_259 : decode cL_law 259 = .ok (.aload_n 0, 1) := by decide +kernel
theorem dL_law_260 : decode cL_law 260 = .ok (.iload_n 3, 1) := by decide +kernel
theorem dL_law_261 : decode cL_law 261 = .ok (.iconst 1, 1) := by decide +kernel
theorem dL_law_262 : decode cL_law 262 = .ok (.iadd, 1) := by decide +kernel
theorem dL_law_263 : decode cL_law 263 = .ok (.iaload, 1) := by decide +kernel
theorem dL_law_264 : decode cL_law 264 = .ok (.aload_n 0, 1) := by decide +kernel
theorem dL_law_265 : decode cL_law 265 = .ok (.iload_n 3, 1) := by decide +kernel
theorem dL_law_266 : decode cL_law 266 = .ok (.iconst 2, 1) := by decide +kernel
theorem dL_law_267 : decode cL_law 267 = .ok (.iadd, 1) := by decide +kernel
theorem dL_law_268 : decode cL_law 268 = .ok (.iaload, 1) := by decide +kernel
theorem dL_law_269 : decode cL_law 269 = .ok (.aload_n 0, 1) := by decide +kernel
theorem dL_law_270 : decode cL_law 270 = .ok (.iload_n 3, 1) := by decide +kernel
theorem dL_law_271 : decode cL_law 271 = .ok (.iconst 3, 1) := by decide +kernel
theorem dL_law_272 : decode cL_law 272 = .ok (.iadd, 1) := by decide +kernel
theorem dL_law_273 : decode cL_law 273 = .ok (.iaload, 1) := by decide +kernel
theorem dL_law_274 : decode cL_law 274 = .ok (.invokevirtual 31, 3) := by decide +kernel
theorem dL_law_277 : decode cL_law 277 = .ok (.if_icmp .eq 522, 3) := by decide +kernel
theorem dL_law_280 : decode cL_law 280 = .ok (.iconst 0, 1) := by decide +kernel
theorem dL_law_281 : decode cL_law 281 = .ok (.ireturn, 1) := by decide +kernel
theorem dL_law_282 : decode cL_law 282 = .ok (.aload_n 1, 1) := by decide +kernel
theorem dL_law_283 : decode cL_law 283 = .ok (.aload_n 0, 1) := by decide +kernel
theorem dL_law_284 : decode cL_law 284 = .ok (.iload_n 3, 1) := by decide +kernel
theorem dL_law_285 : decode cL_law 285 = .ok (.iconst 1, 1) := by decide +kernel
theorem dL_law_286 : decode cL_law 286 = .ok (.iadd, 1) := by decide +kernel
theorem dL_law_287 : decode cL_law 287 = .ok (.iaload, 1) := by decide +kernel
theorem dL_law_288 : decode cL_law 288 = .ok (.aload_n 0, 1) := by decide +kernel
theorem dL_law_289 : decode cL_law 289 = .ok (.iload_n 3, 1) := by decide +kernel
theorem dL_law_290 : decode cL_law 290 = .ok (.iconst 2, 1) := by decide +kernel
theorem dL_law_291 : decode cL_law 291 = .ok (.iadd, 1) := by decide +kernel
theorem dL_law_292 : decode cL_law 292 = .ok (.iaload, 1) := by decide +kernel
theorem dL_law_293 : decode cL_law 293 = .ok (.aload_n 0, 1) := by decide +kernel
theorem dL_law_294 : decode cL_law 294 = .ok (.iload_n 3, 1) := by decide +kernel
theorem dL_law_295 : decode cL_law 295 = .ok (.iconst 3, 1) := by decide +kernel
theorem dL_law_296 : decode cL_law 296 = .ok (.iadd, 1) := by decide +kernel
theorem dL_law_297 : decode cL_law 297 = .ok (.iaload, 1) := by decide +kernel
theorem dL_law_298 : decode cL_law 298 = .ok (.invokevirtual 32, 3) := by decide +kernel
theorem dL_law_301 : decode cL_law 301 = .ok (.aload_n 2, 1) := by decide +kernel
theorem dL_law_302 : decode cL_law 302 = .ok (.aload_n 0, 1) := by decide +kernel
theorem dL_law_303 : decode cL_law 303 = .ok (.iload_n 3, 1) := by decide +kernel
theorem dL_law_304 : decode cL_law 304 = .ok (.iconst 1, 1) := by decide +kernel
theorem dL_law_305 : decode cL_law 305 = .ok (.iadd, 1) := by decide +kernel
theorem dL_law_306 : decode cL_law 306 = .ok (.iaload, 1) := by decide +kernel
theorem dL_law_307 : decode cL_law 307 = .ok (.aload_n 0, 1) := by decide +kernel
theorem dL_law_308 : decode cL_law 308 = .ok (.iload_n 3, 1) := by decide +kernel
theorem dL_law_309 : decode cL_law 309 = .ok (.iconst 2, 1) := by decide +kernel
theorem dL_law_310 : decode cL_law 310 = .ok (.iadd, 1) := by decide +kernel
theorem dL_law_311 : decode cL_law 311 = .ok (.iaload, 1) := by decide +kernel
theorem dL_law_312 : decode cL_law 312 = .ok (.aload_n 0, 1) := by decide +kernel
theorem dL_law_313 : decode cL_law 313 = .ok (.iload_n 3, 1) := by decide +kernel
theorem dL_law_314 : decode cL_law 314 = .ok (.iconst 3, 1) := by decide +kernel
theorem dL_law_315 : decode cL_law 315 = .ok (.iadd, 1) := by decide +kernel
theorem dL_law_316 : decode cL_law 316 = .ok (.iaload, 1) := by decide +kernel
theorem dL_law_317 : decode cL_law 317 = .ok (.invokevirtual 35, 3) := by decide +kernel
theorem dL_law_320 : decode cL_law 320 = .ok (.if_icmp .eq 479, 3) := by decide +kernel
theorem dL_law_323 : decode cL_law 323 = .ok (.iconst 0, 1) := by decide +kernel
theorem dL_law_324 : decode cL_law 324 = .ok (.ireturn, 1) := by decide +kernel
theorem dL_law_325 : decode cL_law 325 = .ok (.aload_n 1, 1) := by decide +kernel
theorem dL_law_326 : decode cL_law 326 = .ok (.aload_n 0, 1) := by decide +kernel
theorem dL_law_327 : decode cL_law 327 = .ok (.iload_n 3, 1) := by decide +kernel
theorem dL_law_328 : decode cL_law 328 = .ok (.iconst 1, 1) := by decide +kernel
theorem dL_law_329 : decode cL_law 329 = .ok (.iadd, 1) := by decide +kernel
theorem dL_law_330 : decode cL_law 330 = .ok (.iaload, 1) := by decide +kernel
theorem dL_law_331 : decode cL_law 331 = .ok (.aload_n 0, 1) := by decide +kernel
theorem dL_law_332 : decode cL_law 332 = .ok (.iload_n 3, 1) := by decide +kernel
theorem dL_law_333 : decode cL_law 333 = .ok (.iconst 2, 1) := by decide +kernel
theorem dL_law_334 : decode cL_law 334 = .ok (.iadd, 1) := by decide +kernel
theorem dL_law_335 : decode cL_law 335 = .ok (.iaload, 1) := by decide +kernel
theorem dL_law_336 : decode cL_law 336 = .ok (.invokevirtual 36, 3) := by decide +kernel
theorem dL_law_339 : decode cL_law 339 = .ok (.aload_n 2, 1) := by decide +kernel
theorem dL_law_340 : decode cL_law 340 = .ok (.aload_n 0, 1) := by decide +kernel
theorem dL_law_341 : decode cL_law 341 = .ok (.iload_n 3, 1) := by decide +kernel
theorem dL_law_342 : decode cL_law 342 = .ok (.iconst 1, 1) := by decide +kernel
theorem dL_law_343 : decode cL_law 343 = .ok (.iadd, 1) := by decide +kernel
theorem dL_law_344 : decode cL_law 344 = .ok (.iaload, 1) := by decide +kernel
theorem dL_law_345 : decode cL_law 345 = .ok (.aload_n 0, 1) := by decide +kernel
theorem dL_law_346 : decode cL_law 346 = .ok (.iload_n 3, 1) := by decide +kernel
theorem dL_law_347 : decode cL_law 347 = .ok (.iconst 2, 1) := by decide +kernel
theorem dL_law_348 : decode cL_law 348 = .ok (.iadd, 1) := by decide +kernel
theorem dL_law_349 : decode cL_law 349 = .ok (.iaload, 1) := by decide +kernel
theorem dL_law_350 : decode cL_law 350 = .ok (.invokevirtual 40, 3) := by decide +kernel
theorem dL_law_353 : decode cL_law 353 = .ok (.if_icmp .eq 446, 3) := by decide +kernel
theorem dL_law_356 : decode cL_law 356 = .ok (.iconst 0, 1) := by decide +kernel
theorem dL_law_357 : decode cL_law 357 = .ok (.ireturn, 1) := by decide +kernel
theorem dL_law_358 : decode cL_law 358 = .ok (.aload_n 1, 1) := by decide +kernel
theorem dL_law_359 : decode cL_law 359 = .ok (.aload_n 0, 1) := by decide +kernel
theorem dL_law_360 : decode cL_law 360 = .ok (.iload_n 3, 1) := by decide +kernel
theorem dL_law_361 : decode cL_law 361 = .ok (.iconst 1, 1) := by decide +kernel
theorem dL_law_362 : decode cL_law 362 = .ok (.iadd, 1) := by decide +kernel
theorem dL_law_363 : decode cL_law 363 = .ok (.iaload, 1) := by decide +kernel
theorem dL_law_364 : decode cL_law 364 = .ok (.invokevirtual 41, 3) := by decide +kernel
theorem dL_law_367 : decode cL_law 367 = .ok (.aload_n 2, 1) := by decide +kernel
theorem dL_law_368 : decode cL_law 368 = .ok (.aload_n 0, 1) := by decide +kernel
theorem dL_law_369 : decode cL_law 369 = .ok (.iload_n 3, 1) := by decide +kernel
theorem dL_law_370 : decode cL_law 370 = .ok (.iconst 1, 1) := by decide +kernel
theorem dL_law_371 : decode cL_law 371 = .ok (.iadd, 1) := by decide +kernel
theorem dL_law_372 : decode cL_law 372 = .ok (.iaload, 1) := by decide +kernel
theorem dL_law_373 : decode cL_law 373 = .ok (.invokevirtual 44, 3) := by decide +kernel
theorem dL_law_376 : decode cL_law 376 = .ok (.if_icmp .eq 423, 3) := by decide +kernel
theorem dL_law_379 : decode cL_law 379 = .ok (.iconst 0, 1) := by decide +kernel
theorem dL_law_380 : decode cL_law 380 = .ok (.ireturn, 1) := by decide +kernel
theorem dL_law_381 : decode cL_law 381 = .ok (.aload_n 1, 1) := by decide +kernel
theorem dL_law_382 : decode cL_law 382 = .ok (.aload_n 0, 1) := by decide +kernel
theorem dL_law_383 : decode cL_law 383 = .ok (.iload_n 3, 1) := by decide +kernel
theorem dL_law_384 : decode cL_law 384 = .ok (.iconst 1, 1) := by decide +kernel
theorem dL_law_385 : decode cL_law 385 = .ok (.iadd, 1) := by decide +kernel
theorem dL_law_386 : decode cL_law 386 = .ok (.iaload, 1) := by decide +kernel
theorem dL_law_387 : decode cL_law 387 = .ok (.aload_n 0, 1) := by decide +kernel
theorem dL_law_388 : decode cL_law 388 = .ok (.iload_n 3, 1) := by decide +kernel
theorem dL_law_389 : decode cL_law 389 = .ok (.iconst 2, 1) := by decide +kernel
theorem dL_law_390 : decode cL_law 390 = .ok (.iadd, 1) := by decide +kernel
theorem dL_law_391 : decode cL_law 391 = .ok (.iaload, 1) := by decide +kernel
theorem dL_law_392 : decode cL_law 392 = .ok (.invokevirtual 45, 3) := by decide +kernel
theorem dL_law_395 : decode cL_law 395 = .ok (.aload_n 2, 1) := by decide +kernel
theorem dL_law_396 : decode cL_law 396 = .ok (.aload_n 0, 1) := by decide +kernel
theorem dL_law_397 : decode cL_law 397 = .ok (.iload_n 3, 1) := by decide +kernel
theorem dL_law_398 : decode cL_law 398 = .ok (.iconst 1, 1) := by decide +kernel
theorem dL_law_399 : decode cL_law 399 = .ok (.iadd, 1) := by decide +kernel
theorem dL_law_400 : decode cL_law 400 = .ok (.iaload, 1) := by decide +kernel
theorem dL_law_401 : decode cL_law 401 = .ok (.aload_n 0, 1) := by decide +kernel
theorem dL_law_402 : decode cL_law 402 = .ok (.iload_n 3, 1) := by decide +kernel
theorem dL_law_403 : decode cL_law 403 = .ok (.iconst 2, 1) := by decide +kernel
theorem dL_law_404 : decode cL_law 404 = .ok (.iadd, 1) := by decide +kernel
theorem dL_law_405 : decode cL_law 405 = .ok (.iaload, 1) := by decide +kernel
theorem dL_law_406 : decode cL_law 406 = .ok (.invokevirtual 48, 3) := by decide +kernel
theorem dL_law_409 : decode cL_law 409 = .ok (.if_icmp .eq 390, 3) := by decide +kernel
theorem dL_law_412 : decode cL_law 412 = .ok (.iconst 0, 1) := by decide +kernel
theorem dL_law_413 : decode cL_law 413 = .ok (.ireturn, 1) := by decide +kernel
theorem dL_law_414 : decode cL_law 414 = .ok (.aload_n 1, 1) := by decide +kernel
theorem dL_law_415 : decode cL_law 415 = .ok (.aload_n 0, 1) := by decide +kernel
theorem dL_law_416 : decode cL_law 416 = .ok (.iload_n 3, 1) := by decide +kernel
theorem dL_law_417 : decode cL_law 417 = .ok (.iconst 1, 1) := by decide +kernel
theorem dL_law_418 : decode cL_law 418 = .ok (.iadd, 1) := by decide +kernel
theorem dL_law_419 : decode cL_law 419 = .ok (.iaload, 1) := by decide +kernel
theorem dL_law_420 : decode cL_law 420 = .ok (.invokevirtual 49, 3) := by decide +kernel
theorem dL_law_423 : decode cL_law 423 = .ok (.aload_n 2, 1) := by decide +kernel
theorem dL_law_424 : decode cL_law 424 = .ok (.aload_n 0, 1) := by decide +kernel
theorem dL_law_425 : decode cL_law 425 = .ok (.iload_n 3, 1) := by decide +kernel
theorem dL_law_426 : decode cL_law 426 = .ok (.iconst 1, 1) := by decide +kernel
theorem dL_law_427 : decode cL_law 427 = .ok (.iadd, 1) := by decide +kernel
theorem dL_law_428 : decode cL_law 428 = .ok (.iaload, 1) := by decide +kernel
theorem dL_law_429 : decode cL_law 429 = .ok (.invokevirtual 52, 3) := by decide +kernel
theorem dL_law_432 : decode cL_law 432 = .ok (.if_icmp .eq 367, 3) := by decide +kernel
theorem dL_law_435 : decode cL_law 435 = .ok (.iconst 0, 1) := by decide +kernel
theorem dL_law_436 : decode cL_law 436 = .ok (.ireturn, 1) := by decide +kernel
theorem dL_law_437 : decode cL_law 437 = .ok (.aload_n 1, 1) := by decide +kernel
theorem dL_law_438 : decode cL_law 438 = .ok (.aload_n 0, 1) := by decide +kernel
theorem dL_law_439 : decode cL_law 439 = .ok (.iload_n 3, 1) := by decide +kernel
theorem dL_law_440 : decode cL_law 440 = .ok (.iconst 1, 1) := by decide +kernel
theorem dL_law_441 : decode cL_law 441 = .ok (.iadd, 1) := by decide +kernel
theorem dL_law_442 : decode cL_law 442 = .ok (.iaload, 1) := by decide +kernel
theorem dL_law_443 : decode cL_law 443 = .ok (.aload_n 0, 1) := by decide +kernel
theorem dL_law_444 : decode cL_law 444 = .ok (.iload_n 3, 1) := by decide +kernel
theorem dL_law_445 : decode cL_law 445 = .ok (.iconst 2, 1) := by decide +kernel
theorem dL_law_446 : decode cL_law 446 = .ok (.iadd, 1) := by decide +kernel
theorem dL_law_447 : decode cL_law 447 = .ok (.iaload, 1) := by decide +kernel
theorem dL_law_448 : decode cL_law 448 = .ok (.invokevirtual 53, 3) := by decide +kernel
theorem dL_law_451 : decode cL_law 451 = .ok (.aload_n 2, 1) := by decide +kernel
theorem dL_law_452 : decode cL_law 452 = .ok (.aload_n 0, 1) := by decide +kernel
theorem dL_law_453 : decode cL_law 453 = .ok (.iload_n 3, 1) := by decide +kernel
theorem dL_law_454 : decode cL_law 454 = .ok (.iconst 1, 1) := by decide +kernel
theorem dL_law_455 : decode cL_law 455 = .ok (.iadd, 1) := by decide +kernel
theorem dL_law_456 : decode cL_law 456 = .ok (.iaload, 1) := by decide +kernel
theorem dL_law_457 : decode cL_law 457 = .ok (.aload_n 0, 1) := by decide +kernel
theorem dL_law_458 : decode cL_law 458 = .ok (.iload_n 3, 1) := by decide +kernel
theorem dL_law_459 : decode cL_law 459 = .ok (.iconst 2, 1) := by decide +kernel
theorem dL_law_460 : decode cL_law 460 = .ok (.iadd, 1) := by decide +kernel
theorem dL_law_461 : decode cL_law 461 = .ok (.iaload, 1) := by decide +kernel
theorem dL_law_462 : decode cL_law 462 = .ok (.invokevirtual 56, 3) := by decide +kernel
theorem dL_law_465 : decode cL_law 465 = .ok (.if_icmp .eq 334, 3) := by decide +kernel
theorem dL_law_468 : decode cL_law 468 = .ok (.iconst 0, 1) := by decide +kernel
theorem dL_law_469 : decode cL_law 469 = .ok (.ireturn, 1) := by decide +kernel
theorem dL_law_470 : decode cL_law 470 = .ok (.aload_n 1, 1) := by decide +kernel
theorem dL_law_471 : decode cL_law 471 = .ok (.aload_n 0, 1) := by decide +kernel
theorem dL_law_472 : decode cL_law 472 = .ok (.iload_n 3, 1) := by decide +kernel
theorem dL_law_473 : decode cL_law 473 = .ok (.iconst 1, 1) := by decide +kernel
theorem dL_law_474 : decode cL_law 474 = .ok (.iadd, 1) := by decide +kernel
theorem dL_law_475 : decode cL_law 475 = .ok (.iaload, 1) := by decide +kernel
theorem dL_law_476 : decode cL_law 476 = .ok (.aload_n 0, 1) := by decide +kernel
theorem dL_law_477 : decode cL_law 477 = .ok (.iload_n 3, 1) := by decide +kernel
theorem dL_law_478 : decode cL_law 478 = .ok (.iconst 2, 1) := by decide +kernel
theorem dL_law_479 : decode cL_law 479 = .ok (.iadd, 1) := by decide +kernel
theorem dL_law_480 : decode cL_law 480 = .ok (.iaload, 1) := by decide +kernel
theorem dL_law_481 : decode cL_law 481 = .ok (.invokevirtual 57, 3) := by decide +kernel
theorem dL_law_484 : decode cL_law 484 = .ok (.aload_n 2, 1) := by decide +kernel
theorem dL_law_485 : decode cL_law 485 = .ok (.aload_n 0, 1) := by decide +kernel
theorem dL_law_486 : decode cL_law 486 = .ok (.iload_n 3, 1) := by decide +kernel
theorem dL_law_487 : decode cL_law 487 = .ok (.iconst 1, 1) := by decide +kernel
theorem dL_law_488 : decode cL_law 488 = .ok (.iadd, 1) := by decide +kernel
theorem dL_law_489 : decode cL_law 489 = .ok (.iaload, 1) := by decide +kernel
theorem dL_law_490 : decode cL_law 490 = .ok (.aload_n 0, 1) := by decide +kernel
theorem dL_law_491 : decode cL_law 491 = .ok (.iload_n 3, 1) := by decide +kernel
theorem dL_law_492 : decode cL_law 492 = .ok (.iconst 2, 1) := by decide +kernel
theorem dL_law_493 : decode cL_law 493 = .ok (.iadd, 1) := by decide +kernel
theorem dL_law_494 : decode cL_law 494 = .ok (.iaload, 1) := by decide +kernel
theorem dL_law_495 : decode cL_law 495 = .ok (.invokevirtual 60, 3) := by decide +kernel
theorem dL_law_498 : decode cL_law 498 = .ok (.if_icmp .eq 301, 3) := by decide +kernel
theorem dL_law_501 : decode cL_law 501 = .ok (.iconst 0, 1) := by decide +kernel
theorem dL_law_502 : decode cL_law 502 = .ok (.ireturn, 1) := by decide +kernel
theorem dL_law_503 : decode cL_law 503 = .ok (.aload_n 1, 1) := by decide +kernel
theorem dL_law_504 : decode cL_law 504 = .ok (.aload_n 0, 1) := by decide +kernel
theorem dL_law_505 : decode cL_law 505 = .ok (.iload_n 3, 1) := by decide +kernel
theorem dL_law_506 : decode cL_law 506 = .ok (.iconst 1, 1) := by decide +kernel
theorem dL_law_507 : decode cL_law 507 = .ok (.iadd, 1) := by decide +kernel
theorem dL_law_508 : decode cL_law 508 = .ok (.iaload, 1) := by decide +kernel
theorem dL_law_509 : decode cL_law 509 = .ok (.invokevirtual 61, 3) := by decide +kernel
theorem dL_law_512 : decode cL_law 512 = .ok (.aload_n 2, 1) := by decide +kernel
theorem dL_law_513 : decode cL_law 513 = .ok (.aload_n 0, 1) := by decide +kernel
theorem dL_law_514 : decode cL_law 514 = .ok (.iload_n 3, 1) := by decide +kernel
theorem dL_law_515 : decode cL_law 515 = .ok (.iconst 1, 1) := by decide +kernel
theorem dL_law_516 : decode cL_law 516 = .ok (.iadd, 1) := by decide +kernel
theorem dL_law_517 : decode cL_law 517 = .ok (.iaload, 1) := by decide +kernel
theorem dL_law_518 : decode cL_law 518 = .ok (.invokevirtual 64, 3) := by decide +kernel
theorem dL_law_521 : decode cL_law 521 = .ok (.if_icmp .eq 278, 3) := by decide +kernel
theorem dL_law_524 : decode cL_law 524 = .ok (.iconst 0, 1) := by decide +kernel
theorem dL_law_525 : decode cL_law 525 = .ok (.ireturn, 1) := by decide +kernel
theorem dL_law_526 : decode cL_law 526 = .ok (.aload_n 1, 1) := by decide +kernel
theorem dL_law_527 : decode cL_law 527 = .ok (.aload_n 0, 1) := by decide +kernel
theorem dL_law_528 : decode cL_law 528 = .ok (.iload_n 3, 1) := by decide +kernel
theorem dL_law_529 : decode cL_law 529 = .ok (.iconst 1, 1) := by decide +kernel
theorem dL_law_530 : decode cL_law 530 = .ok (.iadd, 1) := by decide +kernel
theorem dL_law_531 : decode cL_law 531 = .ok (.iaload, 1) := by decide +kernel
theorem dL_law_532 : decode cL_law 532 = .ok (.aload_n 0, 1) := by decide +kernel
theorem dL_law_533 : decode cL_law 533 = .ok (.iload_n 3, 1) := by decide +kernel
theorem dL_law_534 : decode cL_law 534 = .ok (.iconst 2, 1) := by decide +kernel
theorem dL_law_535 : decode cL_law 535 = .ok (.iadd, 1) := by decide +kernel
theorem dL_law_536 : decode cL_law 536 = .ok (.iaload, 1) := by decide +kernel
theorem dL_law_537 : decode cL_law 537 = .ok (.invokevirtual 65, 3) := by decide +kernel
theorem dL_law_540 : decode cL_law 540 = .ok (.aload_n 2, 1) := by decide +kernel
theorem dL_law_541 : decode cL_law 541 = .ok (.aload_n 0, 1) := by decide +kernel
theorem dL_law_542 : decode cL_law 542 = .ok (.iload_n 3, 1) := by decide +kernel
theorem dL_law_543 : decode cL_law 543 = .ok (.iconst 1, 1) := by decide +kernel
theorem dL_law_544 : decode cL_law 544 = .ok (.iadd, 1) := by decide +kernel
theorem dL_law_545 : decode cL_law 545 = .ok (.iaload, 1) := by decide +kernel
theorem dL_law_546 : decode cL_law 546 = .ok (.aload_n 0, 1) := by decide +kernel
theorem dL_law_547 : decode cL_law 547 = .ok (.iload_n 3, 1) := by decide +kernel
theorem dL_law_548 : decode cL_law 548 = .ok (.iconst 2, 1) := by decide +kernel
theorem dL_law_549 : decode cL_law 549 = .ok (.iadd, 1) := by decide +kernel
theorem dL_law_550 : decode cL_law 550 = .ok (.iaload, 1) := by decide +kernel
theorem dL_law_551 : decode cL_law 551 = .ok (.invokevirtual 68, 3) := by decide +kernel
theorem dL_law_554 : decode cL_law 554 = .ok (.if_icmp .eq 245, 3) := by decide +kernel
theorem dL_law_557 : decode cL_law 557 = .ok (.iconst 0, 1) := by decide +kernel
theorem dL_law_558 : decode cL_law 558 = .ok (.ireturn, 1) := by decide +kernel
theorem dL_law_559 : decode cL_law 559 = .ok (.aload_n 1, 1) := by decide +kernel
theorem dL_law_560 : decode cL_law 560 = .ok (.aload_n 0, 1) := by decide +kernel
theorem dL_law_561 : decode cL_law 561 = .ok (.iload_n 3, 1) := by decide +kernel
theorem dL_law_562 : decode cL_law 562 = .ok (.iconst 1, 1) := by decide +kernel
theorem dL_law_563 : decode cL_law 563 = .ok (.iadd, 1) := by decide +kernel
theorem dL_law_564 : decode cL_law 564 = .ok (.iaload, 1) := by decide +kernel
theorem dL_law_565 : decode cL_law 565 = .ok (.invokevirtual 69, 3) := by decide +kernel
theorem dL_law_568 : decode cL_law 568 = .ok (.aload_n 2, 1) := by decide +kernel
theorem dL_law_569 : decode cL_law 569 = .ok (.aload_n 0, 1) := by decide +kernel
theorem dL_law_570 : decode cL_law 570 = .ok (.iload_n 3, 1) := by decide +kernel
theorem dL_law_571 : decode cL_law 571 = .ok (.iconst 1, 1) := by decide +kernel
theorem dL_law_572 : decode cL_law 572 = .ok (.iadd, 1) := by decide +kernel
theorem dL_law_573 : decode cL_law 573 = .ok (.iaload, 1) := by decide +kernel
theorem dL_law_574 : decode cL_law 574 = .ok (.invokevirtual 72, 3) := by decide +kernel
theorem dL_law_577 : decode cL_law 577 = .ok (.if_icmp .eq 222, 3) := by decide +kernel
theorem dL_law_580 : decode cL_law 580 = .ok (.iconst 0, 1) := by decide +kernel
theorem dL_law_581 : decode cL_law 581 = .ok (.ireturn, 1) := by decide +kernel
theorem dL_law_582 : decode cL_law 582 = .ok (.aload_n 1, 1) := by decide +kernel
theorem dL_law_583 : decode cL_law 583 = .ok (.aload_n 0, 1) := by decide +kernel
theorem dL_law_584 : decode cL_law 584 = .ok (.iload_n 3, 1) := by decide +kernel
theorem dL_law_585 : decode cL_law 585 = .ok (.iconst 1, 1) := by decide +kernel
theorem dL_law_586 : decode cL_law 586 = .ok (.iadd, 1) := by decide +kernel
theorem dL_law_587 : decode cL_law 587 = .ok (.iaload, 1) := by decide +kernel
theorem dL_law_588 : decode cL_law 588 = .ok (.aload_n 0, 1) := by decide +kernel
theorem dL_law_589 : decode cL_law 589 = .ok (.iload_n 3, 1) := by decide +kernel
theorem dL_law_590 : decode cL_law 590 = .ok (.iconst 2, 1) := by decide +kernel
theorem dL_law_591 : decode cL_law 591 = .ok (.iadd, 1) := by decide +kernel
theorem dL_law_592 : decode cL_law 592 = .ok (.iaload, 1) := by decide +kernel
theorem dL_law_593 : decode cL_law 593 = .ok (.invokevirtual 73, 3) := by decide +kernel
theorem dL_law_596 : decode cL_law 596 = .ok (.aload_n 2, 1) := by decide +kernel
theorem dL_law_597 : decode cL_law 597 = .ok (.aload_n 0, 1) := by decide +kernel
theorem dL_law_598 : decode cL_law 598 = .ok (.iload_n 3, 1) := by decide +kernel
theorem dL_law_599 : decode cL_law 599 = .ok (.iconst 1, 1) := by decide +kernel
theorem dL_law_600 : decode cL_law 600 = .ok (.iadd, 1) := by decide +kernel
theorem dL_law_601 : decode cL_law 601 = .ok (.iaload, 1) := by decide +kernel
theorem dL_law_602 : decode cL_law 602 = .ok (.aload_n 0, 1) := by decide +kernel
theorem dL_law_603 : decode cL_law 603 = .ok (.iload_n 3, 1) := by decide +kernel
theorem dL_law_604 : decode cL_law 604 = .ok (.iconst 2, 1) := by decide +kernel
theorem dL_law_605 : decode cL_law 605 = .ok (.iadd, 1) := by decide +kernel
theorem dL_law_606 : decode cL_law 606 = .ok (.iaload, 1) := by decide +kernel
theorem dL_law_607 : decode cL_law 607 = .ok (.invokevirtual 76, 3) := by decide +kernel
theorem dL_law_610 : decode cL_law 610 = .ok (.if_icmp .eq 189, 3) := by decide +kernel
theorem dL_law_613 : decode cL_law 613 = .ok (.iconst 0, 1) := by decide +kernel
theorem dL_law_614 : decode cL_law 614 = .ok (.ireturn, 1) := by decide +kernel
theorem dL_law_615 : decode cL_law 615 = .ok (.aload_n 1, 1) := by decide +kernel
theorem dL_law_616 : decode cL_law 616 = .ok (.aload_n 0, 1) := by decide +kernel
theorem dL_law_617 : decode cL_law 617 = .ok (.iload_n 3, 1) := by decide +kernel
theorem dL_law_618 : decode cL_law 618 = .ok (.iconst 1, 1) := by decide +kernel
theorem dL_law_619 : decode cL_law 619 = .ok (.iadd, 1) := by decide +kernel
theorem dL_law_620 : decode cL_law 620 = .ok (.iaload, 1) := by decide +kernel
theorem dL_law_621 : decode cL_law 621 = .ok (.aload_n 0, 1) := by decide +kernel
theorem dL_law_622 : decode cL_law 622 = .ok (.iload_n 3, 1) := by decide +kernel
theorem dL_law_623 : decode cL_law 623 = .ok (.iconst 2, 1) := by decide +kernel
theorem dL_law_624 : decode cL_law 624 = .ok (.iadd, 1) := by decide +kernel
theorem dL_law_625 : decode cL_law 625 = .ok (.iaload, 1) := by decide +kernel
theorem dL_law_626 : decode cL_law 626 = .ok (.invokevirtual 77, 3) := by decide +kernel
theorem dL_law_629 : decode cL_law 629 = .ok (.aload_n 2, 1) := by decide +kernel
theorem dL_law_630 : decode cL_law 630 = .ok (.aload_n 0, 1) := by decide +kernel
theorem dL_law_631 : decode cL_law 631 = .ok (.iload_n 3, 1) := by decide +kernel
theorem dL_law_632 : decode cL_law 632 = .ok (.iconst 1, 1) := by decide +kernel
theorem dL_law_633 : decode cL_law 633 = .ok (.iadd, 1) := by decide +kernel
theorem dL_law_634 : decode cL_law 634 = .ok (.iaload, 1) := by decide +kernel
theorem dL_law_635 : decode cL_law 635 = .ok (.aload_n 0, 1) := by decide +kernel
theorem dL_law_636 : decode cL_law 636 = .ok (.iload_n 3, 1) := by decide +kernel
theorem dL_law_637 : decode cL_law 637 = .ok (.iconst 2, 1) := by decide +kernel
theorem dL_law_638 : decode cL_law 638 = .ok (.iadd, 1) := by decide +kernel
theorem dL_law_639 : decode cL_law 639 = .ok (.iaload, 1) := by decide +kernel
theorem dL_law_640 : decode cL_law 640 = .ok (.invokevirtual 80, 3) := by decide +kernel
theorem dL_law_643 : decode cL_law 643 = .ok (.if_icmp .eq 156, 3) := by decide +kernel
theorem dL_law_646 : decode cL_law 646 = .ok (.iconst 0, 1) := by decide +kernel
theorem dL_law_647 : decode cL_law 647 = .ok (.ireturn, 1) := by decide +kernel
theorem dL_law_648 : decode cL_law 648 = .ok (.aload_n 1, 1) := by decide +kernel
theorem dL_law_649 : decode cL_law 649 = .ok (.aload_n 0, 1) := by decide +kernel
theorem dL_law_650 : decode cL_law 650 = .ok (.iload_n 3, 1) := by decide +kernel
theorem dL_law_651 : decode cL_law 651 = .ok (.iconst 1, 1) := by decide +kernel
theorem dL_law_652 : decode cL_law 652 = .ok (.iadd, 1) := by decide +kernel
theorem dL_law_653 : decode cL_law 653 = .ok (.iaload, 1) := by decide +kernel
theorem dL_law_654 : decode cL_law 654 = .ok (.i2l, 1) := by decide +kernel
theorem dL_law_655 : decode cL_law 655 = .ok (.bipush 32, 2) := by decide +kernel
theorem dL_law_657 : decode cL_law 657 = .ok (.lshl, 1) := by decide +kernel
theorem dL_law_658 : decode cL_law 658 = .ok (.aload_n 0, 1) := by decide +kernel
theorem dL_law_659 : decode cL_law 659 = .ok (.iload_n 3, 1) := by decide +kernel
theorem dL_law_660 : decode cL_law 660 = .ok (.iconst 2, 1) := by decide +kernel
theorem dL_law_661 : decode cL_law 661 = .ok (.iadd, 1) := by decide +kernel
theorem dL_law_662 : decode cL_law 662 = .ok (.iaload, 1) := by decide +kernel
theorem dL_law_663 : decode cL_law 663 = .ok (.i2l, 1) := by decide +kernel
theorem dL_law_664 : decode cL_law 664 = .ok (.ldc2_w 81, 3) := by decide +kernel
theorem dL_law_667 : decode cL_law 667 = .ok (.land, 1) := by decide +kernel
theorem dL_law_668 : decode cL_law 668 = .ok (.lor, 1) := by decide +kernel
theorem dL_law_669 : decode cL_law 669 = .ok (.invokevirtual 83, 3) := by decide +kernel
theorem dL_law_672 : decode cL_law 672 = .ok (.aload_n 2, 1) := by decide +kernel
theorem dL_law_673 : decode cL_law 673 = .ok (.aload_n 0, 1) := by decide +kernel
theorem dL_law_674 : decode cL_law 674 = .ok (.iload_n 3, 1) := by decide +kernel
theorem dL_law_675 : decode cL_law 675 = .ok (.iconst 1, 1) := by decide +kernel
theorem dL_law_676 : decode cL_law 676 = .ok (.iadd, 1) := by decide +kernel
theorem dL_law_677 : decode cL_law 677 = .ok (.iaload, 1) := by decide +kernel
theorem dL_law_678 : decode cL_law 678 = .ok (.i2l, 1) := by decide +kernel
theorem dL_law_679 : decode cL_law 679 = .ok (.bipush 32, 2) := by decide +kernel
theorem dL_law_681 : decode cL_law 681 = .ok (.lshl, 1) := by decide +kernel
theorem dL_law_682 : decode cL_law 682 = .ok (.aload_n 0, 1) := by decide +kernel
theorem dL_law_683 : decode cL_law 683 = .ok (.iload_n 3, 1) := by decide +kernel
theorem dL_law_684 : decode cL_law 684 = .ok (.iconst 2, 1) := by decide +kernel
theorem dL_law_685 : decode cL_law 685 = .ok (.iadd, 1) := by decide +kernel
theorem dL_law_686 : decode cL_law 686 = .ok (.iaload, 1) := by decide +kernel
theorem dL_law_687 : decode cL_law 687 = .ok (.i2l, 1) := by decide +kernel
theorem dL_law_688 : decode cL_law 688 = .ok (.ldc2_w 81, 3) := by decide +kernel
theorem dL_law_691 : decode cL_law 691 = .ok (.land, 1) := by decide +kernel
theorem dL_law_692 : decode cL_law 692 = .ok (.lor, 1) := by decide +kernel
theorem dL_law_693 : decode cL_law 693 = .ok (.invokevirtual 87, 3) := by decide +kernel
theorem dL_law_696 : decode cL_law 696 = .ok (.if_icmp .eq 103, 3) := by decide +kernel
theorem dL_law_699 : decode cL_law 699 = .ok (.iconst 0, 1) := by decide +kernel
theorem dL_law_700 : decode cL_law 700 = .ok (.ireturn, 1) := by decide +kernel
theorem dL_law_701 : decode cL_law 701 = .ok (.aload_n 1, 1) := by decide +kernel
theorem dL_law_702 : decode cL_law 702 = .ok (.invokevirtual 88, 3) := by decide +kernel
theorem dL_law_705 : decode cL_law 705 = .ok (.aload_n 2, 1) := by decide +kernel
theorem dL_law_706 : decode cL_law 706 = .ok (.invokevirtual 92, 3) := by decide +kernel
theorem dL_law_709 : decode cL_law 709 = .ok (.if_icmp .eq 90, 3) := by decide +kernel
theorem dL_law_712 : decode cL_law 712 = .ok (.iconst 0, 1) := by decide +kernel
theorem dL_law_713 : decode cL_law 713 = .ok (.ireturn, 1) := by decide +kernel
theorem dL_law_714 : decode cL_law 714 = .ok (.aload_n 1, 1) := by decide +kernel
theorem dL_law_715 : decode cL_law 715 = .ok (.invokevirtual 93, 3) := by decide +kernel
theorem dL_law_718 : decode cL_law 718 = .ok (.aload_n 2, 1) := by decide +kernel
theorem dL_law_719 : decode cL_law 719 = .ok (.invokevirtual 96, 3) := by decide +kernel
theorem dL_law_722 : decode cL_law 722 = .ok (.if_icmp .eq 77, 3) := by decide +kernel
theorem dL_law_725 : decode cL_law 725 = .ok (.iconst 0, 1) := by decide +kernel
theorem dL_law_726 : decode cL_law 726 = .ok (.ireturn, 1) := by decide +kernel
theorem dL_law_727 : decode cL_law 727 = .ok (.aload_n 1, 1) := by decide +kernel
theorem dL_law_728 : decode cL_law 728 = .ok (.invokevirtual 97, 3) := by decide +kernel
theorem dL_law_731 : decode cL_law 731 = .ok (.aload_n 2, 1) := by decide +kernel
theorem dL_law_732 : decode cL_law 732 = .ok (.invokevirtual 100, 3) := by decide +kernel
theorem dL_law_735 : decode cL_law 735 = .ok (.if_icmp .eq 64, 3) := by decide +kernel
theorem dL_law_738 : decode cL_law 738 = .ok (.iconst 0, 1) := by decide +kernel
theorem dL_law_739 : decode cL_law 739 = .ok (.ireturn, 1) := by decide +kernel
theorem dL_law_740 : decode cL_law 740 = .ok (.aload_n 1, 1) := by decide +kernel
theorem dL_law_741 : decode cL_law 741 = .ok (.invokevirtual 101, 3) := by decide +kernel
theorem dL_law_744 : decode cL_law 744 = .ok (.aload_n 2, 1) := by decide +kernel
theorem dL_law_745 : decode cL_law 745 = .ok (.invokevirtual 104, 3) := by decide +kernel
theorem dL_law_748 : decode cL_law 748 = .ok (.if_icmp .eq 51, 3) := by decide +kernel
theorem dL_law_751 : decode cL_law 751 = .ok (.iconst 0, 1) := by decide +kernel
theorem dL_law_752 : decode cL_law 752 = .ok (.ireturn, 1) := by decide +kernel
theorem dL_law_753 : decode cL_law 753 = .ok (.aload_n 1, 1) := by decide +kernel
theorem dL_law_754 : decode cL_law 754 = .ok (.aload_n 0, 1) := by decide +kernel
theorem dL_law_755 : decode cL_law 755 = .ok (.iload_n 3, 1) := by decide +kernel
theorem dL_law_756 : decode cL_law 756 = .ok (.iconst 1, 1) := by decide +kernel
theorem dL_law_757 : decode cL_law 757 = .ok (.iadd, 1) := by decide +kernel
theorem dL_law_758 : decode cL_law 758 = .ok (.iaload, 1) := by decide +kernel
theorem dL_law_759 : decode cL_law 759 = .ok (.invokevirtual 105, 3) := by decide +kernel
theorem dL_law_762 : decode cL_law 762 = .ok (.aload_n 2, 1) := by decide +kernel
theorem dL_law_763 : decode cL_law 763 = .ok (.aload_n 0, 1) := by decide +kernel
theorem dL_law_764 : decode cL_law 764 = .ok (.iload_n 3, 1) := by decide +kernel
theorem dL_law_765 : decode cL_law 765 = .ok (.iconst 1, 1) := by decide +kernel
theorem dL_law_766 : decode cL_law 766 = .ok (.iadd, 1) := by decide +kernel
theorem dL_law_767 : decode cL_law 767 = .ok (.iaload, 1) := by decide +kernel
theorem dL_law_768 : decode cL_law 768 = .ok (.invokevirtual 108, 3) := by decide +kernel
theorem dL_law_771 : decode cL_law 771 = .ok (.if_icmp .eq 28, 3) := by decide +kernel
theorem dL_law_774 : decode cL_law 774 = .ok (.iconst 0, 1) := by decide +kernel
theorem dL_law_775 : decode cL_law 775 = .ok (.ireturn, 1) := by decide +kernel
theorem dL_law_776 : decode cL_law 776 = .ok (.aload_n 1, 1) := by decide +kernel
theorem dL_law_777 : decode cL_law 777 = .ok (.aload_n 0, 1) := by decide +kernel
theorem dL_law_778 : decode cL_law 778 = .ok (.iload_n 3, 1) := by decide +kernel
theorem dL_law_779 : decode cL_law 779 = .ok (.iconst 1, 1) := by decide +kernel
theorem dL_law_780 : decode cL_law 780 = .ok (.iadd, 1) := by decide +kernel
theorem dL_law_781 : decode cL_law 781 = .ok (.iaload, 1) := by decide +kernel
theorem dL_law_782 : decode cL_law 782 = .ok (.invokevirtual 109, 3) := by decide +kernel
theorem dL_law_785 : decode cL_law 785 = .ok (.aload_n 2, 1) := by decide +kernel
theorem dL_law_786 : decode cL_law 786 = .ok (.aload_n 0, 1) := by decide +kernel
theorem dL_law_787 : decode cL_law 787 = .ok (.iload_n 3, 1) := by decide +kernel
theorem dL_law_788 : decode cL_law 788 = .ok (.iconst 1, 1) := by decide +kernel
theorem dL_law_789 : decode cL_law 789 = .ok (.iadd, 1) := by decide +kernel
theorem dL_law_790 : decode cL_law 790 = .ok (.iaload, 1) := by decide +kernel
theorem dL_law_791 : decode cL_law 791 = .ok (.invokevirtual 112, 3) := by decide +kernel
theorem dL_law_794 : decode cL_law 794 = .ok (.if_icmp .eq 5, 3) := by decide +kernel
theorem dL_law_797 : decode cL_law 797 = .ok (.iconst 0, 1) := by decide +kernel
theorem dL_law_798 : decode cL_law 798 = .ok (.ireturn, 1) := by decide +kernel
theorem dL_law_799 : decode cL_law 799 = .ok (.iinc 3 5, 3) := by decide +kernel
theorem dL_law_802 : decode cL_law 802 = .ok (.goto (-784), 3) := by decide +kernel
theorem dL_law_805 : decode cL_law 805 = .ok (.iconst 1, 1) := by decide +kernel
theorem dL_law_806 : decode cL_law 806 = .ok (.ireturn, 1) := by decide +kernel
end
section
theorem nx_add {x y : Int32} {a b : Nat} (hx : x = nI a) (hy : y = nI b) : x + y = nI (a + b) := by rw [hx, hy, nI_add]
theorem nx_mul {x y : Int32} {a b : Nat} (hx : x = nI a) (hy : y = nI b) : x * y = nI (a * b) := by rw [hx, hy, pk_mul]
theorem nx_sub {x y : Int32} {a b : Nat} (hx : x = nI a) (hy : y = nI b) (h : b ≤ a) : x - y = nI (a - b) := by rw [hx, hy, pk_sub h]
theorem nx_div {x y : Int32} {a b : Nat} (hx : x = nI a) (hy : y = nI b) (ha : a < 2 ^ 31) (h0 : 0 < b) (hb : b < 2 ^ 31) : x / y = nI (a / b) := by rw [hx, hy, pk_div ha h0 hb]
theorem nx_rem {x y : Int32} {a b : Nat} (hx : x = nI a) (hy : y = nI b) (ha : a < 2 ^ 31) (h0 : 0 < b) (hb : b < 2 ^ 31) : x % y = nI (a % b) := by rw [hx, hy, ← irem_eq, pk_rem ha h0 hb]
theorem nx_eqt {x y : Int32} {a b : Nat} (hx : x = nI a) (hy : y = nI b) (ha : a < 2 ^ 31) (hb : b < 2 ^ 31) (c : x = y) : a = b := (nI_eq ha hb).mp (by rw [← hx, ← hy]; exact c)
theorem nx_eqf {x y : Int32} {a b : Nat} (hx : x = nI a) (hy : y = nI b) (ha : a < 2 ^ 31) (hb : b < 2 ^ 31) (c : ¬ x = y) : a ≠ b := fun h => c (by rw [hx, hy, h])
theorem nx_net {x y : Int32} {a b : Nat} (hx : x = nI a) (hy : y = nI b) (ha : a < 2 ^ 31) (hb : b < 2 ^ 31) (c : ¬ x = y) : a ≠ b := fun h => c (by rw [hx, hy, h])
theorem nx_nef {x y : Int32} {a b : Nat} (hx : x = nI a) (hy : y = nI b) (ha : a < 2 ^ 31) (hb : b < 2 ^ 31) (c : x = y) : a = b := (nI_eq ha hb).mp (by rw [← hx, ← hy]; exact c)
theorem nx_ltt {x y : Int32} {a b : Nat} (hx : x = nI a) (hy : y = nI b) (ha : a < 2 ^ 31) (hb : b < 2 ^ 31) (c : x < y) : a < b := (nI_ltI ha hb).mp (by rw [← hx, ← hy]; exact c)
theorem nx_ltf {x y : Int32} {a b : Nat} (hx : x = nI a) (hy : y = nI b) (ha : a < 2 ^ 31) (hb : b < 2 ^ 31) (c : ¬ x < y) : b ≤ a := Nat.not_lt.mp fun h => c (by rw [hx, hy]; exact (nI_ltI ha hb).mpr h)
theorem nx_let {x y : Int32} {a b : Nat} (hx : x = nI a) (hy : y = nI b) (ha : a < 2 ^ 31) (hb : b < 2 ^ 31) (c : x ≤ y) : a ≤ b := (nI_leI ha hb).mp (by rw [← hx, ← hy]; exact c)
theorem nx_lef {x y : Int32} {a b : Nat} (hx : x = nI a) (hy : y = nI b) (ha : a < 2 ^ 31) (hb : b < 2 ^ 31) (c : ¬ x ≤ y) : b < a := Nat.not_le.mp fun h => c (by rw [hx, hy]; exact (nI_leI ha hb).mpr h)
theorem nx_gtt {x y : Int32} {a b : Nat} (hx : x = nI a) (hy : y = nI b) (ha : a < 2 ^ 31) (hb : b < 2 ^ 31) (c : y < x) : b < a := nx_ltt hy hx hb ha c
theorem nx_gtf {x y : Int32} {a b : Nat} (hx : x = nI a) (hy : y = nI b) (ha : a < 2 ^ 31) (hb : b < 2 ^ 31) (c : ¬ y < x) : a ≤ b := nx_ltf hy hx hb ha c
theorem nx_get {x y : Int32} {a b : Nat} (hx : x = nI a) (hy : y = nI b) (ha : a < 2 ^ 31) (hb : b < 2 ^ 31) (c : y ≤ x) : b ≤ a := nx_let hy hx hb ha c
theorem nx_gef {x y : Int32} {a b : Nat} (hx : x = nI a) (hy : y = nI b) (ha : a < 2 ^ 31) (hb : b < 2 ^ 31) (c : ¬ y ≤ x) : a < b := nx_lef hy hx hb ha c
theorem sw_in {x : Int32} {lo hi : Int} (h1 : lo ≤ x.toInt) (h2 : x.toInt ≤ hi) (h0 : 0 ≤ lo) : ∃ j : Nat, (j : Int) ≤ hi - lo ∧ x = nI (lo.toNat + j) := by
  refine ⟨(x.toInt - lo).toNat, by omega, ?_⟩
  have h3 : x.toInt < 2 ^ 31 := x.toInt_lt
  apply Int32.toInt_inj.mp
  rw [nI_toInt (by omega)]
  omega
theorem i_lt {a b : Int32} : a < b ↔ a.toInt < b.toInt := Int32.lt_iff_toInt_lt
theorem i_le {a b : Int32} : a ≤ b ↔ a.toInt ≤ b.toInt := Int32.le_iff_toInt_le
theorem i_eq {a b : Int32} : a = b ↔ a.toInt = b.toInt := ⟨fun h => by rw [h], fun h => Int32.toInt_inj.mp h⟩
theorem nar_b {c : Prop} [Decidable c] : narrow .boolean (.int (bz c)) = .int (bz c) := by unfold bz; split <;> rfl
theorem fit_b {c : Prop} [Decidable c] : fits .boolean (.int (bz c)) = true := by unfold bz; split <;> rfl
section X8
variable {p : Program} {l : Launch} {e : Env} {R : Room} {s : State} {m : MethodId} {args : Array Value} {below : List Frame} {meth : Method} {c : Code} {G : Gm} {A : Nat → Prop} {nL ce sl : Nat} {Q : State → Prop} {I : Ii} {pm : Pm} {L : List (Nat × Value)} {pc : Nat} {st rest : List Value} {cc : ByteArray} {own : String}
theorem g_iincC (F : FX p s m args c cc nL own G A) {i : Nat} {n : Int} {x q : Int32} {L' : List (Nat × Value)} (j : Nat) (hd : decode cc pc = .ok (.iinc i n, 3)) (hq : Int32.ofInt n = q) (hk : L[j]? = some (i, .int x)) (hn : i < nL) (hl : (i, Value.int (x + q)) :: L.filter (fun q => !(q.1 == i) && !(q.1 + 1 == i && q.2.category == 2)) = L') (kk : GG p l e R s m args below meth c G A nL ce sl Q I pm L' (pc + 3) st) : GG p l e R s m args below meth c G A nL ce sl Q I pm L pc st := g_iinc F j hd hk (by rw [hq]) hn hl kk
theorem g_tif_eq {x : Int32} (va vb : Int32) (pcJ : Nat) (hbr : (x = 0 → GG p l e R s m args below meth c G A nL ce sl Q I pm L pcJ (.int va :: rest)) → (¬ x = 0 → GG p l e R s m args below meth c G A nL ce sl Q I pm L pcJ (.int vb :: rest)) → GG p l e R s m args below meth c G A nL ce sl Q I pm L pc (.int x :: rest)) (kk : GG p l e R s m args below meth c G A nL ce sl Q I pm L pcJ (.int (if x = 0 then va else vb) :: rest)) : GG p l e R s m args below meth c G A nL ce sl Q I pm L pc (.int x :: rest) := g_tern1 (x = 0) va vb pcJ hbr kk
theorem g_ticmp_eq {x y : Int32} (va vb : Int32) (pcJ : Nat) (hbr : (x = y → GG p l e R s m args below meth c G A nL ce sl Q I pm L pcJ (.int va :: rest)) → (¬ x = y → GG p l e R s m args below meth c G A nL ce sl Q I pm L pcJ (.int vb :: rest)) → GG p l e R s m args below meth c G A nL ce sl Q I pm L pc (.int y :: .int x :: rest)) (kk : GG p l e R s m args below meth c G A nL ce sl Q I pm L pcJ (.int (if x = y then va else vb) :: rest)) : GG p l e R s m args below meth c G A nL ce sl Q I pm L pc (.int y :: .int x :: rest) := g_tern2 (x = y) va vb pcJ hbr kk
theorem g_tif_ne {x : Int32} (va vb : Int32) (pcJ : Nat) (hbr : (¬ x = 0 → GG p l e R s m args below meth c G A nL ce sl Q I pm L pcJ (.int va :: rest)) → (¬ ¬ x = 0 → GG p l e R s m args below meth c G A nL ce sl Q I pm L pcJ (.int vb :: rest)) → GG p l e R s m args below meth c G A nL ce sl Q I pm L pc (.int x :: rest)) (kk : GG p l e R s m args below meth c G A nL ce sl Q I pm L pcJ (.int (if ¬ x = 0 then va else vb) :: rest)) : GG p l e R s m args below meth c G A nL ce sl Q I pm L pc (.int x :: rest) := g_tern1 (¬ x = 0) va vb pcJ hbr kk
theorem g_ticmp_ne {x y : Int32} (va vb : Int32) (pcJ : Nat) (hbr : (¬ x = y → GG p l e R s m args below meth c G A nL ce sl Q I pm L pcJ (.int va :: rest)) → (¬ ¬ x = y → GG p l e R s m args below meth c G A nL ce sl Q I pm L pcJ (.int vb :: rest)) → GG p l e R s m args below meth c G A nL ce sl Q I pm L pc (.int y :: .int x :: rest)) (kk : GG p l e R s m args below meth c G A nL ce sl Q I pm L pcJ (.int (if ¬ x = y then va else vb) :: rest)) : GG p l e R s m args below meth c G A nL ce sl Q I pm L pc (.int y :: .int x :: rest) := g_tern2 (¬ x = y) va vb pcJ hbr kk
theorem g_tif_lt {x : Int32} (va vb : Int32) (pcJ : Nat) (hbr : (x < 0 → GG p l e R s m args below meth c G A nL ce sl Q I pm L pcJ (.int va :: rest)) → (¬ x < 0 → GG p l e R s m args below meth c G A nL ce sl Q I pm L pcJ (.int vb :: rest)) → GG p l e R s m args below meth c G A nL ce sl Q I pm L pc (.int x :: rest)) (kk : GG p l e R s m args below meth c G A nL ce sl Q I pm L pcJ (.int (if x < 0 then va else vb) :: rest)) : GG p l e R s m args below meth c G A nL ce sl Q I pm L pc (.int x :: rest) := g_tern1 (x < 0) va vb pcJ hbr kk
theorem g_ticmp_lt {x y : Int32} (va vb : Int32) (pcJ : Nat) (hbr : (x < y → GG p l e R s m args below meth c G A nL ce sl Q I pm L pcJ (.int va :: rest)) → (¬ x < y → GG p l e R s m args below meth c G A nL ce sl Q I pm L pcJ (.int vb :: rest)) → GG p l e R s m args below meth c G A nL ce sl Q I pm L pc (.int y :: .int x :: rest)) (kk : GG p l e R s m args below meth c G A nL ce sl Q I pm L pcJ (.int (if x < y then va else vb) :: rest)) : GG p l e R s m args below meth c G A nL ce sl Q I pm L pc (.int y :: .int x :: rest) := g_tern2 (x < y) va vb pcJ hbr kk
theorem g_tif_ge {x : Int32} (va vb : Int32) (pcJ : Nat) (hbr : (0 ≤ x → GG p l e R s m args below meth c G A nL ce sl Q I pm L pcJ (.int va :: rest)) → (¬ 0 ≤ x → GG p l e R s m args below meth c G A nL ce sl Q I pm L pcJ (.int vb :: rest)) → GG p l e R s m args below meth c G A nL ce sl Q I pm L pc (.int x :: rest)) (kk : GG p l e R s m args below meth c G A nL ce sl Q I pm L pcJ (.int (if 0 ≤ x then va else vb) :: rest)) : GG p l e R s m args below meth c G A nL ce sl Q I pm L pc (.int x :: rest) := g_tern1 (0 ≤ x) va vb pcJ hbr kk
theorem g_ticmp_ge {x y : Int32} (va vb : Int32) (pcJ : Nat) (hbr : (y ≤ x → GG p l e R s m args below meth c G A nL ce sl Q I pm L pcJ (.int va :: rest)) → (¬ y ≤ x → GG p l e R s m args below meth c G A nL ce sl Q I pm L pcJ (.int vb :: rest)) → GG p l e R s m args below meth c G A nL ce sl Q I pm L pc (.int y :: .int x :: rest)) (kk : GG p l e R s m args below meth c G A nL ce sl Q I pm L pcJ (.int (if y ≤ x then va else vb) :: rest)) : GG p l e R s m args below meth c G A nL ce sl Q I pm L pc (.int y :: .int x :: rest) := g_tern2 (y ≤ x) va vb pcJ hbr kk
theorem g_tif_gt {x : Int32} (va vb : Int32) (pcJ : Nat) (hbr : (0 < x → GG p l e R s m args below meth c G A nL ce sl Q I pm L pcJ (.int va :: rest)) → (¬ 0 < x → GG p l e R s m args below meth c G A nL ce sl Q I pm L pcJ (.int vb :: rest)) → GG p l e R s m args below meth c G A nL ce sl Q I pm L pc (.int x :: rest)) (kk : GG p l e R s m args below meth c G A nL ce sl Q I pm L pcJ (.int (if 0 < x then va else vb) :: rest)) : GG p l e R s m args below meth c G A nL ce sl Q I pm L pc (.int x :: rest) := g_tern1 (0 < x) va vb pcJ hbr kk
theorem g_ticmp_gt {x y : Int32} (va vb : Int32) (pcJ : Nat) (hbr : (y < x → GG p l e R s m args below meth c G A nL ce sl Q I pm L pcJ (.int va :: rest)) → (¬ y < x → GG p l e R s m args below meth c G A nL ce sl Q I pm L pcJ (.int vb :: rest)) → GG p l e R s m args below meth c G A nL ce sl Q I pm L pc (.int y :: .int x :: rest)) (kk : GG p l e R s m args below meth c G A nL ce sl Q I pm L pcJ (.int (if y < x then va else vb) :: rest)) : GG p l e R s m args below meth c G A nL ce sl Q I pm L pc (.int y :: .int x :: rest) := g_tern2 (y < x) va vb pcJ hbr kk
theorem g_tif_le {x : Int32} (va vb : Int32) (pcJ : Nat) (hbr : (x ≤ 0 → GG p l e R s m args below meth c G A nL ce sl Q I pm L pcJ (.int va :: rest)) → (¬ x ≤ 0 → GG p l e R s m args below meth c G A nL ce sl Q I pm L pcJ (.int vb :: rest)) → GG p l e R s m args below meth c G A nL ce sl Q I pm L pc (.int x :: rest)) (kk : GG p l e R s m args below meth c G A nL ce sl Q I pm L pcJ (.int (if x ≤ 0 then va else vb) :: rest)) : GG p l e R s m args below meth c G A nL ce sl Q I pm L pc (.int x :: rest) := g_tern1 (x ≤ 0) va vb pcJ hbr kk
theorem g_ticmp_le {x y : Int32} (va vb : Int32) (pcJ : Nat) (hbr : (x ≤ y → GG p l e R s m args below meth c G A nL ce sl Q I pm L pcJ (.int va :: rest)) → (¬ x ≤ y → GG p l e R s m args below meth c G A nL ce sl Q I pm L pcJ (.int vb :: rest)) → GG p l e R s m args below meth c G A nL ce sl Q I pm L pc (.int y :: .int x :: rest)) (kk : GG p l e R s m args below meth c G A nL ce sl Q I pm L pcJ (.int (if x ≤ y then va else vb) :: rest)) : GG p l e R s m args below meth c G A nL ce sl Q I pm L pc (.int y :: .int x :: rest) := g_tern2 (x ≤ y) va vb pcJ hbr kk
end X8
section WALK
variable {l : Launch} {G : Gm} {y : MethodName} {b : ByteArray} {n : Nat} {ret : Option FieldType} {rm : Room} {av : List Value} {I : Ii} {pm : Pm}
theorem walk_any {Qc : Array Value → State → Outcome → State → Prop} (hj : Aj G) (hy : plainFor y = true) (hn : (lg_sl av).length ≤ n)
    (body : ∀ (p : Program) (e : Env) (s : State) (m : MethodId) (args : Array Value) (below : List Frame) (meth : Method) (c : Code), FX p s m args c b n y.cls G (AA G) → meth.sig.returnType = ret → meth.locks = false → GG p l e rm s m args below meth c G (AA G) n 0 0 (MQ below Qc args s 0 0 (AA G)) I pm (lv_args 0 av) 0 []) : Met l y (wz y b n ret) rm (va_Pc av (PP G I pm)) Qc 0 0 (AA G) := by
  refine MetFree.of_bodySF (code := b) (maxLocals := n) (ret := ret) hy ?_ ?_
  · intro args s m h hn
    obtain ⟨meth, c, h1, h2, h3, h4, h5, h6, -, -⟩ := Cond.code_spec hn (atoms_spec (ws := wz y b n ret) h _ List.mem_cons_self)
    exact ⟨meth, c, h1, h2, h3, h4, h5, h6⟩
  · intro p e s m args below meth c s₁ B hml hP _
    have hh0 : s₁.heap = s.heap := by rw [B.state]; rfl
    obtain ⟨rfl, hW, hK, hN⟩ := hP
    have hts := atoms_spec (ws := wz y b n ret) B.pre
    have hl := lv_entry av (n := n) hn
    have hg := body p e s m av.toArray below meth c ⟨⟨B.exec, B.bytes, hml, findClass_of_methodNamed B.named, fun w hw => hts w (List.mem_cons_of_mem _ hw)⟩, hK, hN, hj, fun K i h => ⟨K, i, h, rfl⟩⟩ B.returns B.notSynchronized s.heap [] _ hW va_S.rf hl
    rw [← lg_entry_eq] at hg
    obtain ⟨t, a1, o, b1, b2, b3⟩ := hg s₁ hh0 (Stand.of_body B)
    exact ⟨t, o, a1, b1, b2, ⟨b3.1, b3.2⟩⟩
theorem CI.walk {post : Int32 → Ii × Pm → Prop} (hj : Aj G) (hy : plainFor y = true) (hn : (lg_sl av).length ≤ n)
    (body : ∀ (p : Program) (e : Env) (s : State) (m : MethodId) (args : Array Value) (below : List Frame) (meth : Method) (c : Code), FX p s m args c b n y.cls G (AA G) → meth.sig.returnType = ret → meth.locks = false → GG p l e rm s m args below meth c G (AA G) n 0 0 (MQ below (va_Qi post (fun u t => Wd G u.1 u.2 t.heap) (AA G)) args s 0 0 (AA G)) I pm (lv_args 0 av) 0 []) : CI l G y (wz y b n ret) rm av I pm post := walk_any hj hy hn body
theorem CV.walk {post : Ii × Pm → Prop} (hj : Aj G) (hy : plainFor y = true) (hn : (lg_sl av).length ≤ n)
    (body : ∀ (p : Program) (e : Env) (s : State) (m : MethodId) (args : Array Value) (below : List Frame) (meth : Method) (c : Code), FX p s m args c b n y.cls G (AA G) → meth.sig.returnType = ret → meth.locks = false → GG p l e rm s m args below meth c G (AA G) n 0 0 (MQ below (va_Qv post (fun u t => Wd G u.1 u.2 t.heap) (AA G)) args s 0 0 (AA G)) I pm (lv_args 0 av) 0 []) : CV l G y (wz y b n ret) rm av I pm post := walk_any hj hy hn body
theorem CQ.walk {post : Option Nat → Ii × Pm → Prop} (hj : Aj G) (hy : plainFor y = true) (hn : (lg_sl av).length ≤ n)
    (body : ∀ (p : Program) (e : Env) (s : State) (m : MethodId) (args : Array Value) (below : List Frame) (meth : Method) (c : Code), FX p s m args c b n y.cls G (AA G) → meth.sig.returnType = ret → meth.locks = false → GG p l e rm s m args below meth c G (AA G) n 0 0 (MQ below (va_Qq post (fun u t => Wd G u.1 u.2 t.heap) (AA G)) args s 0 0 (AA G)) I pm (lv_args 0 av) 0 []) : CQ l G y (wz y b n ret) rm av I pm post := walk_any hj hy hn body
end WALK
end
section
/-! PART 10: the leaves: within, isBlock, curveSpeed, floorDiv, floorMod, and the methods of a loco -/
def cvS (c st : Int32) : Int32 := if c = 1 then st * st * 10 / 28 else if c = 2 then 20 * st - st * st * 10 / 28 else 10 * st
def goalF (c st w : Int32) : Int32 := if w = 1 then cvS c st else -(cvS c st)
def gainF (m : Int32) : Int32 := if m ≤ 0 then 0 else 60 / m
def mxF (x y : Int32) : Int32 := if x < y then y else x
def mnF (x y : Int32) : Int32 := if y < x then y else x
def abF (x : Int32) : Int32 := if 0 ≤ x then x else 0 - x
def fdF (x y : Int32) : Int32 := if 0 ≤ x ^^^ y then x / y else if x / y * y = x then x / y else x / y - 1
def fmF (x y : Int32) : Int32 := if 0 ≤ x ^^^ y then x % y else if x % y = 0 then x % y else x % y + y
def spdF (m c st w sp : Int32) : Int32 := sp + mxF (-(gainF m)) (mnF (gainF m) (goalF c st w - sp))
def lcGoal (I : Ii) (i : Nat) : Int32 := goalF (I 7 i 2) (I 7 i 7) (I 7 i 8)
def lcAt (I : Ii) (i : Nat) : Int32 := I 7 i 3 * 10 + I 7 i 4 + I 7 i 5
def lcTtg (I : Ii) (i : Nat) : Int32 := if gainF (I 7 i 1) ≤ 0 then 0 else (abF (lcGoal I i - I 7 i 5) + gainF (I 7 i 1) - 1) / gainF (I 7 i 1)
def hearI (d : Int32) (I : Ii) (i : Nat) : Ii :=
  if d % 128 ≤ 28 then up3 (up3 (up3 I 7 i 10 (I 7 i 10 + 1)) 7 i 7 (d % 128)) 7 i 8 (d / 128)
  else if d = 31 then up3 (up3 (up3 I 7 i 10 (I 7 i 10 + 1)) 7 i 7 0) 7 i 5 0
  else if 64 ≤ d ∧ d ≤ 67 then up3 (up3 I 7 i 10 (I 7 i 10 + 1)) 7 i 9 (d - 64)
  else up3 I 7 i 10 (I 7 i 10 + 1)
def rollI (I : Ii) (i : Nat) : Ii := up3 (up3 (up3 I 7 i 6 (I 7 i 6 + fdF (lcAt I i) 8000)) 7 i 3 (fmF (lcAt I i) 8000 / 10)) 7 i 4 (fmF (lcAt I i) 8000 % 10)
def beginI (I : Ii) (i : Nat) (a b c d : Int32) : Ii := up3 (up3 (up3 (up3 (up3 (up3 (up3 (up3 (up3 (up3 (up3 I 7 i 0 a) 7 i 1 b) 7 i 2 c) 7 i 3 d) 7 i 4 0) 7 i 5 0) 7 i 6 0) 7 i 7 0) 7 i 8 1) 7 i 9 0) 7 i 10 0
def toldL (I : Ii) (i : Nat) (w : Int32) : Int32 := if w = 0 then I 7 i 1 else if w = 1 then I 7 i 2 else if w = 2 then I 7 i 3 else if w = 3 then I 7 i 4 else if w = 4 then I 7 i 5 + 1000 else if w = 5 then lcGoal I i + 1000 else if w = 6 then I 7 i 7 else if w = 7 then I 7 i 8 else if w = 8 then I 7 i 9 else if w = 9 then I 7 i 3 / 100 else if w = 10 then I 7 i 10 else if w = 11 then I 7 i 6 + 1000 else -2

set_option maxHeartbeats 4000000 in
set_option maxRecDepth 100000 in
theorem c_X5_within {l : Launch} {G : Gm} (hj : Aj G) {I : Ii} {pm : Pm} {v a b : Int32} : CI l G yX5_within (wz yX5_within cX5_within 3 (some .boolean)) (rmL 0) [.int v, .int a, .int b] I pm (fun r u => r = bz (a ≤ v ∧ v ≤ b) ∧ u = (I, pm)) := by
  refine CI.walk hj (by decide +kernel) (by show _ ≤ 3; exact Nat.le_of_ble_eq_true rfl) ?_
  intro p e s m args below meth c F hr hlk
  refine g_iload_n F 0 dX5_within_0 rfl rfl ?_
  refine g_iload_n F 1 dX5_within_1 rfl rfl ?_
  refine g_icmp_lt F 14 dX5_within_2 (by decide) (fun c_2 => ?_) (fun c_2 => ?_)
  · refine g_iconst (v := 0) F dX5_within_14 (by decide) ?_
    exact g_iret F hr hlk rfl dX5_within_15 (by simp [bz, *, Int32.not_le, Int32.not_lt] <;> (simp only [i_lt, i_le] at *; omega))
  · refine g_iload_n F 0 dX5_within_5 rfl rfl ?_
    refine g_iload_n F 2 dX5_within_6 rfl rfl ?_
    refine g_icmp_gt F 14 dX5_within_7 (by decide) (fun c_7 => ?_) (fun c_7 => ?_)
    · refine g_iconst (v := 0) F dX5_within_14 (by decide) ?_
      exact g_iret F hr hlk rfl dX5_within_15 (by simp [bz, *, Int32.not_le, Int32.not_lt] <;> (simp only [i_lt, i_le] at *; omega))
    · refine g_iconst (v := 1) F dX5_within_10 (by decide) ?_
      refine g_goto F 15 dX5_within_11 (by decide) ?_
      exact g_iret F hr hlk rfl dX5_within_15 (by simp [bz, *, Int32.not_le, Int32.not_lt] <;> (simp only [i_lt, i_le] at *; omega))
set_option maxHeartbeats 4000000 in
set_option maxRecDepth 100000 in
theorem c_X5_isBlock {l : Launch} {G : Gm} (hj : Aj G) {I : Ii} {pm : Pm} {v : Int32} : CI l G yX5_isBlock (wz yX5_isBlock cX5_isBlock 1 (some .boolean)) (rmL 1) [.int v] I pm (fun r u => r = bz (0 ≤ v ∧ v ≤ 7) ∧ u = (I, pm)) := by
  refine CI.walk hj (by decide +kernel) (by show _ ≤ 1; exact Nat.le_of_ble_eq_true rfl) ?_
  intro p e s m args below meth c F hr hlk
  refine g_iload_n F 0 dX5_isBlock_0 rfl rfl ?_
  refine g_iconst (v := 0) F dX5_isBlock_1 (by decide) ?_
  refine g_bipush (v := 7) F dX5_isBlock_2 (by decide) ?_
  refine g_callIs (na := 3) F (c_X5_within hj) lk_X5_155 rfl rfl (by decide +kernel) ⟨rfl, rfl, Nat.le_of_ble_eq_true rfl, Nat.le_of_ble_eq_true rfl, Nat.le_of_ble_eq_true rfl, Nat.le_of_ble_eq_true rfl, Nat.le_of_ble_eq_true rfl⟩ dX5_isBlock_4 (fun r_4 u_4 h_4 => ?_)
  obtain ⟨rfl, rfl⟩ := h_4
  try dsimp only
  refine g_iret F hr hlk nar_b dX5_isBlock_7 ?_
  exact ⟨rfl, rfl⟩
set_option maxHeartbeats 4000000 in
set_option maxRecDepth 100000 in
theorem c_X5_curveSpeed {l : Launch} {G : Gm} (hj : Aj G) {I : Ii} {pm : Pm} {c0 t : Int32} : CI l G yX5_curveSpeed (wz yX5_curveSpeed cX5_curveSpeed 3 (some .int)) (rmL 0) [.int c0, .int t] I pm (fun r u => r = cvS c0 t ∧ u = (I, pm)) := by
  refine CI.walk hj (by decide +kernel) (by show _ ≤ 3; exact Nat.le_of_ble_eq_true rfl) ?_
  intro p e s m args below meth c F hr hlk
  refine g_iload_n F 1 dX5_curveSpeed_0 rfl rfl ?_
  refine g_iload_n F 1 dX5_curveSpeed_1 rfl rfl ?_
  refine g_imul F dX5_curveSpeed_2 ?_
  refine g_bipush (v := 10) F dX5_curveSpeed_3 (by decide) ?_
  refine g_imul F dX5_curveSpeed_5 ?_
  refine g_bipush (v := 28) F dX5_curveSpeed_6 (by decide) ?_
  refine g_idiv F dX5_curveSpeed_8 (by decide) ?_
  refine g_topi (fun x2_9 ex2_9 => ?_)
  refine g_istore_n (L' := [(2, _), (0, _), (1, _)]) F dX5_curveSpeed_9 rfl (by decide) rfl ?_
  refine g_iload_n F 1 dX5_curveSpeed_10 rfl rfl ?_
  by_cases hs_11_1 : c0 = 1
  · refine g_lookup F 36 dX5_curveSpeed_11 (by decide) (by rw [hs_11_1] <;> rfl) (by decide) ?_
    refine g_iload_n F 0 dX5_curveSpeed_36 rfl rfl ?_
    exact g_iret F hr hlk rfl dX5_curveSpeed_37 (by simp [cvS, *])
  by_cases hs_11_2 : c0 = 2
  · refine g_lookup F 38 dX5_curveSpeed_11 (by decide) (by rw [hs_11_2] <;> rfl) (by decide) ?_
    refine g_bipush (v := 20) F dX5_curveSpeed_38 (by decide) ?_
    refine g_iload_n F 2 dX5_curveSpeed_40 rfl rfl ?_
    refine g_imul F dX5_curveSpeed_41 ?_
    refine g_iload_n F 0 dX5_curveSpeed_42 rfl rfl ?_
    refine g_isub F dX5_curveSpeed_43 ?_
    exact g_iret F hr hlk rfl dX5_curveSpeed_44 (by simp [cvS, *])
  refine g_lookup (off := 34) F 45 dX5_curveSpeed_11 (by decide) ((lv_osw hs_11_1 rfl).trans <| (lv_osw hs_11_2 rfl).trans <| rfl) (by decide) ?_
  refine g_bipush (v := 10) F dX5_curveSpeed_45 (by decide) ?_
  refine g_iload_n F 2 dX5_curveSpeed_47 rfl rfl ?_
  refine g_imul F dX5_curveSpeed_48 ?_
  exact g_iret F hr hlk rfl dX5_curveSpeed_49 (by simp [cvS, *])
set_option maxHeartbeats 4000000 in
set_option maxRecDepth 100000 in
theorem c_J9_floorDiv {l : Launch} {G : Gm} (hj : Aj G) {I : Ii} {pm : Pm} {x y : Int32} (h0 : ¬ y = 0) : CI l G yJ9_floorDiv_7cf53 (wz yJ9_floorDiv_7cf53 cJ9_floorDiv_7cf53 3 (some .int)) (rmL 0) [.int x, .int y] I pm (fun r u => r = fdF x y ∧ u = (I, pm)) := by
  refine CI.walk hj (by decide +kernel) (by show _ ≤ 3; exact Nat.le_of_ble_eq_true rfl) ?_
  intro p e s m args below meth c F hr hlk
  refine g_iload_n F 0 dJ9_floorDiv_7cf53_0 rfl rfl ?_
  refine g_iload_n F 1 dJ9_floorDiv_7cf53_1 rfl rfl ?_
  refine g_idiv F dJ9_floorDiv_7cf53_2 h0 ?_
  refine g_topi (fun x2_3 ex2_3 => ?_)
  refine g_istore_n (L' := [(2, _), (0, _), (1, _)]) F dJ9_floorDiv_7cf53_3 rfl (by decide) rfl ?_
  refine g_iload_n F 1 dJ9_floorDiv_7cf53_4 rfl rfl ?_
  refine g_iload_n F 2 dJ9_floorDiv_7cf53_5 rfl rfl ?_
  refine g_ixor F dJ9_floorDiv_7cf53_6 ?_
  refine g_if_ge F 21 dJ9_floorDiv_7cf53_7 (by decide) (fun c_7 => ?_) (fun c_7 => ?_)
  · refine g_iload_n F 0 dJ9_floorDiv_7cf53_21 rfl rfl ?_
    exact g_iret F hr hlk rfl dJ9_floorDiv_7cf53_22 (by first | exact ⟨by rw [fdF, if_pos c_7, ex2_3], rfl⟩ | exact ⟨by rw [fdF, if_neg c_7, if_pos (by rw [← ex2_3]; exact c_14), ex2_3], rfl⟩ | exact ⟨by rw [fdF, if_neg c_7, if_neg (by rw [← ex2_3]; exact c_14), ex2_3], rfl⟩)
  · refine g_iload_n F 0 dJ9_floorDiv_7cf53_10 rfl rfl ?_
    refine g_iload_n F 2 dJ9_floorDiv_7cf53_11 rfl rfl ?_
    refine g_imul F dJ9_floorDiv_7cf53_12 ?_
    refine g_iload_n F 1 dJ9_floorDiv_7cf53_13 rfl rfl ?_
    refine g_icmp_eq F 21 dJ9_floorDiv_7cf53_14 (by decide) (fun c_14 => ?_) (fun c_14 => ?_)
    · refine g_iload_n F 0 dJ9_floorDiv_7cf53_21 rfl rfl ?_
      exact g_iret F hr hlk rfl dJ9_floorDiv_7cf53_22 (by first | exact ⟨by rw [fdF, if_pos c_7, ex2_3], rfl⟩ | exact ⟨by rw [fdF, if_neg c_7, if_pos (by rw [← ex2_3]; exact c_14), ex2_3], rfl⟩ | exact ⟨by rw [fdF, if_neg c_7, if_neg (by rw [← ex2_3]; exact c_14), ex2_3], rfl⟩)
    · refine g_iload_n F 0 dJ9_floorDiv_7cf53_17 rfl rfl ?_
      refine g_iconst (v := 1) F dJ9_floorDiv_7cf53_18 (by decide) ?_
      refine g_isub F dJ9_floorDiv_7cf53_19 ?_
      exact g_iret F hr hlk rfl dJ9_floorDiv_7cf53_20 (by first | exact ⟨by rw [fdF, if_pos c_7, ex2_3], rfl⟩ | exact ⟨by rw [fdF, if_neg c_7, if_pos (by rw [← ex2_3]; exact c_14), ex2_3], rfl⟩ | exact ⟨by rw [fdF, if_neg c_7, if_neg (by rw [← ex2_3]; exact c_14), ex2_3], rfl⟩)
set_option maxHeartbeats 4000000 in
set_option maxRecDepth 100000 in
theorem c_J9_floorMod {l : Launch} {G : Gm} (hj : Aj G) {I : Ii} {pm : Pm} {x y : Int32} (h0 : ¬ y = 0) : CI l G yJ9_floorMod_7cf53 (wz yJ9_floorMod_7cf53 cJ9_floorMod_7cf53 3 (some .int)) (rmL 0) [.int x, .int y] I pm (fun r u => r = fmF x y ∧ u = (I, pm)) := by
  refine CI.walk hj (by decide +kernel) (by show _ ≤ 3; exact Nat.le_of_ble_eq_true rfl) ?_
  intro p e s m args below meth c F hr hlk
  refine g_iload_n F 0 dJ9_floorMod_7cf53_0 rfl rfl ?_
  refine g_iload_n F 1 dJ9_floorMod_7cf53_1 rfl rfl ?_
  refine g_irem F dJ9_floorMod_7cf53_2 h0 ?_
  refine g_topi (fun x2_3 ex2_3 => ?_)
  refine g_istore_n (L' := [(2, _), (0, _), (1, _)]) F dJ9_floorMod_7cf53_3 rfl (by decide) rfl ?_
  refine g_iload_n F 1 dJ9_floorMod_7cf53_4 rfl rfl ?_
  refine g_iload_n F 2 dJ9_floorMod_7cf53_5 rfl rfl ?_
  refine g_ixor F dJ9_floorMod_7cf53_6 ?_
  refine g_if_ge F 18 dJ9_floorMod_7cf53_7 (by decide) (fun c_7 => ?_) (fun c_7 => ?_)
  · refine g_iload_n F 0 dJ9_floorMod_7cf53_18 rfl rfl ?_
    exact g_iret F hr hlk rfl dJ9_floorMod_7cf53_19 (by first | (simp_all [fmF]; done) | (have hz := Int32.not_le.mpr c_6; simp_all [fmF]; done))
  · refine g_iload_n F 0 dJ9_floorMod_7cf53_10 rfl rfl ?_
    refine g_if_eq F 18 dJ9_floorMod_7cf53_11 (by decide) (fun c_11 => ?_) (fun c_11 => ?_)
    · refine g_iload_n F 0 dJ9_floorMod_7cf53_18 rfl rfl ?_
      exact g_iret F hr hlk rfl dJ9_floorMod_7cf53_19 (by first | (simp_all [fmF]; done) | (have hz := Int32.not_le.mpr c_6; simp_all [fmF]; done))
    · refine g_iload_n F 0 dJ9_floorMod_7cf53_14 rfl rfl ?_
      refine g_iload_n F 2 dJ9_floorMod_7cf53_15 rfl rfl ?_
      refine g_iadd F dJ9_floorMod_7cf53_16 ?_
      exact g_iret F hr hlk rfl dJ9_floorMod_7cf53_17 (by first | (simp_all [fmF]; done) | (have hz := Int32.not_le.mpr c_6; simp_all [fmF]; done))
set_option maxHeartbeats 4000000 in
set_option maxRecDepth 100000 in
theorem c_X2_blockNumber {l : Launch} {G : Gm} (hj : Aj G) {I : Ii} {pm : Pm} {i : Nat} (hi : i < 88) : CI l G yX2_blockNumber (wz yX2_blockNumber cX2_blockNumber 1 (some .int)) (rmL 0) [.ref (G.2.2 7 i)] I pm (fun r u => r = I 7 i 3 / 100 ∧ u = (I, pm)) := by
  refine CI.walk hj (by decide +kernel) (by show _ ≤ 1; exact Nat.le_of_ble_eq_true rfl) ?_
  intro p e s m args below meth c F hr hlk
  refine g_aload_n F 0 dX2_blockNumber_0 rfl rfl ?_
  refine gf_7_3 F hi mFL_X2_21 dX2_blockNumber_1 ?_
  refine g_bipush (v := 100) F dX2_blockNumber_4 (by decide) ?_
  refine g_idiv F dX2_blockNumber_6 (by decide) ?_
  refine g_iret F hr hlk rfl dX2_blockNumber_7 ?_
  exact ⟨rfl, rfl⟩
set_option maxHeartbeats 4000000 in
set_option maxRecDepth 100000 in
theorem c_X2_goal {l : Launch} {G : Gm} (hj : Aj G) {I : Ii} {pm : Pm} {i : Nat} (hi : i < 88) : CI l G yX2_goal (wz yX2_goal cX2_goal 2 (some .int)) (rmL 1) [.ref (G.2.2 7 i)] I pm (fun r u => r = lcGoal I i ∧ u = (I, pm)) := by
  refine CI.walk hj (by decide +kernel) (by show _ ≤ 2; exact Nat.le_of_ble_eq_true rfl) ?_
  intro p e s m args below meth c F hr hlk
  refine g_aload_n F 0 dX2_goal_0 rfl rfl ?_
  refine gf_7_2 F hi mFL_X2_18 dX2_goal_1 ?_
  refine g_aload_n F 0 dX2_goal_4 rfl rfl ?_
  refine gf_7_7 F hi mFL_X2_33 dX2_goal_5 ?_
  refine g_callIn (na := 2) F (c_X5_curveSpeed hj) (gw mCO_yX5_curveSpeed) F.2.2.1.2.2.2.1 mST_yX5_curveSpeed mIN_RX5 rfl rfl (by decide +kernel) ⟨rfl, rfl, Nat.le_of_ble_eq_true rfl, Nat.le_of_ble_eq_true rfl, Nat.le_of_ble_eq_true rfl, Nat.le_of_ble_eq_true rfl, Nat.le_of_ble_eq_true rfl⟩ dX2_goal_8 (fun r_8 u_8 h_8 => ?_)
  obtain ⟨rfl, rfl⟩ := h_8
  try dsimp only
  refine g_topi (fun x1_11 ex1_11 => ?_)
  refine g_istore_n (L' := [(1, _), (0, _)]) F dX2_goal_11 rfl (by decide) rfl ?_
  refine g_aload_n F 1 dX2_goal_12 rfl rfl ?_
  refine gf_7_8 F hi mFL_X2_36 dX2_goal_13 ?_
  refine g_iconst (v := 1) F dX2_goal_16 (by decide) ?_
  refine g_icmp_ne F 24 dX2_goal_17 (by decide) (fun c_17 => ?_) (fun c_17 => ?_)
  · refine g_iload_n F 0 dX2_goal_24 rfl rfl ?_
    refine g_ineg F dX2_goal_25 ?_
    exact g_iret F hr hlk rfl dX2_goal_26 (by simp_all [lcGoal, goalF])
  · refine g_iload_n F 0 dX2_goal_20 rfl rfl ?_
    refine g_goto F 26 dX2_goal_21 (by decide) ?_
    exact g_iret F hr hlk rfl dX2_goal_26 (by simp_all [lcGoal, goalF])
set_option maxHeartbeats 4000000 in
set_option maxRecDepth 100000 in
theorem c_X2_mostGain {l : Launch} {G : Gm} (hj : Aj G) {I : Ii} {pm : Pm} {i : Nat} (hi : i < 88) : CI l G yX2_mostGain (wz yX2_mostGain cX2_mostGain 1 (some .int)) (rmL 0) [.ref (G.2.2 7 i)] I pm (fun r u => r = gainF (I 7 i 1) ∧ u = (I, pm)) := by
  refine CI.walk hj (by decide +kernel) (by show _ ≤ 1; exact Nat.le_of_ble_eq_true rfl) ?_
  intro p e s m args below meth c F hr hlk
  refine g_aload_n F 0 dX2_mostGain_0 rfl rfl ?_
  refine gf_7_1 F hi mFL_X2_15 dX2_mostGain_1 ?_
  refine g_if_le F 17 dX2_mostGain_4 (by decide) (fun c_4 => ?_) (fun c_4 => ?_)
  · refine g_iconst (v := 0) F dX2_mostGain_17 (by decide) ?_
    exact g_iret F hr hlk rfl dX2_mostGain_18 (by first | exact ⟨by rw [gainF, if_pos c_4], rfl⟩ | exact ⟨by rw [gainF, if_neg c_4], rfl⟩)
  · refine g_bipush (v := 60) F dX2_mostGain_7 (by decide) ?_
    refine g_aload_n F 0 dX2_mostGain_9 rfl rfl ?_
    refine gf_7_1 F hi mFL_X2_15 dX2_mostGain_10 ?_
    refine g_idiv F dX2_mostGain_13 (fun q => by rw [q] at c_4; exact c_4 (by decide)) ?_
    refine g_goto F 18 dX2_mostGain_14 (by decide) ?_
    exact g_iret F hr hlk rfl dX2_mostGain_18 (by first | exact ⟨by rw [gainF, if_pos c_4], rfl⟩ | exact ⟨by rw [gainF, if_neg c_4], rfl⟩)
set_option maxHeartbeats 4000000 in
set_option maxRecDepth 100000 in
theorem c_X2_ticksToGoal {l : Launch} {G : Gm} (hj : Aj G) {I : Ii} {pm : Pm} {i : Nat} (hi : i < 88) : CI l G yX2_ticksToGoal (wz yX2_ticksToGoal cX2_ticksToGoal 3 (some .int)) (rmL 2) [.ref (G.2.2 7 i)] I pm (fun r u => r = lcTtg I i ∧ u = (I, pm)) := by
  refine CI.walk hj (by decide +kernel) (by show _ ≤ 3; exact Nat.le_of_ble_eq_true rfl) ?_
  intro p e s m args below meth c F hr hlk
  refine g_aload_n F 0 dX2_ticksToGoal_0 rfl rfl ?_
  refine g_callIv (na := 0) F 7 _ (c_X2_mostGain hj hi) hi rfl rfl lk_X2_49 rfl rfl (by decide +kernel) ⟨rfl, rfl, Nat.le_of_ble_eq_true rfl, Nat.le_of_ble_eq_true rfl, Nat.le_of_ble_eq_true rfl, Nat.le_of_ble_eq_true rfl, Nat.le_of_ble_eq_true rfl⟩ dX2_ticksToGoal_1 (fun r_1 u_1 h_1 => ?_)
  obtain ⟨rfl, rfl⟩ := h_1
  try dsimp only
  refine g_topi (fun x1_4 ex1_4 => ?_)
  refine g_istore_n (L' := [(1, _), (0, _)]) F dX2_ticksToGoal_4 rfl (by decide) rfl ?_
  refine g_aload_n F 1 dX2_ticksToGoal_5 rfl rfl ?_
  refine g_callIv (na := 0) F 7 _ (c_X2_goal hj hi) hi rfl rfl lk_X2_53 rfl rfl (by decide +kernel) ⟨rfl, rfl, Nat.le_of_ble_eq_true rfl, Nat.le_of_ble_eq_true rfl, Nat.le_of_ble_eq_true rfl, Nat.le_of_ble_eq_true rfl, Nat.le_of_ble_eq_true rfl⟩ dX2_ticksToGoal_6 (fun r_6 u_6 h_6 => ?_)
  obtain ⟨rfl, rfl⟩ := h_6
  try dsimp only
  refine g_aload_n F 1 dX2_ticksToGoal_9 rfl rfl ?_
  refine gf_7_5 F hi mFL_X2_27 dX2_ticksToGoal_10 ?_
  refine g_isub F dX2_ticksToGoal_13 ?_
  refine g_mabs F mML_X2_56 mST_LMabs mIN_java_lang_Math mCO_LMabs ⟨Nat.le_of_ble_eq_true rfl, Nat.le_of_ble_eq_true rfl, Nat.le_of_ble_eq_true rfl, Nat.le_of_ble_eq_true rfl⟩ dX2_ticksToGoal_14 ?_
  refine g_topi (fun x2_17 ex2_17 => ?_)
  refine g_istore_n (L' := [(2, _), (1, _), (0, _)]) F dX2_ticksToGoal_17 rfl (by decide) rfl ?_
  refine g_iload_n F 1 dX2_ticksToGoal_18 rfl rfl ?_
  refine g_if_le F 32 dX2_ticksToGoal_19 (by decide) (fun c_19 => ?_) (fun c_19 => ?_)
  · refine g_iconst (v := 0) F dX2_ticksToGoal_32 (by decide) ?_
    exact g_iret F hr hlk rfl dX2_ticksToGoal_33 (by first | exact ⟨by rw [lcTtg, if_pos (by rw [← ex1_4]; exact c_19)], rfl⟩ | exact ⟨by rw [lcTtg, if_neg (by rw [← ex1_4]; exact c_19), ex2_17, ex1_4]; rfl, rfl⟩)
  · refine g_iload_n F 0 dX2_ticksToGoal_22 rfl rfl ?_
    refine g_iload_n F 1 dX2_ticksToGoal_23 rfl rfl ?_
    refine g_iadd F dX2_ticksToGoal_24 ?_
    refine g_iconst (v := 1) F dX2_ticksToGoal_25 (by decide) ?_
    refine g_isub F dX2_ticksToGoal_26 ?_
    refine g_iload_n F 1 dX2_ticksToGoal_27 rfl rfl ?_
    refine g_idiv F dX2_ticksToGoal_28 (fun q => by rw [q] at c_19; exact c_19 (by decide)) ?_
    refine g_goto F 33 dX2_ticksToGoal_29 (by decide) ?_
    exact g_iret F hr hlk rfl dX2_ticksToGoal_33 (by first | exact ⟨by rw [lcTtg, if_pos (by rw [← ex1_4]; exact c_19)], rfl⟩ | exact ⟨by rw [lcTtg, if_neg (by rw [← ex1_4]; exact c_19), ex2_17, ex1_4]; rfl, rfl⟩)
set_option maxHeartbeats 4000000 in
set_option maxRecDepth 100000 in
theorem c_X2_changeSpeed {l : Launch} {G : Gm} (hj : Aj G) {I : Ii} {pm : Pm} {i : Nat} (hi : i < 88) : CV l G yX2_changeSpeed (wz yX2_changeSpeed cX2_changeSpeed 2 none) (rmL 2) [.ref (G.2.2 7 i)] I pm (fun u => u = (up3 I 7 i 5 (spdF (I 7 i 1) (I 7 i 2) (I 7 i 7) (I 7 i 8) (I 7 i 5)), pm)) := by
  refine CV.walk hj (by decide +kernel) (by show _ ≤ 2; exact Nat.le_of_ble_eq_true rfl) ?_
  intro p e s m args below meth c F hr hlk
  refine g_aload_n F 0 dX2_changeSpeed_0 rfl rfl ?_
  refine g_callIv (na := 0) F 7 _ (c_X2_mostGain hj hi) hi rfl rfl lk_X2_49 rfl rfl (by decide +kernel) ⟨rfl, rfl, Nat.le_of_ble_eq_true rfl, Nat.le_of_ble_eq_true rfl, Nat.le_of_ble_eq_true rfl, Nat.le_of_ble_eq_true rfl, Nat.le_of_ble_eq_true rfl⟩ dX2_changeSpeed_1 (fun r_1 u_1 h_1 => ?_)
  obtain ⟨rfl, rfl⟩ := h_1
  try dsimp only
  refine g_topi (fun x1_4 ex1_4 => ?_)
  refine g_istore_n (L' := [(1, _), (0, _)]) F dX2_changeSpeed_4 rfl (by decide) rfl ?_
  refine g_aload_n F 1 dX2_changeSpeed_5 rfl rfl ?_
  refine g_dup F dX2_changeSpeed_6 rfl ?_
  refine gf_7_5 F hi mFL_X2_27 dX2_changeSpeed_7 ?_
  refine g_iload_n F 0 dX2_changeSpeed_10 rfl rfl ?_
  refine g_ineg F dX2_changeSpeed_11 ?_
  refine g_iload_n F 0 dX2_changeSpeed_12 rfl rfl ?_
  refine g_aload_n F 1 dX2_changeSpeed_13 rfl rfl ?_
  refine g_callIv (na := 0) F 7 _ (c_X2_goal hj hi) hi rfl rfl lk_X2_53 rfl rfl (by decide +kernel) ⟨rfl, rfl, Nat.le_of_ble_eq_true rfl, Nat.le_of_ble_eq_true rfl, Nat.le_of_ble_eq_true rfl, Nat.le_of_ble_eq_true rfl, Nat.le_of_ble_eq_true rfl⟩ dX2_changeSpeed_14 (fun r_14 u_14 h_14 => ?_)
  obtain ⟨rfl, rfl⟩ := h_14
  try dsimp only
  refine g_aload_n F 1 dX2_changeSpeed_17 rfl rfl ?_
  refine gf_7_5 F hi mFL_X2_27 dX2_changeSpeed_18 ?_
  refine g_isub F dX2_changeSpeed_21 ?_
  refine g_mmin F mML_X2_62 mST_LMmin mIN_java_lang_Math mCO_LMmin ⟨Nat.le_of_ble_eq_true rfl, Nat.le_of_ble_eq_true rfl, Nat.le_of_ble_eq_true rfl, Nat.le_of_ble_eq_true rfl⟩ dX2_changeSpeed_22 ?_
  refine g_mmax F mML_X2_65 mST_LMmax mIN_java_lang_Math mCO_LMmax ⟨Nat.le_of_ble_eq_true rfl, Nat.le_of_ble_eq_true rfl, Nat.le_of_ble_eq_true rfl, Nat.le_of_ble_eq_true rfl⟩ dX2_changeSpeed_25 ?_
  refine g_iadd F dX2_changeSpeed_28 ?_
  refine gp_7_5 F hi mFL_X2_27 dX2_changeSpeed_29 ?_
  exact g_vret F hr hlk dX2_changeSpeed_32 (by rw [ex1_4]; rfl)
set_option maxHeartbeats 4000000 in
set_option maxRecDepth 100000 in
theorem c_X2_roll {l : Launch} {G : Gm} (hj : Aj G) {I : Ii} {pm : Pm} {i : Nat} (hi : i < 88) : CV l G yX2_roll (wz yX2_roll cX2_roll 3 none) (rmL 1) [.ref (G.2.2 7 i)] I pm (fun u => u = (rollI I i, pm)) := by
  refine CV.walk hj (by decide +kernel) (by show _ ≤ 3; exact Nat.le_of_ble_eq_true rfl) ?_
  intro p e s m args below meth c F hr hlk
  refine g_aload_n F 0 dX2_roll_0 rfl rfl ?_
  refine gf_7_3 F hi mFL_X2_21 dX2_roll_1 ?_
  refine g_bipush (v := 10) F dX2_roll_4 (by decide) ?_
  refine g_imul F dX2_roll_6 ?_
  refine g_aload_n F 0 dX2_roll_7 rfl rfl ?_
  refine gf_7_4 F hi mFL_X2_24 dX2_roll_8 ?_
  refine g_iadd F dX2_roll_11 ?_
  refine g_aload_n F 0 dX2_roll_12 rfl rfl ?_
  refine gf_7_5 F hi mFL_X2_27 dX2_roll_13 ?_
  refine g_iadd F dX2_roll_16 ?_
  refine g_topi (fun x1_17 ex1_17 => ?_)
  refine g_istore_n (L' := [(1, _), (0, _)]) F dX2_roll_17 rfl (by decide) rfl ?_
  refine g_aload_n F 1 dX2_roll_18 rfl rfl ?_
  refine g_dup F dX2_roll_19 rfl ?_
  refine gf_7_6 F hi mFL_X2_30 dX2_roll_20 ?_
  refine g_iload_n F 0 dX2_roll_23 rfl rfl ?_
  refine g_sipush (v := 8000) F dX2_roll_24 (by decide) ?_
  refine g_callIs (na := 2) F (c_J9_floorDiv hj (by decide)) lk_X2_68 rfl rfl (by decide +kernel) ⟨rfl, rfl, Nat.le_of_ble_eq_true rfl, Nat.le_of_ble_eq_true rfl, Nat.le_of_ble_eq_true rfl, Nat.le_of_ble_eq_true rfl, Nat.le_of_ble_eq_true rfl⟩ dX2_roll_27 (fun r_27 u_27 h_27 => ?_)
  obtain ⟨rfl, rfl⟩ := h_27
  try dsimp only
  refine g_iadd F dX2_roll_30 ?_
  refine gp_7_6 F hi mFL_X2_30 dX2_roll_31 ?_
  refine g_iload_n F 0 dX2_roll_34 rfl rfl ?_
  refine g_sipush (v := 8000) F dX2_roll_35 (by decide) ?_
  refine g_callIs (na := 2) F (c_J9_floorMod hj (by decide)) lk_X2_71 rfl rfl (by decide +kernel) ⟨rfl, rfl, Nat.le_of_ble_eq_true rfl, Nat.le_of_ble_eq_true rfl, Nat.le_of_ble_eq_true rfl, Nat.le_of_ble_eq_true rfl, Nat.le_of_ble_eq_true rfl⟩ dX2_roll_38 (fun r_38 u_38 h_38 => ?_)
  obtain ⟨rfl, rfl⟩ := h_38
  try dsimp only
  refine g_topi (fun x2_41 ex2_41 => ?_)
  refine g_istore_n (L' := [(2, _), (1, _), (0, _)]) F dX2_roll_41 rfl (by decide) rfl ?_
  refine g_aload_n F 2 dX2_roll_42 rfl rfl ?_
  refine g_iload_n F 0 dX2_roll_43 rfl rfl ?_
  refine g_bipush (v := 10) F dX2_roll_44 (by decide) ?_
  refine g_idiv F dX2_roll_46 (by decide) ?_
  refine gp_7_3 F hi mFL_X2_21 dX2_roll_47 ?_
  refine g_aload_n F 2 dX2_roll_50 rfl rfl ?_
  refine g_iload_n F 0 dX2_roll_51 rfl rfl ?_
  refine g_bipush (v := 10) F dX2_roll_52 (by decide) ?_
  refine g_irem F dX2_roll_54 (by decide) ?_
  refine gp_7_4 F hi mFL_X2_24 dX2_roll_55 ?_
  exact g_vret F hr hlk dX2_roll_58 (by simp_all [rollI, lcAt])
set_option maxHeartbeats 4000000 in
set_option maxRecDepth 100000 in
theorem c_X2_hear {l : Launch} {G : Gm} (hj : Aj G) {I : Ii} {pm : Pm} {i : Nat} (hi : i < 88) {x : Int32} : CV l G yX2_hear (wz yX2_hear cX2_hear 3 none) (rmL 0) [.ref (G.2.2 7 i), .int x] I pm (fun u => u = (hearI x I i, pm)) := by
  refine CV.walk hj (by decide +kernel) (by show _ ≤ 3; exact Nat.le_of_ble_eq_true rfl) ?_
  intro p e s m args below meth c F hr hlk
  refine g_aload_n F 0 dX2_hear_0 rfl rfl ?_
  refine g_dup F dX2_hear_1 rfl ?_
  refine gf_7_10 F hi mFL_X2_42 dX2_hear_2 ?_
  refine g_iconst (v := 1) F dX2_hear_5 (by decide) ?_
  refine g_iadd F dX2_hear_6 ?_
  refine gp_7_10 F hi mFL_X2_42 dX2_hear_7 ?_
  refine g_iload_n F 1 dX2_hear_10 rfl rfl ?_
  refine g_sipush (v := 128) F dX2_hear_11 (by decide) ?_
  refine g_irem F dX2_hear_14 (by decide) ?_
  refine g_topi (fun x2_15 ex2_15 => ?_)
  refine g_istore_n (L' := [(2, _), (0, _), (1, _)]) F dX2_hear_15 rfl (by decide) rfl ?_
  refine g_iload_n F 0 dX2_hear_16 rfl rfl ?_
  refine g_bipush (v := 28) F dX2_hear_17 (by decide) ?_
  refine g_icmp_gt F 39 dX2_hear_19 (by decide) (fun c_19 => ?_) (fun c_19 => ?_)
  · refine g_iload_n F 2 dX2_hear_39 rfl rfl ?_
    refine g_bipush (v := 31) F dX2_hear_40 (by decide) ?_
    refine g_icmp_ne F 58 dX2_hear_42 (by decide) (fun c_42 => ?_) (fun c_42 => ?_)
    · refine g_iload_n F 2 dX2_hear_58 rfl rfl ?_
      refine g_bipush (v := 64) F dX2_hear_59 (by decide) ?_
      refine g_icmp_lt F 78 dX2_hear_61 (by decide) (fun c_61 => ?_) (fun c_61 => ?_)
      · exact g_vret F hr hlk dX2_hear_78 (by
      rw [ex2_15] at c_19
      simp only [hearI, ex2_15]
      first
      | rw [if_pos (Int32.not_lt.mp c_19)]
      | (rw [if_neg (Int32.not_le.mpr c_19)]
         first
         | rw [if_pos c_42]
         | (rw [if_neg c_42]
            first
            | rw [if_neg (fun q => absurd q.1 (Int32.not_le.mpr c_61))]
            | rw [if_neg (fun q => absurd q.2 (Int32.not_le.mpr c_67))]
            | rw [if_pos ⟨Int32.not_lt.mp c_61, Int32.not_lt.mp c_67⟩])))
      · refine g_iload_n F 2 dX2_hear_64 rfl rfl ?_
        refine g_bipush (v := 67) F dX2_hear_65 (by decide) ?_
        refine g_icmp_gt F 78 dX2_hear_67 (by decide) (fun c_67 => ?_) (fun c_67 => ?_)
        · exact g_vret F hr hlk dX2_hear_78 (by
      rw [ex2_15] at c_19
      simp only [hearI, ex2_15]
      first
      | rw [if_pos (Int32.not_lt.mp c_19)]
      | (rw [if_neg (Int32.not_le.mpr c_19)]
         first
         | rw [if_pos c_42]
         | (rw [if_neg c_42]
            first
            | rw [if_neg (fun q => absurd q.1 (Int32.not_le.mpr c_61))]
            | rw [if_neg (fun q => absurd q.2 (Int32.not_le.mpr c_67))]
            | rw [if_pos ⟨Int32.not_lt.mp c_61, Int32.not_lt.mp c_67⟩])))
        · refine g_aload_n F 1 dX2_hear_70 rfl rfl ?_
          refine g_iload_n F 2 dX2_hear_71 rfl rfl ?_
          refine g_bipush (v := 64) F dX2_hear_72 (by decide) ?_
          refine g_isub F dX2_hear_74 ?_
          refine gp_7_9 F hi mFL_X2_39 dX2_hear_75 ?_
          exact g_vret F hr hlk dX2_hear_78 (by
      rw [ex2_15] at c_19
      simp only [hearI, ex2_15]
      first
      | rw [if_pos (Int32.not_lt.mp c_19)]
      | (rw [if_neg (Int32.not_le.mpr c_19)]
         first
         | rw [if_pos c_42]
         | (rw [if_neg c_42]
            first
            | rw [if_neg (fun q => absurd q.1 (Int32.not_le.mpr c_61))]
            | rw [if_neg (fun q => absurd q.2 (Int32.not_le.mpr c_67))]
            | rw [if_pos ⟨Int32.not_lt.mp c_61, Int32.not_lt.mp c_67⟩])))
    · refine g_aload_n F 1 dX2_hear_45 rfl rfl ?_
      refine g_iconst (v := 0) F dX2_hear_46 (by decide) ?_
      refine gp_7_7 F hi mFL_X2_33 dX2_hear_47 ?_
      refine g_aload_n F 1 dX2_hear_50 rfl rfl ?_
      refine g_iconst (v := 0) F dX2_hear_51 (by decide) ?_
      refine gp_7_5 F hi mFL_X2_27 dX2_hear_52 ?_
      refine g_goto F 78 dX2_hear_55 (by decide) ?_
      exact g_vret F hr hlk dX2_hear_78 (by
      rw [ex2_15] at c_19
      simp only [hearI, ex2_15]
      first
      | rw [if_pos (Int32.not_lt.mp c_19)]
      | (rw [if_neg (Int32.not_le.mpr c_19)]
         first
         | rw [if_pos c_42]
         | (rw [if_neg c_42]
            first
            | rw [if_neg (fun q => absurd q.1 (Int32.not_le.mpr c_61))]
            | rw [if_neg (fun q => absurd q.2 (Int32.not_le.mpr c_67))]
            | rw [if_pos ⟨Int32.not_lt.mp c_61, Int32.not_lt.mp c_67⟩])))
  · refine g_aload_n F 1 dX2_hear_22 rfl rfl ?_
    refine g_iload_n F 0 dX2_hear_23 rfl rfl ?_
    refine gp_7_7 F hi mFL_X2_33 dX2_hear_24 ?_
    refine g_aload_n F 1 dX2_hear_27 rfl rfl ?_
    refine g_iload_n F 2 dX2_hear_28 rfl rfl ?_
    refine g_sipush (v := 128) F dX2_hear_29 (by decide) ?_
    refine g_idiv F dX2_hear_32 (by decide) ?_
    refine gp_7_8 F hi mFL_X2_36 dX2_hear_33 ?_
    refine g_goto F 78 dX2_hear_36 (by decide) ?_
    exact g_vret F hr hlk dX2_hear_78 (by
      rw [ex2_15] at c_19
      simp only [hearI, ex2_15]
      first
      | rw [if_pos (Int32.not_lt.mp c_19)]
      | (rw [if_neg (Int32.not_le.mpr c_19)]
         first
         | rw [if_pos c_42]
         | (rw [if_neg c_42]
            first
            | rw [if_neg (fun q => absurd q.1 (Int32.not_le.mpr c_61))]
            | rw [if_neg (fun q => absurd q.2 (Int32.not_le.mpr c_67))]
            | rw [if_pos ⟨Int32.not_lt.mp c_61, Int32.not_lt.mp c_67⟩])))
set_option maxHeartbeats 4000000 in
set_option maxRecDepth 100000 in
theorem c_X2_told {l : Launch} {G : Gm} (hj : Aj G) {I : Ii} {pm : Pm} {i : Nat} (hi : i < 88) {x : Int32} : CI l G yX2_told (wz yX2_told cX2_told 2 (some .int)) (rmL 2) [.ref (G.2.2 7 i), .int x] I pm (fun r u => r = toldL I i x ∧ u = (I, pm)) := by
  refine CI.walk hj (by decide +kernel) (by show _ ≤ 2; exact Nat.le_of_ble_eq_true rfl) ?_
  intro p e s m args below meth c F hr hlk
  refine g_iload_n F 1 dX2_told_0 rfl rfl ?_
  by_cases hs_1 : 0 ≤ x.toInt ∧ x.toInt ≤ 11
  · obtain ⟨js_1, hj_1, ej_1⟩ := sw_in hs_1.1 hs_1.2 (by decide)
    rcases (show js_1 = 0 ∨ js_1 = 1 ∨ js_1 = 2 ∨ js_1 = 3 ∨ js_1 = 4 ∨ js_1 = 5 ∨ js_1 = 6 ∨ js_1 = 7 ∨ js_1 = 8 ∨ js_1 = 9 ∨ js_1 = 10 ∨ js_1 = 11 by omega) with hq | hq | hq | hq | hq | hq | hq | hq | hq | hq | hq | hq
    · have hs_1_0 : x = 0 := by rw [ej_1, hq] <;> rfl
      refine g_tableIn (off := 63) F 64 dX2_told_1 (by rw [hs_1_0]; decide) (by rw [hs_1_0]; decide) (by rw [hs_1_0]; rfl) (by decide) ?_
      refine g_aload_n F 0 dX2_told_64 rfl rfl ?_
      refine gf_7_1 F hi mFL_X2_15 dX2_told_65 ?_
      exact g_iret F hr hlk rfl dX2_told_68 (by rw [hs_1_0]; exact ⟨rfl, rfl⟩)
    · have hs_1_1 : x = 1 := by rw [ej_1, hq] <;> rfl
      refine g_tableIn (off := 68) F 69 dX2_told_1 (by rw [hs_1_1]; decide) (by rw [hs_1_1]; decide) (by rw [hs_1_1]; rfl) (by decide) ?_
      refine g_aload_n F 0 dX2_told_69 rfl rfl ?_
      refine gf_7_2 F hi mFL_X2_18 dX2_told_70 ?_
      exact g_iret F hr hlk rfl dX2_told_73 (by rw [hs_1_1]; exact ⟨rfl, rfl⟩)
    · have hs_1_2 : x = 2 := by rw [ej_1, hq] <;> rfl
      refine g_tableIn (off := 73) F 74 dX2_told_1 (by rw [hs_1_2]; decide) (by rw [hs_1_2]; decide) (by rw [hs_1_2]; rfl) (by decide) ?_
      refine g_aload_n F 0 dX2_told_74 rfl rfl ?_
      refine gf_7_3 F hi mFL_X2_21 dX2_told_75 ?_
      exact g_iret F hr hlk rfl dX2_told_78 (by rw [hs_1_2]; exact ⟨rfl, rfl⟩)
    · have hs_1_3 : x = 3 := by rw [ej_1, hq] <;> rfl
      refine g_tableIn (off := 78) F 79 dX2_told_1 (by rw [hs_1_3]; decide) (by rw [hs_1_3]; decide) (by rw [hs_1_3]; rfl) (by decide) ?_
      refine g_aload_n F 0 dX2_told_79 rfl rfl ?_
      refine gf_7_4 F hi mFL_X2_24 dX2_told_80 ?_
      exact g_iret F hr hlk rfl dX2_told_83 (by rw [hs_1_3]; exact ⟨rfl, rfl⟩)
    · have hs_1_4 : x = 4 := by rw [ej_1, hq] <;> rfl
      refine g_tableIn (off := 83) F 84 dX2_told_1 (by rw [hs_1_4]; decide) (by rw [hs_1_4]; decide) (by rw [hs_1_4]; rfl) (by decide) ?_
      refine g_aload_n F 0 dX2_told_84 rfl rfl ?_
      refine gf_7_5 F hi mFL_X2_27 dX2_told_85 ?_
      refine g_sipush (v := 1000) F dX2_told_88 (by decide) ?_
      refine g_iadd F dX2_told_91 ?_
      exact g_iret F hr hlk rfl dX2_told_92 (by rw [hs_1_4]; exact ⟨rfl, rfl⟩)
    · have hs_1_5 : x = 5 := by rw [ej_1, hq] <;> rfl
      refine g_tableIn (off := 92) F 93 dX2_told_1 (by rw [hs_1_5]; decide) (by rw [hs_1_5]; decide) (by rw [hs_1_5]; rfl) (by decide) ?_
      refine g_aload_n F 0 dX2_told_93 rfl rfl ?_
      refine g_callIv (na := 0) F 7 _ (c_X2_goal hj hi) hi rfl rfl lk_X2_53 rfl rfl (by decide +kernel) ⟨rfl, rfl, Nat.le_of_ble_eq_true rfl, Nat.le_of_ble_eq_true rfl, Nat.le_of_ble_eq_true rfl, Nat.le_of_ble_eq_true rfl, Nat.le_of_ble_eq_true rfl⟩ dX2_told_94 (fun r_94 u_94 h_94 => ?_)
      obtain ⟨rfl, rfl⟩ := h_94
      try dsimp only
      refine g_sipush (v := 1000) F dX2_told_97 (by decide) ?_
      refine g_iadd F dX2_told_100 ?_
      exact g_iret F hr hlk rfl dX2_told_101 (by rw [hs_1_5]; exact ⟨rfl, rfl⟩)
    · have hs_1_6 : x = 6 := by rw [ej_1, hq] <;> rfl
      refine g_tableIn (off := 101) F 102 dX2_told_1 (by rw [hs_1_6]; decide) (by rw [hs_1_6]; decide) (by rw [hs_1_6]; rfl) (by decide) ?_
      refine g_aload_n F 0 dX2_told_102 rfl rfl ?_
      refine gf_7_7 F hi mFL_X2_33 dX2_told_103 ?_
      exact g_iret F hr hlk rfl dX2_told_106 (by rw [hs_1_6]; exact ⟨rfl, rfl⟩)
    · have hs_1_7 : x = 7 := by rw [ej_1, hq] <;> rfl
      refine g_tableIn (off := 106) F 107 dX2_told_1 (by rw [hs_1_7]; decide) (by rw [hs_1_7]; decide) (by rw [hs_1_7]; rfl) (by decide) ?_
      refine g_aload_n F 0 dX2_told_107 rfl rfl ?_
      refine gf_7_8 F hi mFL_X2_36 dX2_told_108 ?_
      exact g_iret F hr hlk rfl dX2_told_111 (by rw [hs_1_7]; exact ⟨rfl, rfl⟩)
    · have hs_1_8 : x = 8 := by rw [ej_1, hq] <;> rfl
      refine g_tableIn (off := 111) F 112 dX2_told_1 (by rw [hs_1_8]; decide) (by rw [hs_1_8]; decide) (by rw [hs_1_8]; rfl) (by decide) ?_
      refine g_aload_n F 0 dX2_told_112 rfl rfl ?_
      refine gf_7_9 F hi mFL_X2_39 dX2_told_113 ?_
      exact g_iret F hr hlk rfl dX2_told_116 (by rw [hs_1_8]; exact ⟨rfl, rfl⟩)
    · have hs_1_9 : x = 9 := by rw [ej_1, hq] <;> rfl
      refine g_tableIn (off := 116) F 117 dX2_told_1 (by rw [hs_1_9]; decide) (by rw [hs_1_9]; decide) (by rw [hs_1_9]; rfl) (by decide) ?_
      refine g_aload_n F 0 dX2_told_117 rfl rfl ?_
      refine g_callIv (na := 0) F 7 _ (c_X2_blockNumber hj hi) hi rfl rfl lk_X2_74 rfl rfl (by decide +kernel) ⟨rfl, rfl, Nat.le_of_ble_eq_true rfl, Nat.le_of_ble_eq_true rfl, Nat.le_of_ble_eq_true rfl, Nat.le_of_ble_eq_true rfl, Nat.le_of_ble_eq_true rfl⟩ dX2_told_118 (fun r_118 u_118 h_118 => ?_)
      obtain ⟨rfl, rfl⟩ := h_118
      try dsimp only
      exact g_iret F hr hlk rfl dX2_told_121 (by rw [hs_1_9]; exact ⟨rfl, rfl⟩)
    · have hs_1_10 : x = 10 := by rw [ej_1, hq] <;> rfl
      refine g_tableIn (off := 121) F 122 dX2_told_1 (by rw [hs_1_10]; decide) (by rw [hs_1_10]; decide) (by rw [hs_1_10]; rfl) (by decide) ?_
      refine g_aload_n F 0 dX2_told_122 rfl rfl ?_
      refine gf_7_10 F hi mFL_X2_42 dX2_told_123 ?_
      exact g_iret F hr hlk rfl dX2_told_126 (by rw [hs_1_10]; exact ⟨rfl, rfl⟩)
    · have hs_1_11 : x = 11 := by rw [ej_1, hq] <;> rfl
      refine g_tableIn (off := 126) F 127 dX2_told_1 (by rw [hs_1_11]; decide) (by rw [hs_1_11]; decide) (by rw [hs_1_11]; rfl) (by decide) ?_
      refine g_aload_n F 0 dX2_told_127 rfl rfl ?_
      refine gf_7_6 F hi mFL_X2_30 dX2_told_128 ?_
      refine g_sipush (v := 1000) F dX2_told_131 (by decide) ?_
      refine g_iadd F dX2_told_134 ?_
      exact g_iret F hr hlk rfl dX2_told_135 (by rw [hs_1_11]; exact ⟨rfl, rfl⟩)
  · refine g_tableOut F 136 dX2_told_1 (by omega) (by decide) ?_
    refine g_bipush (v := -2) F dX2_told_136 (by decide) ?_
    exact g_iret F hr hlk rfl dX2_told_138 (by refine ⟨?_, rfl⟩; have hk : ∀ k : Int32, 0 ≤ k.toInt → k.toInt ≤ 11 → ¬ x = k := fun k h1 h2 h => hs_1 (by rw [h]; exact ⟨h1, h2⟩); simp only [toldL]; rw [if_neg (hk 0 (by decide) (by decide)), if_neg (hk 1 (by decide) (by decide)), if_neg (hk 2 (by decide) (by decide)), if_neg (hk 3 (by decide) (by decide)), if_neg (hk 4 (by decide) (by decide)), if_neg (hk 5 (by decide) (by decide)), if_neg (hk 6 (by decide) (by decide)), if_neg (hk 7 (by decide) (by decide)), if_neg (hk 8 (by decide) (by decide)), if_neg (hk 9 (by decide) (by decide)), if_neg (hk 10 (by decide) (by decide)), if_neg (hk 11 (by decide) (by decide))])
set_option maxHeartbeats 4000000 in
set_option maxRecDepth 100000 in
theorem c_X2_begin {l : Launch} {G : Gm} (hj : Aj G) {I : Ii} {pm : Pm} {i : Nat} (hi : i < 88) {a b c0 d : Int32} : CV l G yX2_begin (wz yX2_begin cX2_begin 5 none) (rmL 0) [.ref (G.2.2 7 i), .int a, .int b, .int c0, .int d] I pm (fun u => u = (beginI I i a b c0 d, pm)) := by
  refine CV.walk hj (by decide +kernel) (by show _ ≤ 5; exact Nat.le_of_ble_eq_true rfl) ?_
  intro p e s m args below meth c F hr hlk
  refine g_aload_n F 0 dX2_begin_0 rfl rfl ?_
  refine g_iload_n F 1 dX2_begin_1 rfl rfl ?_
  refine gp_7_0 F hi mFL_X2_9 dX2_begin_2 ?_
  refine g_aload_n F 0 dX2_begin_5 rfl rfl ?_
  refine g_iload_n F 2 dX2_begin_6 rfl rfl ?_
  refine gp_7_1 F hi mFL_X2_15 dX2_begin_7 ?_
  refine g_aload_n F 0 dX2_begin_10 rfl rfl ?_
  refine g_iload_n F 3 dX2_begin_11 rfl rfl ?_
  refine gp_7_2 F hi mFL_X2_18 dX2_begin_12 ?_
  refine g_aload_n F 0 dX2_begin_15 rfl rfl ?_
  refine g_iload F 4 dX2_begin_16 rfl ?_
  refine gp_7_3 F hi mFL_X2_21 dX2_begin_18 ?_
  refine g_aload_n F 0 dX2_begin_21 rfl rfl ?_
  refine g_iconst (v := 0) F dX2_begin_22 (by decide) ?_
  refine gp_7_4 F hi mFL_X2_24 dX2_begin_23 ?_
  refine g_aload_n F 0 dX2_begin_26 rfl rfl ?_
  refine g_iconst (v := 0) F dX2_begin_27 (by decide) ?_
  refine gp_7_5 F hi mFL_X2_27 dX2_begin_28 ?_
  refine g_aload_n F 0 dX2_begin_31 rfl rfl ?_
  refine g_iconst (v := 0) F dX2_begin_32 (by decide) ?_
  refine gp_7_6 F hi mFL_X2_30 dX2_begin_33 ?_
  refine g_aload_n F 0 dX2_begin_36 rfl rfl ?_
  refine g_iconst (v := 0) F dX2_begin_37 (by decide) ?_
  refine gp_7_7 F hi mFL_X2_33 dX2_begin_38 ?_
  refine g_aload_n F 0 dX2_begin_41 rfl rfl ?_
  refine g_iconst (v := 1) F dX2_begin_42 (by decide) ?_
  refine gp_7_8 F hi mFL_X2_36 dX2_begin_43 ?_
  refine g_aload_n F 0 dX2_begin_46 rfl rfl ?_
  refine g_iconst (v := 0) F dX2_begin_47 (by decide) ?_
  refine gp_7_9 F hi mFL_X2_39 dX2_begin_48 ?_
  refine g_aload_n F 0 dX2_begin_51 rfl rfl ?_
  refine g_iconst (v := 0) F dX2_begin_52 (by decide) ?_
  refine gp_7_10 F hi mFL_X2_42 dX2_begin_53 ?_
  refine g_vret F hr hlk dX2_begin_56 ?_
  exact rfl
set_option maxHeartbeats 4000000 in
set_option maxRecDepth 100000 in
theorem c_X2_copyFrom {l : Launch} {G : Gm} (hj : Aj G) {I : Ii} {pm : Pm} {i : Nat} (hi : i < 88) {i2 : Nat} (hi2 : i2 < 88) (hne : i2 ≠ i) : CV l G yX2_copyFrom (wz yX2_copyFrom cX2_copyFrom 2 none) (rmL 0) [.ref (G.2.2 7 i), .ref (G.2.2 7 i2)] I pm (fun u => u.2 = pm ∧ (∀ k, k < 11 → u.1 7 i k = I 7 i2 k) ∧ ∀ K n k, ¬ (K = 7 ∧ n = i) → u.1 K n k = I K n k) := by
  refine CV.walk hj (by decide +kernel) (by show _ ≤ 2; exact Nat.le_of_ble_eq_true rfl) ?_
  intro p e s m args below meth c F hr hlk
  refine g_aload_n F 0 dX2_copyFrom_0 rfl rfl ?_
  refine g_aload_n F 1 dX2_copyFrom_1 rfl rfl ?_
  refine gf_7_0 F hi2 mFL_X2_9 dX2_copyFrom_2 ?_
  refine g_eqi (y := I 7 i2 0) (by simp [up3, hne]) ?_
  refine gp_7_0 F hi mFL_X2_9 dX2_copyFrom_5 ?_
  refine g_aload_n F 0 dX2_copyFrom_8 rfl rfl ?_
  refine g_aload_n F 1 dX2_copyFrom_9 rfl rfl ?_
  refine gf_7_1 F hi2 mFL_X2_15 dX2_copyFrom_10 ?_
  refine g_eqi (y := I 7 i2 1) (by simp [up3, hne]) ?_
  refine gp_7_1 F hi mFL_X2_15 dX2_copyFrom_13 ?_
  refine g_aload_n F 0 dX2_copyFrom_16 rfl rfl ?_
  refine g_aload_n F 1 dX2_copyFrom_17 rfl rfl ?_
  refine gf_7_2 F hi2 mFL_X2_18 dX2_copyFrom_18 ?_
  refine g_eqi (y := I 7 i2 2) (by simp [up3, hne]) ?_
  refine gp_7_2 F hi mFL_X2_18 dX2_copyFrom_21 ?_
  refine g_aload_n F 0 dX2_copyFrom_24 rfl rfl ?_
  refine g_aload_n F 1 dX2_copyFrom_25 rfl rfl ?_
  refine gf_7_3 F hi2 mFL_X2_21 dX2_copyFrom_26 ?_
  refine g_eqi (y := I 7 i2 3) (by simp [up3, hne]) ?_
  refine gp_7_3 F hi mFL_X2_21 dX2_copyFrom_29 ?_
  refine g_aload_n F 0 dX2_copyFrom_32 rfl rfl ?_
  refine g_aload_n F 1 dX2_copyFrom_33 rfl rfl ?_
  refine gf_7_4 F hi2 mFL_X2_24 dX2_copyFrom_34 ?_
  refine g_eqi (y := I 7 i2 4) (by simp [up3, hne]) ?_
  refine gp_7_4 F hi mFL_X2_24 dX2_copyFrom_37 ?_
  refine g_aload_n F 0 dX2_copyFrom_40 rfl rfl ?_
  refine g_aload_n F 1 dX2_copyFrom_41 rfl rfl ?_
  refine gf_7_5 F hi2 mFL_X2_27 dX2_copyFrom_42 ?_
  refine g_eqi (y := I 7 i2 5) (by simp [up3, hne]) ?_
  refine gp_7_5 F hi mFL_X2_27 dX2_copyFrom_45 ?_
  refine g_aload_n F 0 dX2_copyFrom_48 rfl rfl ?_
  refine g_aload_n F 1 dX2_copyFrom_49 rfl rfl ?_
  refine gf_7_6 F hi2 mFL_X2_30 dX2_copyFrom_50 ?_
  refine g_eqi (y := I 7 i2 6) (by simp [up3, hne]) ?_
  refine gp_7_6 F hi mFL_X2_30 dX2_copyFrom_53 ?_
  refine g_aload_n F 0 dX2_copyFrom_56 rfl rfl ?_
  refine g_aload_n F 1 dX2_copyFrom_57 rfl rfl ?_
  refine gf_7_7 F hi2 mFL_X2_33 dX2_copyFrom_58 ?_
  refine g_eqi (y := I 7 i2 7) (by simp [up3, hne]) ?_
  refine gp_7_7 F hi mFL_X2_33 dX2_copyFrom_61 ?_
  refine g_aload_n F 0 dX2_copyFrom_64 rfl rfl ?_
  refine g_aload_n F 1 dX2_copyFrom_65 rfl rfl ?_
  refine gf_7_8 F hi2 mFL_X2_36 dX2_copyFrom_66 ?_
  refine g_eqi (y := I 7 i2 8) (by simp [up3, hne]) ?_
  refine gp_7_8 F hi mFL_X2_36 dX2_copyFrom_69 ?_
  refine g_aload_n F 0 dX2_copyFrom_72 rfl rfl ?_
  refine g_aload_n F 1 dX2_copyFrom_73 rfl rfl ?_
  refine gf_7_9 F hi2 mFL_X2_39 dX2_copyFrom_74 ?_
  refine g_eqi (y := I 7 i2 9) (by simp [up3, hne]) ?_
  refine gp_7_9 F hi mFL_X2_39 dX2_copyFrom_77 ?_
  refine g_aload_n F 0 dX2_copyFrom_80 rfl rfl ?_
  refine g_aload_n F 1 dX2_copyFrom_81 rfl rfl ?_
  refine gf_7_10 F hi2 mFL_X2_42 dX2_copyFrom_82 ?_
  refine g_eqi (y := I 7 i2 10) (by simp [up3, hne]) ?_
  refine gp_7_10 F hi mFL_X2_42 dX2_copyFrom_85 ?_
  refine g_vret F hr hlk dX2_copyFrom_88 ?_
  refine ⟨rfl, fun k hk => ?_, fun K n k h => ?_⟩
  · rcases (show k = 0 ∨ k = 1 ∨ k = 2 ∨ k = 3 ∨ k = 4 ∨ k = 5 ∨ k = 6 ∨ k = 7 ∨ k = 8 ∨ k = 9 ∨ k = 10 by omega) with rfl | rfl | rfl | rfl | rfl | rfl | rfl | rfl | rfl | rfl | rfl <;> simp [up3]
  · dsimp only
    repeat rw [up3_n (fun q => h ⟨q.1, q.2.1⟩)]
end
section
/-! PART 11: the mathematical value: a layout's state is the reference's row s of 164 ints -/
abbrev Sg : Type := Nat → Int32
theorem upd_s {σ : Sg} {i : Nat} {v : Int32} : upd σ i v i = v := by simp [upd]
theorem upd_n {σ : Sg} {i j : Nat} {v : Int32} (h : j ≠ i) : upd σ i v j = σ j := by simp [upd, h]
theorem nat_of {x : Int32} (h : 0 ≤ x.toInt) : x = nI x.toInt.toNat := by
  have h3 : x.toInt < 2 ^ 31 := x.toInt_lt
  apply Int32.toInt_inj.mp
  rw [nI_toInt (by omega)]
  omega
def blkS (σ : Sg) (r : Nat) : Nat := (σ (16 + 11 * r + 3)).toInt.toNat / 100
def shS (σ : Sg) (r : Nat) : Prop := 0 < σ (8 + blkS σ r)
def byC (c st : Int32) : Int32 := if c = 0 then 10 * st else if c = 1 then st * st * 10 / 28 else 20 * st - st * st * 10 / 28
def dueC (c st w : Int32) : Int32 := if w = 1 then byC c st else -(byC c st)
def dueS (σ : Sg) (r : Nat) : Int32 := dueC (σ (16 + 11 * r + 2)) (σ (16 + 11 * r + 6)) (σ (16 + 11 * r + 7))
def spdM (m c st w sp : Int32) : Int32 := if 60 / m < dueC c st w - sp then sp + 60 / m else if dueC c st w - sp < -(60 / m) then sp - 60 / m else sp + (dueC c st w - sp)
/-- a loco hears -/
def hearS (r : Nat) (d : Int32) (σ : Sg) : Sg :=
  if d = 31 then upd (upd (upd σ (16 + 11 * r + 9) (σ (16 + 11 * r + 9) + 1)) (16 + 11 * r + 6) 0) (16 + 11 * r + 5) 0
  else if 64 ≤ d ∧ d ≤ 67 then upd (upd σ (16 + 11 * r + 9) (σ (16 + 11 * r + 9) + 1)) (16 + 11 * r + 8) (d - 64)
  else if 0 ≤ d % 128 ∧ d % 128 ≤ 28 then upd (upd (upd σ (16 + 11 * r + 9) (σ (16 + 11 * r + 9) + 1)) (16 + 11 * r + 6) (d % 128)) (16 + 11 * r + 7) (d / 128)
  else upd σ (16 + 11 * r + 9) (σ (16 + 11 * r + 9) + 1)
abbrev hrdS (a : Int32) (σ : Sg) (r : Nat) : Prop := (a = 0 ∨ σ (16 + 11 * r) = a) ∧ ¬ 0 < σ (8 + blkS σ r)
def cmStep (a d : Int32) (r : Nat) (q : Sg × Int32) : Sg × Int32 := if hrdS a q.1 r then (hearS r d q.1, q.2 + 1) else q
def cmL (a d : Int32) : Nat → Sg × Int32 → Sg × Int32
  | 0, q => q
  | r + 1, q => cmStep a d r (cmL a d r q)
/-- a frame comes: how many hear it -/
def comS (n : Nat) (a d c : Int32) (σ : Sg) : Sg × Int32 :=
  if c = a ^^^ d then cmL a d n (upd σ 3 (σ 3 + 1), 0) else (upd (upd σ 3 (σ 3 + 1)) 4 (σ 4 + 1), 0)
/-- the first order goes -/
def dropS (h : Nat) (σ : Sg) : Sg := fun i => if i = 7 then nI (h - 1) else if 104 ≤ i ∧ i < 104 + 3 * (h - 1) then σ (i + 3) else if 104 + 3 * (h - 1) ≤ i ∧ i < 104 + 3 * h then 0 else σ i
/-- where an order comes to stand -/
def iposS (σ : Sg) (u : Int32) : Nat → Nat
  | 0 => 0
  | j + 1 => if σ (104 + 3 * j + 2) < u then iposS σ u j else j + 1
def ordS (h : Nat) (a d u : Int32) (σ : Sg) : Sg := fun i => if i = 7 then nI (h + 1) else if 104 ≤ i ∧ i < 107 + 3 * h then (if (i - 104) / 3 < iposS σ u h then σ i else if (i - 104) / 3 = iposS σ u h then (if (i - 104) % 3 = 0 then a else if (i - 104) % 3 = 1 then d else u) else σ (i - 3)) else σ i
/-- a frame is sent -/
def spoilS (σ : Sg) (h : Nat) : Sg := if 0 < σ 1 ∧ σ 1 ≤ σ 2 then upd (upd (dropS h σ) 2 0) 5 (σ 5 + 1) else dropS h σ
def chkS (σ : Sg) : Int32 := if 0 < σ 1 ∧ σ 1 ≤ σ 2 then ((σ 104 ^^^ σ 105) + 1) % 256 else σ 104 ^^^ σ 105
def sendS (n h : Nat) (σ : Sg) : Sg × Int32 := if h = 0 then (σ, 0) else ((comS n (σ 104) (σ 105) (chkS σ) (spoilS σ h)).1, 1)
def spdS (σ : Sg) (r : Nat) : Int32 := if 0 < σ (8 + blkS σ r) then 0 else spdM (σ (16 + 11 * r + 1)) (σ (16 + 11 * r + 2)) (σ (16 + 11 * r + 6)) (σ (16 + 11 * r + 7)) (σ (16 + 11 * r + 5))
def tenS (σ : Sg) (r : Nat) : Int32 := 10 * σ (16 + 11 * r + 3) + σ (16 + 11 * r + 4) + spdS σ r
def rndC (x : Int32) : Int32 := if x < 0 then -1 else if 8000 ≤ x then 1 else 0
/-- every loco's speed, then every loco's place -/
def drvS (n : Nat) (σ : Sg) : Sg := fun i => if 16 ≤ i ∧ i < 16 + 11 * n then (if (i - 16) % 11 = 3 then (tenS σ ((i - 16) / 11) + 8000) % 8000 / 10 else if (i - 16) % 11 = 4 then (tenS σ ((i - 16) / 11) + 8000) % 8000 % 10 else if (i - 16) % 11 = 5 then spdS σ ((i - 16) / 11) else if (i - 16) % 11 = 10 then σ i + rndC (tenS σ ((i - 16) / 11)) else σ i) else σ i
def shoS (σ : Sg) : Sg := fun i => if 8 ≤ i ∧ i < 16 then σ i - (if 0 < σ i then 1 else 0) else σ i
def tickS (n h : Nat) (σ : Sg) : Sg := upd (upd (shoS (drvS n (sendS n h σ).1)) 0 (σ 0 + 1)) 2 ((sendS n h σ).1 2 + 1)
def LcOk (σ : Sg) (r : Nat) : Prop := (1 ≤ (σ (16 + 11 * r + 1)).toInt ∧ (σ (16 + 11 * r + 1)).toInt ≤ 20) ∧ (0 ≤ (σ (16 + 11 * r + 2)).toInt ∧ (σ (16 + 11 * r + 2)).toInt ≤ 2) ∧ (0 ≤ (σ (16 + 11 * r + 3)).toInt ∧ (σ (16 + 11 * r + 3)).toInt < 800) ∧ (0 ≤ (σ (16 + 11 * r + 4)).toInt ∧ (σ (16 + 11 * r + 4)).toInt ≤ 9) ∧ (-280 ≤ (σ (16 + 11 * r + 5)).toInt ∧ (σ (16 + 11 * r + 5)).toInt ≤ 280) ∧ (0 ≤ (σ (16 + 11 * r + 6)).toInt ∧ (σ (16 + 11 * r + 6)).toInt ≤ 28) ∧ (0 ≤ (σ (16 + 11 * r + 7)).toInt ∧ (σ (16 + 11 * r + 7)).toInt ≤ 1)
def Iv (n h : Nat) (σ : Sg) : Prop := σ 6 = nI n ∧ n ≤ 8 ∧ σ 7 = nI h ∧ h ≤ 20 ∧ (∀ r, r < n → LcOk σ r) ∧ (∀ b, b < 8 → 0 ≤ (σ (8 + b)).toInt ∧ (σ (8 + b)).toInt ≤ 99) ∧ (0 ≤ (σ 1).toInt ∧ (σ 1).toInt ≤ 9) ∧ ∀ j, j < h → (0 ≤ (σ (104 + 3 * j)).toInt ∧ (σ (104 + 3 * j)).toInt ≤ 99) ∧ 0 ≤ (σ (105 + 3 * j)).toInt ∧ (σ (105 + 3 * j)).toInt ≤ 255
/-- the class's slots of a loco, by the reference's numbers -/
def fmS : Nat → Nat
  | 6 => 7
  | 7 => 8
  | 8 => 9
  | 9 => 10
  | 10 => 6
  | f => f
def Rp (n h : Nat) (I : Ii) (pm : Pm) (k : Nat) (σ : Sg) : Prop :=
  (I 0 k 3 = σ 6 ∧ I 0 k 4 = σ 0 ∧ I 0 k 5 = σ 1 ∧ I 0 k 4 - I 0 k 6 = σ 2 ∧ I 0 k 7 = σ 3 ∧ I 0 k 8 = σ 4 ∧ I 0 k 9 = σ 5 ∧ I 2 k 3 = σ 7) ∧ (∀ b, b < 8 → I 6 k b = σ (8 + b)) ∧ (∀ r f, r < n → f < 11 → I 7 (8 * k + pm k r) (fmS f) = σ (16 + 11 * r + f)) ∧ (∀ j, j < h → I 3 k j = σ (104 + 3 * j) ∧ I 4 k j = σ (105 + 3 * j) ∧ I 5 k j = σ (106 + 3 * j)) ∧ (∀ r, r < 8 → pm k r < 8) ∧ (∀ r r', r < 8 → r' < 8 → pm k r = pm k r' → r = r') ∧ σ 6 = nI n ∧ n ≤ 8 ∧ σ 7 = nI h ∧ h ≤ 20
def inL (k K i : Nat) : Prop := (K ≤ 6 ∧ i = k) ∨ (K = 7 ∧ i / 8 = k)
/-- nothing outside layout k has changed -/
def Fr (k : Nat) (I : Ii) (pm : Pm) (I' : Ii) (pm' : Pm) : Prop := (∀ K i c, ¬ inL k K i → I' K i c = I K i c) ∧ ∀ k' r, k' ≠ k → pm' k' r = pm k' r
theorem Fr.rf {k : Nat} {I : Ii} {pm : Pm} : Fr k I pm I pm := ⟨fun _ _ _ _ => rfl, fun _ _ _ => rfl⟩
theorem Fr.tr {k : Nat} {I I1 I2 : Ii} {pm pm1 pm2 : Pm} (h1 : Fr k I pm I1 pm1) (h2 : Fr k I1 pm1 I2 pm2) : Fr k I pm I2 pm2 := ⟨fun K i c h => (h2.1 K i c h).trans (h1.1 K i c h), fun k' r h => (h2.2 k' r h).trans (h1.2 k' r h)⟩
theorem Fr.up {k K i j : Nat} {I : Ii} {pm : Pm} {v : Int32} (h : inL k K i) : Fr k I pm (up3 I K i j v) pm := ⟨fun a b c q => up3_n fun e => q (by rw [e.1, e.2.1]; exact h), fun _ _ _ => rfl⟩
theorem inL_0 {k K : Nat} (h : K ≤ 6) : inL k K k := Or.inl ⟨h, rfl⟩
theorem inL_7 {k j : Nat} (h : j < 8) : inL k 7 (8 * k + j) := Or.inr ⟨rfl, by omega⟩
theorem fmS_lt {f : Nat} (h : f < 11) : fmS f < 11 := by
  rcases (show f = 0 ∨ f = 1 ∨ f = 2 ∨ f = 3 ∨ f = 4 ∨ f = 5 ∨ f = 6 ∨ f = 7 ∨ f = 8 ∨ f = 9 ∨ f = 10 by omega) with rfl | rfl | rfl | rfl | rfl | rfl | rfl | rfl | rfl | rfl | rfl <;> decide
theorem fmS_inj {f g : Nat} (hf : f < 11) (hg : g < 11) (h : fmS f = fmS g) : f = g := by
  have key : ∀ f, f < 11 → ∀ g, g < 11 → fmS f = fmS g → f = g := by decide
  exact key f hf g hg h
theorem Rp.loco {n h : Nat} {I : Ii} {pm : Pm} {k : Nat} {σ : Sg} (R : Rp n h I pm k σ) {r f : Nat} (hr : r < n) (hf : f < 11) (v : Int32) : Rp n h (up3 I 7 (8 * k + pm k r) (fmS f) v) pm k (upd σ (16 + 11 * r + f) v) := by
  obtain ⟨⟨a1, a2, a3, a4, a5, a6, a7, a8⟩, b, c, d, e1, e2, e3, e4, e5, e6⟩ := R
  have n0 : ∀ i, i < 16 → upd σ (16 + 11 * r + f) v i = σ i := fun i hi => upd_n (by omega)
  have n1 : ∀ i, 104 ≤ i → upd σ (16 + 11 * r + f) v i = σ i := fun i hi => upd_n (by omega)
  have u0 : ∀ K i j, K ≠ 7 → up3 I 7 (8 * k + pm k r) (fmS f) v K i j = I K i j := fun K i j hK => up3_k hK
  refine ⟨⟨?_, ?_, ?_, ?_, ?_, ?_, ?_, ?_⟩, fun b' hb => ?_, fun r' f' hr' hf' => ?_, fun j hj => ?_, e1, e2, by rw [n0 6 (by omega)]; exact e3, e4, by rw [n0 7 (by omega)]; exact e5, e6⟩
  · rw [u0 _ _ _ (by decide), n0 _ (by omega)]; exact a1
  · rw [u0 _ _ _ (by decide), n0 _ (by omega)]; exact a2
  · rw [u0 _ _ _ (by decide), n0 _ (by omega)]; exact a3
  · rw [u0 _ _ _ (by decide), u0 _ _ _ (by decide), n0 _ (by omega)]; exact a4
  · rw [u0 _ _ _ (by decide), n0 _ (by omega)]; exact a5
  · rw [u0 _ _ _ (by decide), n0 _ (by omega)]; exact a6
  · rw [u0 _ _ _ (by decide), n0 _ (by omega)]; exact a7
  · rw [u0 _ _ _ (by decide), n0 _ (by omega)]; exact a8
  · rw [u0 _ _ _ (by decide), n0 _ (by omega)]; exact b b' hb
  · by_cases hq : r' = r ∧ f' = f
    · obtain ⟨rfl, rfl⟩ := hq
      rw [up3_s, upd_s]
    · rw [up3_n, upd_n, c r' f' hr' hf']
      · intro q; exact hq ⟨by omega, by omega⟩
      · intro q
        have h1 : pm k r' = pm k r := by omega
        have h2 := e2 r' r (by omega) (by omega) h1
        exact hq ⟨h2, fmS_inj hf' hf q.2.2⟩
  · rw [u0 _ _ _ (by decide), u0 _ _ _ (by decide), u0 _ _ _ (by decide), n1 _ (by omega), n1 _ (by omega), n1 _ (by omega)]; exact d j hj
/-- a number of the layout's own -/
theorem Rp.num {n h : Nat} {I I' : Ii} {pm : Pm} {k : Nat} {σ σ' : Sg} (R : Rp n h I pm k σ) (h7 : ∀ K i j, K ≠ 0 → I' K i j = I K i j) (hs : ∀ i, 6 ≤ i → σ' i = σ i)
    (a1 : I' 0 k 3 = σ' 6) (a2 : I' 0 k 4 = σ' 0) (a3 : I' 0 k 5 = σ' 1) (a4 : I' 0 k 4 - I' 0 k 6 = σ' 2) (a5 : I' 0 k 7 = σ' 3) (a6 : I' 0 k 8 = σ' 4) (a7 : I' 0 k 9 = σ' 5) : Rp n h I' pm k σ' := by
  obtain ⟨⟨-, -, -, -, -, -, -, a8⟩, b, c, d, e1, e2, e3, e4, e5, e6⟩ := R
  refine ⟨⟨a1, a2, a3, a4, a5, a6, a7, ?_⟩, fun b' hb => ?_, fun r' f' hr' hf' => ?_, fun j hj => ?_, e1, e2, by rw [hs 6 (by omega)]; exact e3, e4, by rw [hs 7 (by omega)]; exact e5, e6⟩
  · rw [h7 _ _ _ (by decide), hs _ (by omega)]; exact a8
  · rw [h7 _ _ _ (by decide), hs _ (by omega)]; exact b b' hb
  · rw [h7 _ _ _ (by decide), hs _ (by omega)]; exact c r' f' hr' hf'
  · rw [h7 _ _ _ (by decide), h7 _ _ _ (by decide), h7 _ _ _ (by decide), hs _ (by omega), hs _ (by omega), hs _ (by omega)]; exact d j hj
theorem Rp.hear {n h : Nat} {I : Ii} {pm : Pm} {k : Nat} {σ : Sg} (R : Rp n h I pm k σ) {r : Nat} (hr : r < n) (d : Int32) (hd : 0 ≤ d.toInt ∧ d.toInt ≤ 255) : Rp n h (hearI d I (8 * k + pm k r)) pm k (hearS r d σ) := by
  have hm : (d % 128).toInt = d.toInt % 128 := by rw [Kit.i32_rem_nonneg hd.1]; rfl
  have h9 : I 7 (8 * k + pm k r) 10 = σ (16 + 11 * r + 9) := R.2.2.1 r 9 hr (by decide)
  have R1 := R.loco hr (f := 9) (by decide) (σ (16 + 11 * r + 9) + 1)
  unfold hearI hearS
  rw [h9]
  by_cases c1 : d % 128 ≤ 28
  · have c1' : d.toInt % 128 ≤ 28 := by rw [← hm]; exact i_le.mp c1
    have hn1 : ¬ d = 31 := fun q => by rw [q] at c1'; revert c1'; decide
    have hn2 : ¬ (64 ≤ d ∧ d ≤ 67) := fun q => by
      have q1 := i_le.mp q.1
      have q2 := i_le.mp q.2
      have e1 : (64 : Int32).toInt = 64 := by decide
      have e2 : (67 : Int32).toInt = 67 := by decide
      omega
    have h0 : 0 ≤ d % 128 := i_le.mpr (by rw [hm]; show (0 : Int) ≤ _; omega)
    rw [if_pos c1, if_neg hn1, if_neg hn2, if_pos ⟨h0, c1⟩]
    exact (R1.loco hr (f := 6) (by decide) _).loco hr (f := 7) (by decide) _
  · rw [if_neg c1]
    by_cases c2 : d = 31
    · rw [if_pos c2, if_pos c2]
      exact (R1.loco hr (f := 6) (by decide) _).loco hr (f := 5) (by decide) _
    · rw [if_neg c2, if_neg c2]
      by_cases c3 : 64 ≤ d ∧ d ≤ 67
      · rw [if_pos c3, if_pos c3]
        exact R1.loco hr (f := 8) (by decide) _
      · rw [if_neg c3, if_neg c3, if_neg (fun q => c1 q.2)]
        exact R1
theorem Fr.hear {I : Ii} {pm : Pm} {k j : Nat} (hj : j < 8) (d : Int32) : Fr k I pm (hearI d I (8 * k + j)) pm := by
  have e := inL_7 (k := k) hj
  unfold hearI
  split
  · exact ((Fr.up e).tr (Fr.up e)).tr (Fr.up e)
  · split
    · exact ((Fr.up e).tr (Fr.up e)).tr (Fr.up e)
    · split
      · exact (Fr.up e).tr (Fr.up e)
      · exact Fr.up e
theorem dn_ind {n : Nat} {P : Nat → Prop} (h : ∀ j, j ≤ n → (j < n → P (j + 1)) → P j) : ∀ j, j ≤ n → P j := by
  have key : ∀ t j, j ≤ n → n - j ≤ t → P j := by
    intro t
    induction t with
    | zero => exact fun j hj hz => h j hj (fun q => absurd q (by omega))
    | succ t ih => exact fun j hj hz => h j hj (fun q => ih (j + 1) (by omega) (by omega))
  exact fun j hj => key (n - j) j hj (Nat.le_refl _)
theorem up_ind {P : Nat → Prop} (h : ∀ j, (∀ i, j = i + 1 → P i) → P j) : ∀ j, P j := by
  intro j
  induction j with
  | zero => exact h 0 (fun i q => absurd q (by omega))
  | succ j ih => exact h (j + 1) (fun i q => by cases q; exact ih)
end
section
/-! PART 12: bounds that stay; a frame is taken -/
theorem Rp.cnt {n h : Nat} {I : Ii} {pm : Pm} {k : Nat} {σ : Sg} (R : Rp n h I pm k σ) : I 0 k 3 = nI n := R.1.1.trans R.2.2.2.2.2.2.1
theorem Rp.hel {n h : Nat} {I : Ii} {pm : Pm} {k : Nat} {σ : Sg} (R : Rp n h I pm k σ) : I 2 k 3 = nI h := R.1.2.2.2.2.2.2.2.trans R.2.2.2.2.2.2.2.2.1
theorem Rp.n8 {n h : Nat} {I : Ii} {pm : Pm} {k : Nat} {σ : Sg} (R : Rp n h I pm k σ) : n ≤ 8 := R.2.2.2.2.2.2.2.1
theorem Rp.h20 {n h : Nat} {I : Ii} {pm : Pm} {k : Nat} {σ : Sg} (R : Rp n h I pm k σ) : h ≤ 20 := R.2.2.2.2.2.2.2.2.2
theorem Rp.p8 {n h : Nat} {I : Ii} {pm : Pm} {k : Nat} {σ : Sg} (R : Rp n h I pm k σ) {r : Nat} (hr : r < 8) : pm k r < 8 := R.2.2.2.2.1 r hr
theorem Rp.lc {n h : Nat} {I : Ii} {pm : Pm} {k : Nat} {σ : Sg} (R : Rp n h I pm k σ) {r f : Nat} (hr : r < n) (hf : f < 11) : I 7 (8 * k + pm k r) (fmS f) = σ (16 + 11 * r + f) := R.2.2.1 r f hr hf
theorem Rp.sh {n h : Nat} {I : Ii} {pm : Pm} {k : Nat} {σ : Sg} (R : Rp n h I pm k σ) {b : Nat} (hb : b < 8) : I 6 k b = σ (8 + b) := R.2.1 b hb
theorem blk_lt {σ : Sg} {r : Nat} (h : LcOk σ r) : blkS σ r < 8 := by
  have := h.2.2.1
  unfold blkS
  omega
theorem blk_eq {σ : Sg} {r : Nat} (h : LcOk σ r) : σ (16 + 11 * r + 3) / 100 = nI (blkS σ r) := by
  have h3 := h.2.2.1
  unfold blkS
  exact nx_div (nat_of h3.1) (b := 100) rfl (by omega) (by decide) (by decide)
theorem Rp.blk {n h : Nat} {I : Ii} {pm : Pm} {k : Nat} {σ : Sg} (R : Rp n h I pm k σ) {r : Nat} (hr : r < n) (h : LcOk σ r) : I 7 (8 * k + pm k r) 3 / 100 = nI (blkS σ r) := by
  rw [← blk_eq h, ← R.lc hr (f := 3) (by decide)]
  rfl
theorem LcOk.cong {σ σ' : Sg} {r : Nat} (h : LcOk σ r) (e : ∀ f, f < 11 → σ' (16 + 11 * r + f) = σ (16 + 11 * r + f)) : LcOk σ' r := by
  unfold LcOk
  rw [e 1 (by decide), e 2 (by decide), e 3 (by decide), e 4 (by decide), e 5 (by decide), e 6 (by decide), e 7 (by decide)]
  exact h
theorem Iv.num {n h : Nat} {σ σ' : Sg} (V : Iv n h σ) (e : ∀ i, 6 ≤ i → σ' i = σ i) (e1 : σ' 1 = σ 1) : Iv n h σ' := by
  obtain ⟨v1, v2, v3, v4, v5, v6, v7, v8⟩ := V
  refine ⟨by rw [e 6 (by decide)]; exact v1, v2, by rw [e 7 (by decide)]; exact v3, v4, fun r hr => (v5 r hr).cong (fun f hf => e _ (by omega)), fun b hb => by rw [e _ (by omega)]; exact v6 b hb, by rw [e1]; exact v7, fun j hj => ?_⟩
  rw [e _ (by omega), e _ (by omega)]
  exact v8 j hj
/-- the numbers of one loco change, and stay in their bounds -/
theorem Iv.loco {n h : Nat} {σ σ' : Sg} (V : Iv n h σ) {r : Nat} (hr : r < n) (e : ∀ i, (i < 16 + 11 * r ∨ 16 + 11 * r + 11 ≤ i) → σ' i = σ i) (hl : LcOk σ' r) : Iv n h σ' := by
  obtain ⟨v1, v2, v3, v4, v5, v6, v7, v8⟩ := V
  refine ⟨by rw [e 6 (by omega)]; exact v1, v2, by rw [e 7 (by omega)]; exact v3, v4, fun r' hr' => ?_, fun b hb => by rw [e _ (by omega)]; exact v6 b hb, by rw [e 1 (by omega)]; exact v7, fun j hj => ?_⟩
  · by_cases hq : r' = r
    · subst hq; exact hl
    · exact (v5 r' hr').cong (fun f hf => e _ (by omega))
  · rw [e _ (by omega), e _ (by omega)]
    exact v8 j hj
theorem hear_out {σ : Sg} {r : Nat} {d : Int32} {i : Nat} (h : i < 16 + 11 * r ∨ 16 + 11 * r + 11 ≤ i) : hearS r d σ i = σ i := by
  unfold hearS
  have n9 : i ≠ 16 + 11 * r + 9 := by omega
  have n6 : i ≠ 16 + 11 * r + 6 := by omega
  have n7 : i ≠ 16 + 11 * r + 7 := by omega
  have n5 : i ≠ 16 + 11 * r + 5 := by omega
  have n8 : i ≠ 16 + 11 * r + 8 := by omega
  split
  · rw [upd_n n5, upd_n n6, upd_n n9]
  · split
    · rw [upd_n n8, upd_n n9]
    · split
      · rw [upd_n n7, upd_n n6, upd_n n9]
      · rw [upd_n n9]
theorem Iv.hear {n h : Nat} {σ : Sg} (V : Iv n h σ) {r : Nat} (hr : r < n) {d : Int32} (hd : 0 ≤ d.toInt ∧ d.toInt ≤ 255) : Iv n h (hearS r d σ) := by
  refine V.loco hr (fun i hi => hear_out hi) ?_
  have L := V.2.2.2.2.1 r hr
  obtain ⟨l1, l2, l3, l4, l5, l6, l7⟩ := L
  have hm : (d % 128).toInt = d.toInt % 128 := by rw [Kit.i32_rem_nonneg hd.1]; rfl
  have hq : d / 128 = nI (d.toInt.toNat / 128) := nx_div (nat_of hd.1) (b := 128) rfl (by omega) (by decide) (by decide)
  have hq2 : (d / 128).toInt = ((d.toInt.toNat / 128 : Nat) : Int) := by rw [hq, nI_toInt (by omega)]
  unfold hearS LcOk
  split
  · simp only [upd]
    simp
    exact ⟨l1, l2, l3, l4, l7⟩
  · split
    · simp only [upd]
      simp
      exact ⟨l1, l2, l3, l4, l5, l6, l7⟩
    · split
      · simp only [upd]
        simp [-Int32.toInt_div, -Int32.toInt_mod]
        rw [hm, hq2]
        refine ⟨l1, l2, l3, l4, l5, ⟨by omega, ?_⟩, by omega, by omega⟩
        rename_i q
        have q2 := i_le.mp q.2
        rw [hm] at q2
        exact q2
      · simp only [upd]
        simp
        exact ⟨l1, l2, l3, l4, l5, l6, l7⟩
theorem Iv.cml {n h : Nat} {a d : Int32} (hd : 0 ≤ d.toInt ∧ d.toInt ≤ 255) {q : Sg × Int32} (V : Iv n h q.1) : ∀ j, j ≤ n → Iv n h (cmL a d j q).1 := by
  intro j
  induction j with
  | zero => exact fun _ => V
  | succ j ih =>
    intro hj
    have h1 := ih (by omega)
    show Iv n h (cmStep a d j (cmL a d j q)).1
    unfold cmStep
    split
    · exact h1.hear (by omega) hd
    · exact h1
theorem Iv.com {n h : Nat} {a d c : Int32} {σ : Sg} (V : Iv n h σ) (hd : 0 ≤ d.toInt ∧ d.toInt ≤ 255) : Iv n h (comS n a d c σ).1 := by
  have V1 : Iv n h (upd σ 3 (σ 3 + 1)) := V.num (fun i hi => upd_n (by omega)) (by simp [upd])
  unfold comS
  split
  · exact Iv.cml hd V1 n (Nat.le_refl _)
  · exact V1.num (fun i hi => upd_n (by omega)) (by simp [upd])

set_option maxHeartbeats 4000000 in
set_option maxRecDepth 100000 in
theorem c_X1_isShorted {l : Launch} {G : Gm} (hj : Aj G) {I : Ii} {pm : Pm} {k : Nat} (hk : k < 11) {x : Int32} {b : Nat} (hb : b < 8) (hx : x = nI b) : CI l G yX1_isShorted (wz yX1_isShorted cX1_isShorted 2 (some .boolean)) (rmL 0) [.ref (G.2.2 0 k), .int x] I pm (fun r u => r = bz (0 < I 6 k b) ∧ u = (I, pm)) := by
  refine CI.walk hj (by decide +kernel) (by show _ ≤ 2; exact Nat.le_of_ble_eq_true rfl) ?_
  intro p e s m args below meth c F hr hlk
  refine g_iload_n F 1 dX1_isShorted_0 rfl rfl ?_
  refine g_if_lt F 23 dX1_isShorted_1 (by decide) (fun c_1 => ?_) (fun c_1 => ?_)
  · have n_1 := nx_ltt (a := b) (b := 0) hx rfl (by omega) (by omega) c_1
    omega
  · have n_1 := nx_ltf (a := b) (b := 0) hx rfl (by omega) (by omega) c_1
    refine g_iload_n F 1 dX1_isShorted_4 rfl rfl ?_
    refine g_bipush (v := 8) F dX1_isShorted_5 (by decide) ?_
    refine g_icmp_ge F 23 dX1_isShorted_7 (by decide) (fun c_7 => ?_) (fun c_7 => ?_)
    · have n_7 := nx_get (a := b) (b := 8) hx rfl (by omega) (by omega) c_7
      omega
    · have n_7 := nx_gef (a := b) (b := 8) hx rfl (by omega) (by omega) c_7
      skip
      refine g_aload_n F 0 dX1_isShorted_10 rfl rfl ?_
      refine gf_0_2 F hk mFL_X1_24 dX1_isShorted_11 ?_
      refine g_iload_n F 1 dX1_isShorted_14 rfl rfl ?_
      refine ga_6 (j := b) F hk hx (by omega) dX1_isShorted_15 ?_
      refine g_if_le F 23 dX1_isShorted_16 (by decide) (fun c_16 => ?_) (fun c_16 => ?_)
      · refine g_iconst (v := 0) F dX1_isShorted_23 (by decide) ?_
        exact g_iret F hr hlk rfl dX1_isShorted_24 (by simp_all [bz, Int32.not_le, Int32.not_lt])
      · refine g_iconst (v := 1) F dX1_isShorted_19 (by decide) ?_
        refine g_goto F 24 dX1_isShorted_20 (by decide) ?_
        exact g_iret F hr hlk rfl dX1_isShorted_24 (by simp_all [bz, Int32.not_le, Int32.not_lt])
set_option maxHeartbeats 4000000 in
set_option maxRecDepth 100000 in
theorem c_X1_takeFrame {l : Launch} {G : Gm} (hj : Aj G) {I : Ii} {pm : Pm} {k : Nat} (hk : k < 11) {n h : Nat} {σ : Sg} (R : Rp n h I pm k σ) (V : Iv n h σ) {x y z : Int32} : CI l G yX1_takeFrame (wz yX1_takeFrame cX1_takeFrame 7 (some .int)) (rmL 2) [.ref (G.2.2 0 k), .int x, .int y, .int z] I pm (fun r u => (¬ ((0 ≤ x ∧ x ≤ 255) ∧ (0 ≤ y ∧ y ≤ 255) ∧ (0 ≤ z ∧ z ≤ 255)) ∧ r = -2 ∧ u = (I, pm)) ∨ ((0 ≤ x ∧ x ≤ 255) ∧ (0 ≤ y ∧ y ≤ 255) ∧ (0 ≤ z ∧ z ≤ 255)) ∧ r = (comS n x y z σ).2 ∧ Rp n h u.1 u.2 k (comS n x y z σ).1 ∧ Fr k I pm u.1 u.2) := by
  refine CI.walk hj (by decide +kernel) (by show _ ≤ 7; exact Nat.le_of_ble_eq_true rfl) ?_
  intro p e s m args below meth c F hr hlk
  have hn8 := R.n8
  have LOOP : ∀ j, j ≤ n → ((0 ≤ x ∧ x ≤ 255) ∧ (0 ≤ y ∧ y ≤ 255) ∧ (0 ≤ z ∧ z ≤ 255)) → z = x ^^^ y → ∀ (I2 : Ii) (pm2 : Pm) (q : Sg × Int32) (hc xj : Int32), xj = nI j → q = cmL x y j (upd σ 3 (σ 3 + 1), 0) → hc = q.2 → Rp n h I2 pm2 k q.1 → Fr k I pm I2 pm2 → GG p l e (rmL 2) s m args below meth c G (AA G) 7 0 0 (MQ below (va_Qi (fun r u => (¬ ((0 ≤ x ∧ x ≤ 255) ∧ (0 ≤ y ∧ y ≤ 255) ∧ (0 ≤ z ∧ z ≤ 255)) ∧ r = -2 ∧ u = (I, pm)) ∨ ((0 ≤ x ∧ x ≤ 255) ∧ (0 ≤ y ∧ y ≤ 255) ∧ (0 ≤ z ∧ z ≤ 255)) ∧ r = (comS n x y z σ).2 ∧ Rp n h u.1 u.2 k (comS n x y z σ).1 ∧ Fr k I pm u.1 u.2) (fun u t => Wd G u.1 u.2 t.heap) (AA G)) args s 0 0 (AA G)) I2 pm2 [(0, .ref (G.2.2 0 k)), (1, .int x), (2, .int y), (3, .int z), (4, .int hc), (5, .int xj)] 71 [] := by
    refine dn_ind ?_
    intro j hjl ih hb hz I2 pm2 q hc xj ej hq eh R2 F2
    have hdI : 0 ≤ y.toInt ∧ y.toInt ≤ 255 := ⟨i_le.mp hb.2.1.1, i_le.mp hb.2.1.2⟩
    have V2 : Iv n h q.1 := by rw [hq]; exact Iv.cml hdI (V.num (fun i hi => upd_n (by omega)) (by simp [upd])) j hjl
    refine g_iload F 5 dX1_takeFrame_71 rfl ?_
    refine g_aload_n F 0 dX1_takeFrame_73 rfl rfl ?_
    refine gf_0_3 F hk mFL_X1_29 dX1_takeFrame_74 ?_
    refine g_icmp_ge F 129 dX1_takeFrame_77 (by decide) (fun c_77 => ?_) (fun c_77 => ?_)
    · have n_77 := nx_get (a := j) (b := n) ej R2.cnt (by omega) (by omega) c_77
      refine g_iload F 4 dX1_takeFrame_129 rfl ?_
      exact g_iret F hr hlk rfl dX1_takeFrame_131 (by
      have hjn : j = n := by omega
      subst hjn
      refine Or.inr ⟨hb, ?_⟩
      unfold comS
      rw [if_pos hz, ← hq]
      exact ⟨eh, R2, F2⟩)
    · have n_77 := nx_gef (a := j) (b := n) ej R2.cnt (by omega) (by omega) c_77
      refine g_aload_n F 0 dX1_takeFrame_80 rfl rfl ?_
      refine gf_0_0 F hk mFL_X1_11 dX1_takeFrame_81 ?_
      refine g_iload F 5 dX1_takeFrame_84 rfl ?_
      refine ga_1 (j := j) F hk ej (by omega) dX1_takeFrame_86 ?_
      refine g_astore (L' := [(6, _), (0, _), (1, _), (2, _), (3, _), (4, _), (5, _)]) F dX1_takeFrame_87 (by decide) rfl ?_
      have hi7 : 8 * k + pm2 k j < 88 := by have := R2.p8 (r := j) (by omega); omega
      have LL := V2.2.2.2.2.1 j (by omega)
      have ea : I2 7 (8 * k + pm2 k j) 0 = q.1 (16 + 11 * j) := R2.lc (r := j) (f := 0) (by omega) (by decide)
      refine g_iload_n F 2 dX1_takeFrame_89 rfl rfl ?_
      refine g_if_eq F 102 dX1_takeFrame_90 (by decide) (fun c_90 => ?_) (fun c_90 => ?_)
      · have H1 : x = 0 ∨ q.1 (16 + 11 * j) = x := Or.inl c_90
        refine g_aload_n F 1 dX1_takeFrame_102 rfl rfl ?_
        refine g_aload F 0 dX1_takeFrame_103 rfl ?_
        refine g_callIv (na := 0) F 7 _ (c_X2_blockNumber hj hi7) hi7 rfl rfl lk_X1_87 rfl rfl (by decide +kernel) ⟨rfl, rfl, Nat.le_of_ble_eq_true rfl, Nat.le_of_ble_eq_true rfl, Nat.le_of_ble_eq_true rfl, Nat.le_of_ble_eq_true rfl, Nat.le_of_ble_eq_true rfl⟩ dX1_takeFrame_105 (fun r_105 u_105 h_105 => ?_)
        obtain ⟨rfl, rfl⟩ := h_105
        try dsimp only
        refine g_callIv (na := 1) F 0 _ (c_X1_isShorted hj hk (blk_lt LL) (R2.blk (by omega) LL)) hk rfl rfl lk_X1_91 rfl rfl (by decide +kernel) ⟨rfl, rfl, Nat.le_of_ble_eq_true rfl, Nat.le_of_ble_eq_true rfl, Nat.le_of_ble_eq_true rfl, Nat.le_of_ble_eq_true rfl, Nat.le_of_ble_eq_true rfl⟩ dX1_takeFrame_108 (fun r_108 u_108 h_108 => ?_)
        obtain ⟨rfl, rfl⟩ := h_108
        try dsimp only
        rw [R2.sh (blk_lt LL)]
        refine g_if_ne F 123 dX1_takeFrame_111 (by decide) (fun c_111 => ?_) (fun c_111 => ?_)
        · have HH : ¬ hrdS x q.1 j := fun w => w.2 (bz_n.mp c_111)
          refine g_iincC (q := 1) (L' := [(5, _), (6, _), (0, _), (1, _), (2, _), (3, _), (4, _)]) F 6 dX1_takeFrame_123 (by decide) rfl (by decide) rfl ?_
          refine g_goto F 71 dX1_takeFrame_126 (by decide) ?_
          refine g_sub [2, 3, 4, 5, 6, 0] rfl ?_
          first
          | exact ih (by omega) hb hz _ _ (hearS j y q.1, q.2 + 1) _ _ (nx_add ej rfl) (by rw [cmL, ← hq, cmStep, if_pos HH]) (by rw [eh]) (R2.hear (by omega) y hdI) (F2.tr (Fr.hear (R2.p8 (by omega)) y))
          | exact ih (by omega) hb hz _ _ q _ _ (nx_add ej rfl) (by rw [cmL, ← hq, cmStep, if_neg HH]) eh R2 F2
        · have HH : hrdS x q.1 j := ⟨H1, bz_0.mp c_111⟩
          refine g_aload F 0 dX1_takeFrame_114 rfl ?_
          refine g_iload_n F 3 dX1_takeFrame_116 rfl rfl ?_
          refine g_callVv (na := 1) F 7 _ (c_X2_hear hj hi7) hi7 rfl rfl lk_X1_94 rfl rfl (by decide +kernel) ⟨rfl, rfl, Nat.le_of_ble_eq_true rfl, Nat.le_of_ble_eq_true rfl, Nat.le_of_ble_eq_true rfl, Nat.le_of_ble_eq_true rfl, Nat.le_of_ble_eq_true rfl⟩ dX1_takeFrame_117 (fun u_117 h_117 => ?_)
          subst h_117
          try dsimp only
          refine g_iincC (q := 1) (L' := [(4, _), (6, _), (0, _), (1, _), (2, _), (3, _), (5, _)]) F 5 dX1_takeFrame_120 (by decide) rfl (by decide) rfl ?_
          refine g_iincC (q := 1) (L' := [(5, _), (4, _), (6, _), (0, _), (1, _), (2, _), (3, _)]) F 6 dX1_takeFrame_123 (by decide) rfl (by decide) rfl ?_
          refine g_goto F 71 dX1_takeFrame_126 (by decide) ?_
          refine g_sub [3, 4, 5, 6, 1, 0] rfl ?_
          first
          | exact ih (by omega) hb hz _ _ (hearS j y q.1, q.2 + 1) _ _ (nx_add ej rfl) (by rw [cmL, ← hq, cmStep, if_pos HH]) (by rw [eh]) (R2.hear (by omega) y hdI) (F2.tr (Fr.hear (R2.p8 (by omega)) y))
          | exact ih (by omega) hb hz _ _ q _ _ (nx_add ej rfl) (by rw [cmL, ← hq, cmStep, if_neg HH]) eh R2 F2
      · refine g_iload_n F 2 dX1_takeFrame_93 rfl rfl ?_
        refine g_aload F 0 dX1_takeFrame_94 rfl ?_
        refine gf_7_0 F hi7 mFL_X1_76 dX1_takeFrame_96 ?_
        refine g_icmp_ne F 123 dX1_takeFrame_99 (by decide) (fun c_99 => ?_) (fun c_99 => ?_)
        · have HH : ¬ hrdS x q.1 j := fun w => w.1.elim c_90 (fun w2 => c_99 (by rw [ea, w2]))
          refine g_iincC (q := 1) (L' := [(5, _), (6, _), (0, _), (1, _), (2, _), (3, _), (4, _)]) F 6 dX1_takeFrame_123 (by decide) rfl (by decide) rfl ?_
          refine g_goto F 71 dX1_takeFrame_126 (by decide) ?_
          refine g_sub [2, 3, 4, 5, 6, 0] rfl ?_
          first
          | exact ih (by omega) hb hz _ _ (hearS j y q.1, q.2 + 1) _ _ (nx_add ej rfl) (by rw [cmL, ← hq, cmStep, if_pos HH]) (by rw [eh]) (R2.hear (by omega) y hdI) (F2.tr (Fr.hear (R2.p8 (by omega)) y))
          | exact ih (by omega) hb hz _ _ q _ _ (nx_add ej rfl) (by rw [cmL, ← hq, cmStep, if_neg HH]) eh R2 F2
        · have H1 : x = 0 ∨ q.1 (16 + 11 * j) = x := Or.inr (by rw [← ea]; exact c_99.symm)
          refine g_aload_n F 1 dX1_takeFrame_102 rfl rfl ?_
          refine g_aload F 0 dX1_takeFrame_103 rfl ?_
          refine g_callIv (na := 0) F 7 _ (c_X2_blockNumber hj hi7) hi7 rfl rfl lk_X1_87 rfl rfl (by decide +kernel) ⟨rfl, rfl, Nat.le_of_ble_eq_true rfl, Nat.le_of_ble_eq_true rfl, Nat.le_of_ble_eq_true rfl, Nat.le_of_ble_eq_true rfl, Nat.le_of_ble_eq_true rfl⟩ dX1_takeFrame_105 (fun r_105 u_105 h_105 => ?_)
          obtain ⟨rfl, rfl⟩ := h_105
          try dsimp only
          refine g_callIv (na := 1) F 0 _ (c_X1_isShorted hj hk (blk_lt LL) (R2.blk (by omega) LL)) hk rfl rfl lk_X1_91 rfl rfl (by decide +kernel) ⟨rfl, rfl, Nat.le_of_ble_eq_true rfl, Nat.le_of_ble_eq_true rfl, Nat.le_of_ble_eq_true rfl, Nat.le_of_ble_eq_true rfl, Nat.le_of_ble_eq_true rfl⟩ dX1_takeFrame_108 (fun r_108 u_108 h_108 => ?_)
          obtain ⟨rfl, rfl⟩ := h_108
          try dsimp only
          rw [R2.sh (blk_lt LL)]
          refine g_if_ne F 123 dX1_takeFrame_111 (by decide) (fun c_111 => ?_) (fun c_111 => ?_)
          · have HH : ¬ hrdS x q.1 j := fun w => w.2 (bz_n.mp c_111)
            refine g_iincC (q := 1) (L' := [(5, _), (6, _), (0, _), (1, _), (2, _), (3, _), (4, _)]) F 6 dX1_takeFrame_123 (by decide) rfl (by decide) rfl ?_
            refine g_goto F 71 dX1_takeFrame_126 (by decide) ?_
            refine g_sub [2, 3, 4, 5, 6, 0] rfl ?_
            first
            | exact ih (by omega) hb hz _ _ (hearS j y q.1, q.2 + 1) _ _ (nx_add ej rfl) (by rw [cmL, ← hq, cmStep, if_pos HH]) (by rw [eh]) (R2.hear (by omega) y hdI) (F2.tr (Fr.hear (R2.p8 (by omega)) y))
            | exact ih (by omega) hb hz _ _ q _ _ (nx_add ej rfl) (by rw [cmL, ← hq, cmStep, if_neg HH]) eh R2 F2
          · have HH : hrdS x q.1 j := ⟨H1, bz_0.mp c_111⟩
            refine g_aload F 0 dX1_takeFrame_114 rfl ?_
            refine g_iload_n F 3 dX1_takeFrame_116 rfl rfl ?_
            refine g_callVv (na := 1) F 7 _ (c_X2_hear hj hi7) hi7 rfl rfl lk_X1_94 rfl rfl (by decide +kernel) ⟨rfl, rfl, Nat.le_of_ble_eq_true rfl, Nat.le_of_ble_eq_true rfl, Nat.le_of_ble_eq_true rfl, Nat.le_of_ble_eq_true rfl, Nat.le_of_ble_eq_true rfl⟩ dX1_takeFrame_117 (fun u_117 h_117 => ?_)
            subst h_117
            try dsimp only
            refine g_iincC (q := 1) (L' := [(4, _), (6, _), (0, _), (1, _), (2, _), (3, _), (5, _)]) F 5 dX1_takeFrame_120 (by decide) rfl (by decide) rfl ?_
            refine g_iincC (q := 1) (L' := [(5, _), (4, _), (6, _), (0, _), (1, _), (2, _), (3, _)]) F 6 dX1_takeFrame_123 (by decide) rfl (by decide) rfl ?_
            refine g_goto F 71 dX1_takeFrame_126 (by decide) ?_
            refine g_sub [3, 4, 5, 6, 1, 0] rfl ?_
            first
            | exact ih (by omega) hb hz _ _ (hearS j y q.1, q.2 + 1) _ _ (nx_add ej rfl) (by rw [cmL, ← hq, cmStep, if_pos HH]) (by rw [eh]) (R2.hear (by omega) y hdI) (F2.tr (Fr.hear (R2.p8 (by omega)) y))
            | exact ih (by omega) hb hz _ _ q _ _ (nx_add ej rfl) (by rw [cmL, ← hq, cmStep, if_neg HH]) eh R2 F2
  refine g_iload_n F 1 dX1_takeFrame_0 rfl rfl ?_
  refine g_iconst (v := 0) F dX1_takeFrame_1 (by decide) ?_
  refine g_sipush (v := 255) F dX1_takeFrame_2 (by decide) ?_
  refine g_callIn (na := 3) F (c_X5_within hj) (gw mCO_yX5_within) F.2.2.1.1 mST_yX5_within mIN_RX5 rfl rfl (by decide +kernel) ⟨rfl, rfl, Nat.le_of_ble_eq_true rfl, Nat.le_of_ble_eq_true rfl, Nat.le_of_ble_eq_true rfl, Nat.le_of_ble_eq_true rfl, Nat.le_of_ble_eq_true rfl⟩ dX1_takeFrame_5 (fun r_5 u_5 h_5 => ?_)
  obtain ⟨rfl, rfl⟩ := h_5
  try dsimp only
  refine g_if_eq F 33 dX1_takeFrame_8 (by decide) (fun c_8 => ?_) (fun c_8 => ?_)
  · have N1 := bz_0.mp c_8
    refine g_bipush (v := -2) F dX1_takeFrame_33 (by decide) ?_
    exact g_iret F hr hlk rfl dX1_takeFrame_35 (by refine Or.inl ⟨fun w => ?_, rfl, rfl⟩; first | exact N1 w.1 | exact N2 w.2.1 | exact N3 w.2.2)
  · have P1 := bz_n.mp c_8
    refine g_iload_n F 2 dX1_takeFrame_11 rfl rfl ?_
    refine g_iconst (v := 0) F dX1_takeFrame_12 (by decide) ?_
    refine g_sipush (v := 255) F dX1_takeFrame_13 (by decide) ?_
    refine g_callIn (na := 3) F (c_X5_within hj) (gw mCO_yX5_within) F.2.2.1.1 mST_yX5_within mIN_RX5 rfl rfl (by decide +kernel) ⟨rfl, rfl, Nat.le_of_ble_eq_true rfl, Nat.le_of_ble_eq_true rfl, Nat.le_of_ble_eq_true rfl, Nat.le_of_ble_eq_true rfl, Nat.le_of_ble_eq_true rfl⟩ dX1_takeFrame_16 (fun r_16 u_16 h_16 => ?_)
    obtain ⟨rfl, rfl⟩ := h_16
    try dsimp only
    refine g_if_eq F 33 dX1_takeFrame_19 (by decide) (fun c_19 => ?_) (fun c_19 => ?_)
    · have N2 := bz_0.mp c_19
      refine g_bipush (v := -2) F dX1_takeFrame_33 (by decide) ?_
      exact g_iret F hr hlk rfl dX1_takeFrame_35 (by refine Or.inl ⟨fun w => ?_, rfl, rfl⟩; first | exact N1 w.1 | exact N2 w.2.1 | exact N3 w.2.2)
    · have P2 := bz_n.mp c_19
      refine g_iload_n F 3 dX1_takeFrame_22 rfl rfl ?_
      refine g_iconst (v := 0) F dX1_takeFrame_23 (by decide) ?_
      refine g_sipush (v := 255) F dX1_takeFrame_24 (by decide) ?_
      refine g_callIn (na := 3) F (c_X5_within hj) (gw mCO_yX5_within) F.2.2.1.1 mST_yX5_within mIN_RX5 rfl rfl (by decide +kernel) ⟨rfl, rfl, Nat.le_of_ble_eq_true rfl, Nat.le_of_ble_eq_true rfl, Nat.le_of_ble_eq_true rfl, Nat.le_of_ble_eq_true rfl, Nat.le_of_ble_eq_true rfl⟩ dX1_takeFrame_27 (fun r_27 u_27 h_27 => ?_)
      obtain ⟨rfl, rfl⟩ := h_27
      try dsimp only
      refine g_if_ne F 36 dX1_takeFrame_30 (by decide) (fun c_30 => ?_) (fun c_30 => ?_)
      · have P3 := bz_n.mp c_30
        refine g_aload_n F 0 dX1_takeFrame_36 rfl rfl ?_
        refine g_dup F dX1_takeFrame_37 rfl ?_
        refine gf_0_7 F hk mFL_X1_55 dX1_takeFrame_38 ?_
        refine g_iconst (v := 1) F dX1_takeFrame_41 (by decide) ?_
        refine g_iadd F dX1_takeFrame_42 ?_
        refine gp_0_7 F hk mFL_X1_55 dX1_takeFrame_43 ?_
        refine g_iload_n F 3 dX1_takeFrame_46 rfl rfl ?_
        refine g_iload_n F 1 dX1_takeFrame_47 rfl rfl ?_
        refine g_iload_n F 2 dX1_takeFrame_48 rfl rfl ?_
        refine g_ixor F dX1_takeFrame_49 ?_
        refine g_icmp_eq F 65 dX1_takeFrame_50 (by decide) (fun c_50 => ?_) (fun c_50 => ?_)
        · refine g_iconst (v := 0) F dX1_takeFrame_65 (by decide) ?_
          refine g_istore (L' := [(4, _), (0, _), (1, _), (2, _), (3, _)]) F dX1_takeFrame_66 (by decide) rfl ?_
          refine g_iconst (v := 0) F dX1_takeFrame_68 (by decide) ?_
          refine g_istore (L' := [(5, _), (4, _), (0, _), (1, _), (2, _), (3, _)]) F dX1_takeFrame_69 (by decide) rfl ?_
          refine g_sub [2, 3, 4, 5, 1, 0] rfl ?_
          refine LOOP 0 (Nat.zero_le _) ⟨P1, P2, P3⟩ c_50 _ _ (upd σ 3 (σ 3 + 1), 0) _ _ rfl rfl rfl ?_ (Fr.up (inL_0 (by decide)))
          show Rp n h _ pm k (upd σ 3 (σ 3 + 1))
          exact R.num (fun K i j hK => up3_k hK) (fun i hi => upd_n (by omega)) (by simp [up3, upd]; exact R.1.1) (by simp [up3, upd]; exact R.1.2.1) (by simp [up3, upd]; exact R.1.2.2.1) (by simp [up3, upd]; exact R.1.2.2.2.1) (by simp [up3, upd]; rw [R.1.2.2.2.2.1]) (by simp [up3, upd]; exact R.1.2.2.2.2.2.1) (by simp [up3, upd]; exact R.1.2.2.2.2.2.2.1)
        · refine g_aload_n F 0 dX1_takeFrame_53 rfl rfl ?_
          refine g_dup F dX1_takeFrame_54 rfl ?_
          refine gf_0_8 F hk mFL_X1_58 dX1_takeFrame_55 ?_
          refine g_eqi (y := I 0 k 8) (by simp [up3]) ?_
          refine g_iconst (v := 1) F dX1_takeFrame_58 (by decide) ?_
          refine g_iadd F dX1_takeFrame_59 ?_
          refine gp_0_8 F hk mFL_X1_58 dX1_takeFrame_60 ?_
          refine g_iconst (v := 0) F dX1_takeFrame_63 (by decide) ?_
          exact g_iret F hr hlk rfl dX1_takeFrame_64 (by
      have R1 := R.num (I' := up3 (up3 I 0 k 7 (I 0 k 7 + 1)) 0 k 8 (I 0 k 8 + 1)) (σ' := upd (upd σ 3 (σ 3 + 1)) 4 (σ 4 + 1)) (fun K i j hK => by rw [up3_k hK, up3_k hK]) (fun i hi => by rw [upd_n (by omega), upd_n (by omega)]) (by simp [up3, upd]; exact R.1.1) (by simp [up3, upd]; exact R.1.2.1) (by simp [up3, upd]; exact R.1.2.2.1) (by simp [up3, upd]; exact R.1.2.2.2.1) (by simp [up3, upd]; rw [R.1.2.2.2.2.1]) (by simp [up3, upd]; rw [R.1.2.2.2.2.2.1]) (by simp [up3, upd]; exact R.1.2.2.2.2.2.2.1)
      refine Or.inr ⟨⟨P1, P2, P3⟩, ?_⟩
      unfold comS
      rw [if_neg c_50]
      exact ⟨rfl, R1, (Fr.up (inL_0 (by decide))).tr (Fr.up (inL_0 (by decide)))⟩)
      · have N3 := bz_0.mp c_30
        refine g_bipush (v := -2) F dX1_takeFrame_33 (by decide) ?_
        exact g_iret F hr hlk rfl dX1_takeFrame_35 (by refine Or.inl ⟨fun w => ?_, rfl, rfl⟩; first | exact N1 w.1 | exact N2 w.2.1 | exact N3 w.2.2)
end
section
/-! PART 13: the station -/
theorem nx_dec {x : Int32} {j : Nat} (h : x = nI j) (h0 : 0 < j) : x + (-1) = nI (j - 1) := by
  obtain ⟨i, rfl⟩ : ∃ i, j = i + 1 := ⟨j - 1, by omega⟩
  rw [h, pk_m1]
  rfl
def rowI (I : Ii) (k q : Nat) (a d t : Int32) : Ii := up3 (up3 (up3 I 3 k q a) 4 k q d) 5 k q t
theorem iposS_le (σ : Sg) (t : Int32) : ∀ j, iposS σ t j ≤ j := by
  intro j
  induction j with
  | zero => exact Nat.le_refl _
  | succ j ih =>
    unfold iposS
    split
    · omega
    · exact Nat.le_refl _
/-- the rows of the station and what stands in them change, nothing else -/
theorem Rp.rows {n h h' : Nat} {I I' : Ii} {pm : Pm} {k : Nat} {σ σ' : Sg} (R : Rp n h I pm k σ) (hh : h' ≤ 20) (ho : ∀ K i c, ¬ (2 ≤ K ∧ K ≤ 5) → I' K i c = I K i c) (hs : ∀ i, i < 104 → i ≠ 7 → σ' i = σ i) (s7 : σ' 7 = nI h') (h2 : I' 2 k 3 = nI h') (hr : ∀ j, j < h' → I' 3 k j = σ' (104 + 3 * j) ∧ I' 4 k j = σ' (105 + 3 * j) ∧ I' 5 k j = σ' (106 + 3 * j)) : Rp n h' I' pm k σ' := by
  obtain ⟨⟨a1, a2, a3, a4, a5, a6, a7, a8⟩, b, c, d, e1, e2, e3, e4, e5, e6⟩ := R
  refine ⟨⟨?_, ?_, ?_, ?_, ?_, ?_, ?_, ?_⟩, fun b' hb => ?_, fun r' f' hr' hf' => ?_, hr, e1, e2, by rw [hs 6 (by decide) (by decide)]; exact e3, e4, s7, hh⟩
  · rw [ho _ _ _ (by decide), hs _ (by decide) (by decide)]; exact a1
  · rw [ho _ _ _ (by decide), hs _ (by decide) (by decide)]; exact a2
  · rw [ho _ _ _ (by decide), hs _ (by decide) (by decide)]; exact a3
  · rw [ho _ _ _ (by decide), ho _ _ _ (by decide), hs _ (by decide) (by decide)]; exact a4
  · rw [ho _ _ _ (by decide), hs _ (by decide) (by decide)]; exact a5
  · rw [ho _ _ _ (by decide), hs _ (by decide) (by decide)]; exact a6
  · rw [ho _ _ _ (by decide), hs _ (by decide) (by decide)]; exact a7
  · rw [h2, s7]
  · rw [ho _ _ _ (by decide), hs _ (by omega) (by omega)]; exact b b' hb
  · rw [ho _ _ _ (by decide), hs _ (by omega) (by omega)]; exact c r' f' hr' hf'
theorem Rp.row {n h : Nat} {I : Ii} {pm : Pm} {k : Nat} {σ : Sg} (R : Rp n h I pm k σ) {j : Nat} (hj : j < h) : I 3 k j = σ (104 + 3 * j) ∧ I 4 k j = σ (105 + 3 * j) ∧ I 5 k j = σ (106 + 3 * j) := R.2.2.2.1 j hj
theorem ord_at {h : Nat} {a d t : Int32} {σ : Sg} {j w : Nat} (hj : j < h + 1) (hw : w < 3) : ordS h a d t σ (104 + 3 * j + w) = if j < iposS σ t h then σ (104 + 3 * j + w) else if j = iposS σ t h then (if w = 0 then a else if w = 1 then d else t) else σ (104 + 3 * j + w - 3) := by
  have e1 : (104 + 3 * j + w - 104) / 3 = j := by omega
  have e2 : (104 + 3 * j + w - 104) % 3 = w := by omega
  unfold ordS
  rw [if_neg (by omega), if_pos (by omega), e1, e2]
theorem Rp.ord {n h : Nat} {I I' : Ii} {pm : Pm} {k : Nat} {σ : Sg} {a d t : Int32} (R : Rp n h I pm k σ) (hh : h < 20) (ho : ∀ K i c, ¬ (2 ≤ K ∧ K ≤ 5) → I' K i c = I K i c) (h2 : I' 2 k 3 = nI (h + 1))
    (hr : ∀ K q, 3 ≤ K → K ≤ 5 → q < h + 1 → I' K k q = if q < iposS σ t h then I K k q else if q = iposS σ t h then (if K = 3 then a else if K = 4 then d else t) else I K k (q - 1)) : Rp n (h + 1) I' pm k (ordS h a d t σ) := by
  have hp := iposS_le σ t h
  refine R.rows hh ho (fun i hi h7 => by unfold ordS; rw [if_neg h7, if_neg (by omega)]) (by unfold ordS; rw [if_pos rfl]) h2 (fun j hj => ?_)
  have o0 := ord_at (a := a) (d := d) (t := t) (σ := σ) hj (show 0 < 3 by decide)
  have o1 := ord_at (a := a) (d := d) (t := t) (σ := σ) hj (show 1 < 3 by decide)
  have o2 := ord_at (a := a) (d := d) (t := t) (σ := σ) hj (show 2 < 3 by decide)
  have s1 : 104 + 3 * j + 1 = 105 + 3 * j := by omega
  have s2 : 104 + 3 * j + 2 = 106 + 3 * j := by omega
  rw [s1] at o1
  rw [s2] at o2
  rw [Nat.add_zero] at o0
  rw [o0, o1, o2, hr 3 j (by decide) (by decide) hj, hr 4 j (by decide) (by decide) hj, hr 5 j (by decide) (by decide) hj]
  by_cases c1 : j < iposS σ t h
  · have r := R.row (j := j) (by omega)
    simp only [if_pos c1]
    exact r
  · simp only [if_neg c1]
    by_cases c2 : j = iposS σ t h
    · simp only [if_pos c2]
      exact ⟨rfl, rfl, rfl⟩
    · simp only [if_neg c2]
      have r := R.row (j := j - 1) (by omega)
      rw [show 104 + 3 * j - 3 = 104 + 3 * (j - 1) by omega, show 105 + 3 * j - 3 = 105 + 3 * (j - 1) by omega, show 106 + 3 * j - 3 = 106 + 3 * (j - 1) by omega]
      exact r
theorem Rp.drop {n h : Nat} {I I' : Ii} {pm : Pm} {k : Nat} {σ : Sg} (R : Rp n h I pm k σ) (ho : ∀ K i c, ¬ (2 ≤ K ∧ K ≤ 5) → I' K i c = I K i c) (h2 : I' 2 k 3 = nI (h - 1))
    (hr : ∀ K q, 3 ≤ K → K ≤ 5 → q + 1 < h → I' K k q = I K k (q + 1)) : Rp n (h - 1) I' pm k (dropS h σ) := by
  have hh := R.h20
  refine R.rows (by omega) ho (fun i hi h7 => by unfold dropS; rw [if_neg h7, if_neg (by omega), if_neg (by omega)]) (by unfold dropS; rw [if_pos rfl]) h2 (fun j hj => ?_)
  have r := R.row (j := j + 1) (by omega)
  have d1 : ∀ w, w < 3 → dropS h σ (104 + 3 * j + w) = σ (104 + 3 * (j + 1) + w) := by
    intro w hw
    unfold dropS
    rw [if_neg (by omega), if_pos (by omega)]
    congr 1
    omega
  have o0 := d1 0 (by decide)
  have o1 := d1 1 (by decide)
  have o2 := d1 2 (by decide)
  rw [show 104 + 3 * j + 1 = 105 + 3 * j by omega, show 104 + 3 * (j + 1) + 1 = 105 + 3 * (j + 1) by omega] at o1
  rw [show 104 + 3 * j + 2 = 106 + 3 * j by omega, show 104 + 3 * (j + 1) + 2 = 106 + 3 * (j + 1) by omega] at o2
  rw [Nat.add_zero, Nat.add_zero] at o0
  rw [o0, o1, o2, hr 3 j (by decide) (by decide) (by omega), hr 4 j (by decide) (by decide) (by omega), hr 5 j (by decide) (by decide) (by omega)]
  exact r
theorem row_at {I : Ii} {k q : Nat} {a d t : Int32} {K j : Nat} (h3 : 3 ≤ K) (h5 : K ≤ 5) : rowI I k q a d t K k j = if j = q then (if K = 3 then a else if K = 4 then d else t) else I K k j := by
  unfold rowI
  rcases (show K = 3 ∨ K = 4 ∨ K = 5 by omega) with rfl | rfl | rfl <;> simp [up3]
theorem row_out {I : Ii} {k q : Nat} {a d t : Int32} {K i c : Nat} (h : ¬ (3 ≤ K ∧ K ≤ 5 ∧ i = k)) : rowI I k q a d t K i c = I K i c := by
  unfold rowI
  rw [up3_n (fun e => h ⟨by omega, by omega, e.2.1⟩), up3_n (fun e => h ⟨by omega, by omega, e.2.1⟩), up3_n (fun e => h ⟨by omega, by omega, e.2.1⟩)]
theorem Fr.rows {k : Nat} {I I' : Ii} {pm : Pm} (h : ∀ K i c, ¬ (2 ≤ K ∧ K ≤ 5 ∧ i = k) → I' K i c = I K i c) : Fr k I pm I' pm := ⟨fun K i c q => h K i c (fun e => q (Or.inl ⟨by omega, e.2.2⟩)), fun _ _ _ => rfl⟩
theorem wait_in {x : Int32} {h : Nat} (hh : h ≤ 20) (h0 : 0 ≤ x) (h1 : x ≤ nI h - 1) : ∃ q, q < h ∧ x = nI q := by
  have e0 := i_le.mp h0
  have e1 := i_le.mp h1
  have e2 : (nI h - 1).toInt = (h : Int) - 1 := by
    rw [Kit.i32_sub (by rw [nI_toInt (by omega)]; show _ ≤ (h : Int) - 1; omega) (by rw [nI_toInt (by omega)]; show (h : Int) - 1 < _; omega), nI_toInt (by omega)]
    rfl
  have e3 : (0 : Int32).toInt = 0 := rfl
  rw [e2] at e1
  rw [e3] at e0
  exact ⟨x.toInt.toNat, by omega, nat_of e0⟩
def waitS (h : Nat) (σ : Sg) (x y : Int32) : Int32 := if 0 ≤ x ∧ x ≤ nI h - 1 then (if y = 0 then σ (104 + 3 * x.toInt.toNat) else if y = 1 then σ (105 + 3 * x.toInt.toNat) else if y = 2 then σ (106 + 3 * x.toInt.toNat) else -2) else -1

set_option maxHeartbeats 4000000 in
set_option maxRecDepth 100000 in
theorem c_X4_setRow {l : Launch} {G : Gm} (hj : Aj G) {I : Ii} {pm : Pm} {k : Nat} (hk : k < 11) {q : Nat} (hq : q < 20) {x a d t : Int32} (hx : x = nI q) : CV l G yX4_setRow (wz yX4_setRow cX4_setRow 5 none) (rmL 0) [.ref (G.2.2 2 k), .int x, .int a, .int d, .int t] I pm (fun u => u = (rowI I k q a d t, pm)) := by
  refine CV.walk hj (by decide +kernel) (by show _ ≤ 5; exact Nat.le_of_ble_eq_true rfl) ?_
  intro p e s m args below meth c F hr hlk
  refine g_aload_n F 0 dX4_setRow_0 rfl rfl ?_
  refine gf_2_0 F hk mFL_X4_9 dX4_setRow_1 ?_
  refine g_iload_n F 1 dX4_setRow_4 rfl rfl ?_
  refine g_iload_n F 2 dX4_setRow_5 rfl rfl ?_
  refine gs_3 (j := q) F hk hx (by omega) dX4_setRow_6 ?_
  refine g_aload_n F 0 dX4_setRow_7 rfl rfl ?_
  refine gf_2_1 F hk mFL_X4_15 dX4_setRow_8 ?_
  refine g_iload_n F 1 dX4_setRow_11 rfl rfl ?_
  refine g_iload_n F 3 dX4_setRow_12 rfl rfl ?_
  refine gs_4 (j := q) F hk hx (by omega) dX4_setRow_13 ?_
  refine g_aload_n F 0 dX4_setRow_14 rfl rfl ?_
  refine gf_2_2 F hk mFL_X4_18 dX4_setRow_15 ?_
  refine g_iload_n F 1 dX4_setRow_18 rfl rfl ?_
  refine g_iload F 4 dX4_setRow_19 rfl ?_
  refine gs_5 (j := q) F hk hx (by omega) dX4_setRow_21 ?_
  refine g_vret F hr hlk dX4_setRow_22 ?_
  exact rfl
set_option maxHeartbeats 4000000 in
set_option maxRecDepth 100000 in
theorem c_X4_dropFirst {l : Launch} {G : Gm} (hj : Aj G) {I : Ii} {pm : Pm} {k : Nat} (hk : k < 11) {n h : Nat} {σ : Sg} (R : Rp n h I pm k σ) (h1 : 1 ≤ h) : CV l G yX4_dropFirst (wz yX4_dropFirst cX4_dropFirst 2 none) (rmL 1) [.ref (G.2.2 2 k)] I pm (fun u => Rp n (h - 1) u.1 pm k (dropS h σ) ∧ u.2 = pm ∧ ∀ K i c, ¬ (2 ≤ K ∧ K ≤ 5 ∧ i = k) → u.1 K i c = I K i c) := by
  refine CV.walk hj (by decide +kernel) (by show _ ≤ 2; exact Nat.le_of_ble_eq_true rfl) ?_
  intro p e s m args below meth c F hr hlk
  have hh := R.h20
  have LOOP : ∀ j, j ≤ h → 1 ≤ j → ∀ (I2 : Ii) (xj : Int32), xj = nI j → (∀ K q, 3 ≤ K → K ≤ 5 → I2 K k q = if q + 1 < j then I K k (q + 1) else I K k q) → (∀ K i c, ¬ (3 ≤ K ∧ K ≤ 5 ∧ i = k) → I2 K i c = I K i c) → GG p l e (rmL 1) s m args below meth c G (AA G) 2 0 0 (MQ below (va_Qv (fun (u : Ii × Pm) => Rp n (h - 1) u.1 pm k (dropS h σ) ∧ u.2 = pm ∧ ∀ K i c, ¬ (2 ≤ K ∧ K ≤ 5 ∧ i = k) → u.1 K i c = I K i c) (fun (u : Ii × Pm) t => Wd G u.1 u.2 t.heap) (AA G)) args s 0 0 (AA G)) I2 pm [(0, .ref (G.2.2 2 k)), (1, .int xj)] 2 [] := by
    refine dn_ind ?_
    intro j hjl ih hj1 I2 xj ej hv ho
    have e23 : I2 2 k 3 = nI h := (ho 2 k 3 (by omega)).trans R.hel
    refine g_iload_n F 1 dX4_dropFirst_2 rfl rfl ?_
    refine g_aload_n F 0 dX4_dropFirst_3 rfl rfl ?_
    refine gf_2_3 F hk mFL_X4_27 dX4_dropFirst_4 ?_
    refine g_icmp_ge F 41 dX4_dropFirst_7 (by decide) (fun c_7 => ?_) (fun c_7 => ?_)
    · have n_7 := nx_get (a := j) (b := h) ej e23 (by omega) (by omega) c_7
      refine g_aload_n F 0 dX4_dropFirst_41 rfl rfl ?_
      refine g_iconst (v := 0) F dX4_dropFirst_42 (by decide) ?_
      refine g_aload_n F 0 dX4_dropFirst_43 rfl rfl ?_
      refine gf_2_3 F hk mFL_X4_27 dX4_dropFirst_44 ?_
      refine g_iconst (v := 1) F dX4_dropFirst_47 (by decide) ?_
      refine g_isub F dX4_dropFirst_48 ?_
      refine g_mmax F mML_X4_39 mST_LMmax mIN_java_lang_Math mCO_LMmax ⟨Nat.le_of_ble_eq_true rfl, Nat.le_of_ble_eq_true rfl, Nat.le_of_ble_eq_true rfl, Nat.le_of_ble_eq_true rfl⟩ dX4_dropFirst_49 ?_
      refine gp_2_3 F hk mFL_X4_27 dX4_dropFirst_52 ?_
      refine g_vret F hr hlk dX4_dropFirst_55 ?_
      have hjh : j = h := by omega
      subst hjh
      have em : (if (0 : Int32) < I2 2 k 3 - 1 then I2 2 k 3 - 1 else 0) = nI (j - 1) := by
        have e1 : I2 2 k 3 - 1 = nI (j - 1) := nx_sub e23 (b := 1) rfl h1
        rw [e1]
        split
        · rfl
        · rename_i q
          have := nx_ltf (a := 0) (b := j - 1) rfl rfl (by omega) (by omega) q
          rw [show j - 1 = 0 by omega]
          rfl
      rw [em]
      refine ⟨R.drop (I' := up3 I2 2 k 3 (nI (j - 1))) (fun K i c q => by rw [up3_k (by omega)]; exact ho K i c (by omega)) up3_s (fun K q h3 h5 hq => ?_), rfl, fun K i c q => ?_⟩
      · rw [up3_k (by omega), hv K q h3 h5, if_pos hq]
      · show up3 I2 2 k 3 _ K i c = I K i c
        rw [up3_n (fun e => q ⟨by omega, by omega, e.2.1⟩)]
        exact ho K i c (by omega)
    · have n_7 := nx_gef (a := j) (b := h) ej e23 (by omega) (by omega) c_7
      refine g_aload_n F 0 dX4_dropFirst_10 rfl rfl ?_
      refine g_iload_n F 1 dX4_dropFirst_11 rfl rfl ?_
      refine g_iconst (v := 1) F dX4_dropFirst_12 (by decide) ?_
      refine g_isub F dX4_dropFirst_13 ?_
      refine g_aload_n F 0 dX4_dropFirst_14 rfl rfl ?_
      refine gf_2_0 F hk mFL_X4_9 dX4_dropFirst_15 ?_
      refine g_iload_n F 1 dX4_dropFirst_18 rfl rfl ?_
      refine ga_3 (j := j) F hk ej (by omega) dX4_dropFirst_19 ?_
      refine g_aload_n F 0 dX4_dropFirst_20 rfl rfl ?_
      refine gf_2_1 F hk mFL_X4_15 dX4_dropFirst_21 ?_
      refine g_iload_n F 1 dX4_dropFirst_24 rfl rfl ?_
      refine ga_4 (j := j) F hk ej (by omega) dX4_dropFirst_25 ?_
      refine g_aload_n F 0 dX4_dropFirst_26 rfl rfl ?_
      refine gf_2_2 F hk mFL_X4_18 dX4_dropFirst_27 ?_
      refine g_iload_n F 1 dX4_dropFirst_30 rfl rfl ?_
      refine ga_5 (j := j) F hk ej (by omega) dX4_dropFirst_31 ?_
      refine g_callVv (na := 4) F 2 _ (c_X4_setRow hj hk (q := j - 1) (by omega) (nx_sub ej (b := 1) rfl hj1)) hk rfl rfl lk_X4_35 rfl rfl (by decide +kernel) ⟨rfl, rfl, Nat.le_of_ble_eq_true rfl, Nat.le_of_ble_eq_true rfl, Nat.le_of_ble_eq_true rfl, Nat.le_of_ble_eq_true rfl, Nat.le_of_ble_eq_true rfl⟩ dX4_dropFirst_32 (fun u_32 h_32 => ?_)
      subst h_32
      try dsimp only
      refine g_iincC (q := 1) (L' := [(1, _), (0, _)]) F 1 dX4_dropFirst_35 (by decide) rfl (by decide) rfl ?_
      refine g_goto F 2 dX4_dropFirst_38 (by decide) ?_
      refine g_sub [1, 0] rfl ?_
      refine ih (by omega) (by omega) _ _ (nx_add ej rfl) (fun K q h3 h5 => ?_) (fun K i c q => by rw [row_out q]; exact ho K i c q)
      rw [row_at h3 h5]
      by_cases c1 : q = j - 1
      · rw [c1, if_pos rfl, show (if j - 1 + 1 < j + 1 then I K k (j - 1 + 1) else I K k (j - 1)) = I K k j from by rw [if_pos (by omega), show j - 1 + 1 = j by omega]]
        rcases (show K = 3 ∨ K = 4 ∨ K = 5 by omega) with rfl | rfl | rfl
        · rw [if_pos rfl, hv 3 j (by decide) (by decide), if_neg (by omega)]
        · rw [if_neg (by decide), if_pos rfl, hv 4 j (by decide) (by decide), if_neg (by omega)]
        · rw [if_neg (by decide), if_neg (by decide), hv 5 j (by decide) (by decide), if_neg (by omega)]
      · rw [if_neg c1, hv K q h3 h5]
        by_cases c2 : q + 1 < j
        · rw [if_pos c2, if_pos (by omega)]
        · rw [if_neg c2, if_neg (by omega)]
  refine g_iconst (v := 1) F dX4_dropFirst_0 (by decide) ?_
  refine g_istore_n (L' := [(1, _), (0, _)]) F dX4_dropFirst_1 rfl (by decide) rfl ?_
  refine g_sub [1, 0] rfl ?_
  exact LOOP 1 h1 (Nat.le_refl _) _ _ rfl (fun K q h3 h5 => by rw [if_neg (by omega)]) (fun _ _ _ _ => rfl)
set_option maxHeartbeats 4000000 in
set_option maxRecDepth 100000 in
theorem c_X4_take {l : Launch} {G : Gm} (hj : Aj G) {I : Ii} {pm : Pm} {k : Nat} (hk : k < 11) {n h : Nat} {σ : Sg} (R : Rp n h I pm k σ) {a d t : Int32} : CI l G yX4_take (wz yX4_take cX4_take 5 (some .int)) (rmL 1) [.ref (G.2.2 2 k), .int a, .int d, .int t] I pm (fun r u => (¬ ((0 ≤ a ∧ a ≤ 99) ∧ (0 ≤ d ∧ d ≤ 255) ∧ (0 ≤ t ∧ t ≤ 3)) ∧ r = -2 ∧ u = (I, pm)) ∨ (((0 ≤ a ∧ a ≤ 99) ∧ (0 ≤ d ∧ d ≤ 255) ∧ (0 ≤ t ∧ t ≤ 3)) ∧ h = 20 ∧ r = -4 ∧ u = (I, pm)) ∨ (((0 ≤ a ∧ a ≤ 99) ∧ (0 ≤ d ∧ d ≤ 255) ∧ (0 ≤ t ∧ t ≤ 3)) ∧ h < 20 ∧ r = nI (h + 1) ∧ Rp n (h + 1) u.1 pm k (ordS h a d t σ) ∧ u.2 = pm ∧ ∀ K i c, ¬ (2 ≤ K ∧ K ≤ 5 ∧ i = k) → u.1 K i c = I K i c)) := by
  refine CI.walk hj (by decide +kernel) (by show _ ≤ 5; exact Nat.le_of_ble_eq_true rfl) ?_
  intro p e s m args below meth c F hr hlk
  have hh := R.h20
  have LOOP : ∀ j, ((0 ≤ a ∧ a ≤ 99) ∧ (0 ≤ d ∧ d ≤ 255) ∧ (0 ≤ t ∧ t ≤ 3)) → h < 20 → ∀ (I2 : Ii) (xj : Int32), xj = nI j → j ≤ h → iposS σ t h = iposS σ t j → (∀ K q, 3 ≤ K → K ≤ 5 → I2 K k q = if j < q ∧ q ≤ h then I K k (q - 1) else I K k q) → (∀ K i c, ¬ (3 ≤ K ∧ K ≤ 5 ∧ i = k) → I2 K i c = I K i c) → GG p l e (rmL 1) s m args below meth c G (AA G) 5 0 0 (MQ below (va_Qi (fun (r : Int32) (u : Ii × Pm) => (¬ ((0 ≤ a ∧ a ≤ 99) ∧ (0 ≤ d ∧ d ≤ 255) ∧ (0 ≤ t ∧ t ≤ 3)) ∧ r = -2 ∧ u = (I, pm)) ∨ (((0 ≤ a ∧ a ≤ 99) ∧ (0 ≤ d ∧ d ≤ 255) ∧ (0 ≤ t ∧ t ≤ 3)) ∧ h = 20 ∧ r = -4 ∧ u = (I, pm)) ∨ (((0 ≤ a ∧ a ≤ 99) ∧ (0 ≤ d ∧ d ≤ 255) ∧ (0 ≤ t ∧ t ≤ 3)) ∧ h < 20 ∧ r = nI (h + 1) ∧ Rp n (h + 1) u.1 pm k (ordS h a d t σ) ∧ u.2 = pm ∧ ∀ K i c, ¬ (2 ≤ K ∧ K ≤ 5 ∧ i = k) → u.1 K i c = I K i c)) (fun (u : Ii × Pm) t => Wd G u.1 u.2 t.heap) (AA G)) args s 0 0 (AA G)) I2 pm [(0, .ref (G.2.2 2 k)), (1, .int a), (2, .int d), (3, .int t), (4, .int xj)] 51 [] := by
    refine up_ind ?_
    intro j ih hb hlt I2 xj ej hjl hip hv ho
    have e23 : I2 2 k 3 = nI h := (ho 2 k 3 (by omega)).trans R.hel
    refine g_iload F 4 dX4_take_51 rfl ?_
    refine g_if_le F 108 dX4_take_53 (by decide) (fun c_53 => ?_) (fun c_53 => ?_)
    · have n_53 := nx_let (a := j) (b := 0) ej rfl (by omega) (by omega) c_53
      have HP : iposS σ t h = j := by rw [hip, show j = 0 by omega]; rfl
      refine g_aload_n F 0 dX4_take_108 rfl rfl ?_
      refine g_iload F 4 dX4_take_109 rfl ?_
      refine g_iload_n F 1 dX4_take_111 rfl rfl ?_
      refine g_iload_n F 2 dX4_take_112 rfl rfl ?_
      refine g_iload_n F 3 dX4_take_113 rfl rfl ?_
      refine g_callVv (na := 4) F 2 _ (c_X4_setRow hj hk (q := j) (by omega) ej) hk rfl rfl lk_X4_35 rfl rfl (by decide +kernel) ⟨rfl, rfl, Nat.le_of_ble_eq_true rfl, Nat.le_of_ble_eq_true rfl, Nat.le_of_ble_eq_true rfl, Nat.le_of_ble_eq_true rfl, Nat.le_of_ble_eq_true rfl⟩ dX4_take_114 (fun u_114 h_114 => ?_)
      subst h_114
      try dsimp only
      refine g_aload_n F 0 dX4_take_117 rfl rfl ?_
      refine g_dup F dX4_take_118 rfl ?_
      refine gf_2_3 F hk mFL_X4_27 dX4_take_119 ?_
      refine g_iconst (v := 1) F dX4_take_122 (by decide) ?_
      refine g_iadd F dX4_take_123 ?_
      refine gp_2_3 F hk mFL_X4_27 dX4_take_124 ?_
      refine g_aload_n F 0 dX4_take_127 rfl rfl ?_
      refine gf_2_3 F hk mFL_X4_27 dX4_take_128 ?_
      refine g_iret F hr hlk rfl dX4_take_131 ?_
      simp only [up3_s]
      refine Or.inr (Or.inr ⟨hb, hlt, ?_, ?_, trivial, fun K i c q => ?_⟩)
      · rw [row_out (by omega), e23]; exact nI_1 h
      · refine R.ord hlt (fun K i c q => by rw [up3_k (by omega), row_out (by omega)]; exact ho K i c (by omega)) (by rw [up3_s, row_out (by omega), e23]; exact nI_1 h) (fun K q h3 h5 hq => ?_)
        rw [up3_k (by omega), row_at h3 h5, HP, hv K q h3 h5]
        by_cases c1 : q = j
        · rw [if_pos c1, show (if q < j then I K k q else if q = j then (if K = 3 then a else if K = 4 then d else t) else I K k (q - 1)) = (if K = 3 then a else if K = 4 then d else t) from by rw [if_neg (by omega), if_pos c1]]
        · rw [if_neg c1]
          by_cases c2 : q < j
          · rw [if_neg (by omega), if_pos c2]
          · rw [if_pos (by omega), if_neg c2, if_neg c1]
      · show up3 (rowI I2 k j a d t) 2 k 3 _ K i c = I K i c
        rw [up3_n (fun e => q ⟨by omega, by omega, e.2.1⟩), row_out (by omega)]
        exact ho K i c (by omega)
    · have n_53 := nx_lef (a := j) (b := 0) ej rfl (by omega) (by omega) c_53
      have e5 : I2 5 k (j - 1) = σ (104 + 3 * (j - 1) + 2) := by
        rw [hv 5 _ (by decide) (by decide), if_neg (by omega), (R.row (j := j - 1) (by omega)).2.2]
        congr 1
        omega
      refine g_aload_n F 0 dX4_take_56 rfl rfl ?_
      refine gf_2_2 F hk mFL_X4_18 dX4_take_57 ?_
      refine g_iload F 4 dX4_take_60 rfl ?_
      refine g_iconst (v := 1) F dX4_take_62 (by decide) ?_
      refine g_isub F dX4_take_63 ?_
      refine ga_5 (j := (j - 1)) F hk (nx_sub ej rfl (by omega)) (by omega) dX4_take_64 ?_
      refine g_iload_n F 3 dX4_take_65 rfl rfl ?_
      refine g_icmp_ge F 108 dX4_take_66 (by decide) (fun c_66 => ?_) (fun c_66 => ?_)
      · have HP : iposS σ t h = j := by
          obtain ⟨i, rfl⟩ : ∃ i, j = i + 1 := ⟨j - 1, by omega⟩
          rw [hip]
          show (if σ (104 + 3 * i + 2) < t then iposS σ t i else i + 1) = i + 1
          rw [Nat.add_sub_cancel] at e5
          have c66 := c_66
          rw [Nat.add_sub_cancel, e5] at c66
          exact if_neg (Int32.not_lt.mpr c66)
        refine g_aload_n F 0 dX4_take_108 rfl rfl ?_
        refine g_iload F 4 dX4_take_109 rfl ?_
        refine g_iload_n F 1 dX4_take_111 rfl rfl ?_
        refine g_iload_n F 2 dX4_take_112 rfl rfl ?_
        refine g_iload_n F 3 dX4_take_113 rfl rfl ?_
        refine g_callVv (na := 4) F 2 _ (c_X4_setRow hj hk (q := j) (by omega) ej) hk rfl rfl lk_X4_35 rfl rfl (by decide +kernel) ⟨rfl, rfl, Nat.le_of_ble_eq_true rfl, Nat.le_of_ble_eq_true rfl, Nat.le_of_ble_eq_true rfl, Nat.le_of_ble_eq_true rfl, Nat.le_of_ble_eq_true rfl⟩ dX4_take_114 (fun u_114 h_114 => ?_)
        subst h_114
        try dsimp only
        refine g_aload_n F 0 dX4_take_117 rfl rfl ?_
        refine g_dup F dX4_take_118 rfl ?_
        refine gf_2_3 F hk mFL_X4_27 dX4_take_119 ?_
        refine g_iconst (v := 1) F dX4_take_122 (by decide) ?_
        refine g_iadd F dX4_take_123 ?_
        refine gp_2_3 F hk mFL_X4_27 dX4_take_124 ?_
        refine g_aload_n F 0 dX4_take_127 rfl rfl ?_
        refine gf_2_3 F hk mFL_X4_27 dX4_take_128 ?_
        refine g_iret F hr hlk rfl dX4_take_131 ?_
        simp only [up3_s]
        refine Or.inr (Or.inr ⟨hb, hlt, ?_, ?_, trivial, fun K i c q => ?_⟩)
        · rw [row_out (by omega), e23]; exact nI_1 h
        · refine R.ord hlt (fun K i c q => by rw [up3_k (by omega), row_out (by omega)]; exact ho K i c (by omega)) (by rw [up3_s, row_out (by omega), e23]; exact nI_1 h) (fun K q h3 h5 hq => ?_)
          rw [up3_k (by omega), row_at h3 h5, HP, hv K q h3 h5]
          by_cases c1 : q = j
          · rw [if_pos c1, show (if q < j then I K k q else if q = j then (if K = 3 then a else if K = 4 then d else t) else I K k (q - 1)) = (if K = 3 then a else if K = 4 then d else t) from by rw [if_neg (by omega), if_pos c1]]
          · rw [if_neg c1]
            by_cases c2 : q < j
            · rw [if_neg (by omega), if_pos c2]
            · rw [if_pos (by omega), if_neg c2, if_neg c1]
        · show up3 (rowI I2 k j a d t) 2 k 3 _ K i c = I K i c
          rw [up3_n (fun e => q ⟨by omega, by omega, e.2.1⟩), row_out (by omega)]
          exact ho K i c (by omega)
      · refine g_aload_n F 0 dX4_take_69 rfl rfl ?_
        refine g_iload F 4 dX4_take_70 rfl ?_
        refine g_aload_n F 0 dX4_take_72 rfl rfl ?_
        refine gf_2_0 F hk mFL_X4_9 dX4_take_73 ?_
        refine g_iload F 4 dX4_take_76 rfl ?_
        refine g_iconst (v := 1) F dX4_take_78 (by decide) ?_
        refine g_isub F dX4_take_79 ?_
        refine ga_3 (j := (j - 1)) F hk (nx_sub ej rfl (by omega)) (by omega) dX4_take_80 ?_
        refine g_aload_n F 0 dX4_take_81 rfl rfl ?_
        refine gf_2_1 F hk mFL_X4_15 dX4_take_82 ?_
        refine g_iload F 4 dX4_take_85 rfl ?_
        refine g_iconst (v := 1) F dX4_take_87 (by decide) ?_
        refine g_isub F dX4_take_88 ?_
        refine ga_4 (j := (j - 1)) F hk (nx_sub ej rfl (by omega)) (by omega) dX4_take_89 ?_
        refine g_aload_n F 0 dX4_take_90 rfl rfl ?_
        refine gf_2_2 F hk mFL_X4_18 dX4_take_91 ?_
        refine g_iload F 4 dX4_take_94 rfl ?_
        refine g_iconst (v := 1) F dX4_take_96 (by decide) ?_
        refine g_isub F dX4_take_97 ?_
        refine ga_5 (j := (j - 1)) F hk (nx_sub ej rfl (by omega)) (by omega) dX4_take_98 ?_
        refine g_callVv (na := 4) F 2 _ (c_X4_setRow hj hk (q := j) (by omega) ej) hk rfl rfl lk_X4_35 rfl rfl (by decide +kernel) ⟨rfl, rfl, Nat.le_of_ble_eq_true rfl, Nat.le_of_ble_eq_true rfl, Nat.le_of_ble_eq_true rfl, Nat.le_of_ble_eq_true rfl, Nat.le_of_ble_eq_true rfl⟩ dX4_take_99 (fun u_99 h_99 => ?_)
        subst h_99
        try dsimp only
        refine g_iincC (q := -1) (L' := [(4, _), (0, _), (1, _), (2, _), (3, _)]) F 4 dX4_take_102 (by decide) rfl (by decide) rfl ?_
        refine g_goto F 51 dX4_take_105 (by decide) ?_
        refine g_sub [1, 2, 3, 4, 0] rfl ?_
        refine ih (j - 1) (by omega) hb hlt _ _ (nx_dec ej n_53) (by omega) ?_ (fun K q h3 h5 => ?_) (fun K i c q => by rw [row_out q]; exact ho K i c q)
        · rw [hip]
          obtain ⟨i, rfl⟩ : ∃ i, j = i + 1 := ⟨j - 1, by omega⟩
          rw [Nat.add_sub_cancel] at e5 ⊢
          have c66 := c_66
          rw [Nat.add_sub_cancel, e5] at c66
          show (if σ (104 + 3 * i + 2) < t then iposS σ t i else i + 1) = _
          exact if_pos (Int32.not_le.mp c66)
        · rw [row_at h3 h5]
          by_cases c1 : q = j
          · rw [c1, if_pos rfl, show (if j - 1 < j ∧ j ≤ h then I K k (j - 1) else I K k j) = I K k (j - 1) from if_pos (by omega)]
            rcases (show K = 3 ∨ K = 4 ∨ K = 5 by omega) with rfl | rfl | rfl
            · rw [if_pos rfl, hv 3 _ (by decide) (by decide), if_neg (by omega)]
            · rw [if_neg (by decide), if_pos rfl, hv 4 _ (by decide) (by decide), if_neg (by omega)]
            · rw [if_neg (by decide), if_neg (by decide), hv 5 _ (by decide) (by decide), if_neg (by omega)]
          · rw [if_neg c1, hv K q h3 h5]
            by_cases c2 : j < q ∧ q ≤ h
            · rw [if_pos c2, if_pos (by omega)]
            · rw [if_neg c2, if_neg (by omega)]
  refine g_iload_n F 1 dX4_take_0 rfl rfl ?_
  refine g_iconst (v := 0) F dX4_take_1 (by decide) ?_
  refine g_bipush (v := 99) F dX4_take_2 (by decide) ?_
  refine g_callIn (na := 3) F (c_X5_within hj) (gw mCO_yX5_within) F.2.2.1.2.1 mST_yX5_within mIN_RX5 rfl rfl (by decide +kernel) ⟨rfl, rfl, Nat.le_of_ble_eq_true rfl, Nat.le_of_ble_eq_true rfl, Nat.le_of_ble_eq_true rfl, Nat.le_of_ble_eq_true rfl, Nat.le_of_ble_eq_true rfl⟩ dX4_take_4 (fun r_4 u_4 h_4 => ?_)
  obtain ⟨rfl, rfl⟩ := h_4
  try dsimp only
  refine g_if_eq F 30 dX4_take_7 (by decide) (fun c_7 => ?_) (fun c_7 => ?_)
  · have N1 := bz_0.mp c_7
    refine g_bipush (v := -2) F dX4_take_30 (by decide) ?_
    exact g_iret F hr hlk rfl dX4_take_32 (by refine Or.inl ⟨fun w => ?_, rfl, rfl⟩; first | exact N1 w.1 | exact N2 w.2.1 | exact N3 w.2.2)
  · have P1 := bz_n.mp c_7
    refine g_iload_n F 2 dX4_take_10 rfl rfl ?_
    refine g_iconst (v := 0) F dX4_take_11 (by decide) ?_
    refine g_sipush (v := 255) F dX4_take_12 (by decide) ?_
    refine g_callIn (na := 3) F (c_X5_within hj) (gw mCO_yX5_within) F.2.2.1.2.1 mST_yX5_within mIN_RX5 rfl rfl (by decide +kernel) ⟨rfl, rfl, Nat.le_of_ble_eq_true rfl, Nat.le_of_ble_eq_true rfl, Nat.le_of_ble_eq_true rfl, Nat.le_of_ble_eq_true rfl, Nat.le_of_ble_eq_true rfl⟩ dX4_take_15 (fun r_15 u_15 h_15 => ?_)
    obtain ⟨rfl, rfl⟩ := h_15
    try dsimp only
    refine g_if_eq F 30 dX4_take_18 (by decide) (fun c_18 => ?_) (fun c_18 => ?_)
    · have N2 := bz_0.mp c_18
      refine g_bipush (v := -2) F dX4_take_30 (by decide) ?_
      exact g_iret F hr hlk rfl dX4_take_32 (by refine Or.inl ⟨fun w => ?_, rfl, rfl⟩; first | exact N1 w.1 | exact N2 w.2.1 | exact N3 w.2.2)
    · have P2 := bz_n.mp c_18
      refine g_iload_n F 3 dX4_take_21 rfl rfl ?_
      refine g_iconst (v := 0) F dX4_take_22 (by decide) ?_
      refine g_iconst (v := 3) F dX4_take_23 (by decide) ?_
      refine g_callIn (na := 3) F (c_X5_within hj) (gw mCO_yX5_within) F.2.2.1.2.1 mST_yX5_within mIN_RX5 rfl rfl (by decide +kernel) ⟨rfl, rfl, Nat.le_of_ble_eq_true rfl, Nat.le_of_ble_eq_true rfl, Nat.le_of_ble_eq_true rfl, Nat.le_of_ble_eq_true rfl, Nat.le_of_ble_eq_true rfl⟩ dX4_take_24 (fun r_24 u_24 h_24 => ?_)
      obtain ⟨rfl, rfl⟩ := h_24
      try dsimp only
      refine g_if_ne F 33 dX4_take_27 (by decide) (fun c_27 => ?_) (fun c_27 => ?_)
      · have P3 := bz_n.mp c_27
        refine g_aload_n F 0 dX4_take_33 rfl rfl ?_
        refine gf_2_3 F hk mFL_X4_27 dX4_take_34 ?_
        refine g_bipush (v := 20) F dX4_take_37 (by decide) ?_
        refine g_icmp_lt F 45 dX4_take_39 (by decide) (fun c_39 => ?_) (fun c_39 => ?_)
        · have n_39 := nx_ltt (a := h) (b := 20) R.hel rfl (by omega) (by omega) c_39
          refine g_aload_n F 0 dX4_take_45 rfl rfl ?_
          refine gf_2_3 F hk mFL_X4_27 dX4_take_46 ?_
          refine g_topi (fun x4_49 ex4_49 => ?_)
          refine g_istore (L' := [(4, _), (0, _), (1, _), (2, _), (3, _)]) F dX4_take_49 (by decide) rfl ?_
          refine g_sub [1, 2, 3, 4, 0] rfl ?_
          exact LOOP h ⟨P1, P2, P3⟩ (by omega) _ _ (ex4_49.trans R.hel) (Nat.le_refl _) rfl (fun K q h3 h5 => by rw [if_neg (by omega)]) (fun _ _ _ _ => rfl)
        · have n_39 := nx_ltf (a := h) (b := 20) R.hel rfl (by omega) (by omega) c_39
          refine g_bipush (v := -4) F dX4_take_42 (by decide) ?_
          refine g_iret F hr hlk rfl dX4_take_44 ?_
          exact Or.inr (Or.inl ⟨⟨P1, P2, P3⟩, by omega, rfl, rfl⟩)
      · have N3 := bz_0.mp c_27
        refine g_bipush (v := -2) F dX4_take_30 (by decide) ?_
        exact g_iret F hr hlk rfl dX4_take_32 (by refine Or.inl ⟨fun w => ?_, rfl, rfl⟩; first | exact N1 w.1 | exact N2 w.2.1 | exact N3 w.2.2)
set_option maxHeartbeats 4000000 in
set_option maxRecDepth 100000 in
theorem c_X4_told {l : Launch} {G : Gm} (hj : Aj G) {I : Ii} {pm : Pm} {k : Nat} (hk : k < 11) {n h : Nat} {σ : Sg} (R : Rp n h I pm k σ) {x y : Int32} : CI l G yX4_told (wz yX4_told cX4_told 3 (some .int)) (rmL 1) [.ref (G.2.2 2 k), .int x, .int y] I pm (fun r u => r = waitS h σ x y ∧ u = (I, pm)) := by
  have hh := R.h20
  have hl := R.hel
  refine CI.walk hj (by decide +kernel) (by show _ ≤ 3; exact Nat.le_of_ble_eq_true rfl) ?_
  intro p e s m args below meth c F hr hlk
  refine g_iload_n F 1 dX4_told_0 rfl rfl ?_
  refine g_iconst (v := 0) F dX4_told_1 (by decide) ?_
  refine g_aload_n F 0 dX4_told_2 rfl rfl ?_
  refine gf_2_3 F hk mFL_X4_27 dX4_told_3 ?_
  refine g_iconst (v := 1) F dX4_told_6 (by decide) ?_
  refine g_isub F dX4_told_7 ?_
  refine g_callIn (na := 3) F (c_X5_within hj) (gw mCO_yX5_within) F.2.2.1.2.1 mST_yX5_within mIN_RX5 rfl rfl (by decide +kernel) ⟨rfl, rfl, Nat.le_of_ble_eq_true rfl, Nat.le_of_ble_eq_true rfl, Nat.le_of_ble_eq_true rfl, Nat.le_of_ble_eq_true rfl, Nat.le_of_ble_eq_true rfl⟩ dX4_told_8 (fun r_8 u_8 h_8 => ?_)
  obtain ⟨rfl, rfl⟩ := h_8
  try dsimp only
  refine g_if_ne F 16 dX4_told_11 (by decide) (fun c_11 => ?_) (fun c_11 => ?_)
  · have P1 := bz_n.mp c_11
    rw [hl] at P1
    obtain ⟨q, hq, eq⟩ := wait_in hh P1.1 P1.2
    have hxq : x.toInt.toNat = q := by rw [eq, nI_toInt (by omega)]; rfl
    have ex : x = nI x.toInt.toNat := by rw [hxq]; exact eq
    have hqh : x.toInt.toNat < h := by omega
    have r := R.row hqh
    refine g_iload_n F 2 dX4_told_16 rfl rfl ?_
    by_cases hs_17 : 0 ≤ y.toInt ∧ y.toInt ≤ 2
    · obtain ⟨js_17, hj_17, ej_17⟩ := sw_in hs_17.1 hs_17.2 (by decide)
      rcases (show js_17 = 0 ∨ js_17 = 1 ∨ js_17 = 2 by omega) with hq | hq | hq
      · have hs_17_0 : y = 0 := by rw [ej_17, hq] <;> rfl
        refine g_tableIn (off := 27) F 44 dX4_told_17 (by rw [hs_17_0]; decide) (by rw [hs_17_0]; decide) (by rw [hs_17_0]; rfl) (by decide) ?_
        refine g_aload_n F 0 dX4_told_44 rfl rfl ?_
        refine gf_2_0 F hk mFL_X4_9 dX4_told_45 ?_
        refine g_iload_n F 1 dX4_told_48 rfl rfl ?_
        refine ga_3 (j := x.toInt.toNat) F hk ex (by omega) dX4_told_49 ?_
        exact g_iret F hr hlk rfl dX4_told_50 (by refine ⟨?_, rfl⟩; unfold waitS; rw [if_pos P1, if_pos hs_17_0]; exact r.1)
      · have hs_17_1 : y = 1 := by rw [ej_17, hq] <;> rfl
        refine g_tableIn (off := 34) F 51 dX4_told_17 (by rw [hs_17_1]; decide) (by rw [hs_17_1]; decide) (by rw [hs_17_1]; rfl) (by decide) ?_
        refine g_aload_n F 0 dX4_told_51 rfl rfl ?_
        refine gf_2_1 F hk mFL_X4_15 dX4_told_52 ?_
        refine g_iload_n F 1 dX4_told_55 rfl rfl ?_
        refine ga_4 (j := x.toInt.toNat) F hk ex (by omega) dX4_told_56 ?_
        exact g_iret F hr hlk rfl dX4_told_57 (by refine ⟨?_, rfl⟩; unfold waitS; rw [if_pos P1, hs_17_1]; exact r.2.1)
      · have hs_17_2 : y = 2 := by rw [ej_17, hq] <;> rfl
        refine g_tableIn (off := 41) F 58 dX4_told_17 (by rw [hs_17_2]; decide) (by rw [hs_17_2]; decide) (by rw [hs_17_2]; rfl) (by decide) ?_
        refine g_aload_n F 0 dX4_told_58 rfl rfl ?_
        refine gf_2_2 F hk mFL_X4_18 dX4_told_59 ?_
        refine g_iload_n F 1 dX4_told_62 rfl rfl ?_
        refine ga_5 (j := x.toInt.toNat) F hk ex (by omega) dX4_told_63 ?_
        exact g_iret F hr hlk rfl dX4_told_64 (by refine ⟨?_, rfl⟩; unfold waitS; rw [if_pos P1, hs_17_2]; exact r.2.2)
    · refine g_tableOut F 65 dX4_told_17 (by omega) (by decide) ?_
      refine g_bipush (v := -2) F dX4_told_65 (by decide) ?_
      exact g_iret F hr hlk rfl dX4_told_67 (by refine ⟨?_, rfl⟩; unfold waitS; rw [if_pos P1, if_neg (fun e => hs_17 (by rw [e]; decide)), if_neg (fun e => hs_17 (by rw [e]; decide)), if_neg (fun e => hs_17 (by rw [e]; decide))])
  · have N1 := bz_0.mp c_11
    rw [hl] at N1
    refine g_iconst (v := -1) F dX4_told_14 (by decide) ?_
    exact g_iret F hr hlk rfl dX4_told_15 (by refine ⟨?_, rfl⟩; unfold waitS; rw [if_neg N1])
set_option maxHeartbeats 4000000 in
set_option maxRecDepth 100000 in
theorem c_X4_copyFrom {l : Launch} {G : Gm} (hj : Aj G) {I : Ii} {pm : Pm} {k k2 : Nat} (hk : k < 11) (hk2 : k2 < 11) (hne : k2 ≠ k) : CV l G yX4_copyFrom (wz yX4_copyFrom cX4_copyFrom 2 none) (rmL 1) [.ref (G.2.2 2 k), .ref (G.2.2 2 k2)] I pm (fun u => u.2 = pm ∧ (∀ K q, 3 ≤ K → K ≤ 5 → q < 20 → u.1 K k q = I K k2 q) ∧ u.1 2 k 3 = I 2 k2 3 ∧ ∀ K i c, ¬ (2 ≤ K ∧ K ≤ 5 ∧ i = k) → u.1 K i c = I K i c) := by
  refine CV.walk hj (by decide +kernel) (by show _ ≤ 2; exact Nat.le_of_ble_eq_true rfl) ?_
  intro p e s m args below meth c F hr hlk
  refine g_aload_n F 1 dX4_copyFrom_0 rfl rfl ?_
  refine gf_2_0 F hk2 mFL_X4_9 dX4_copyFrom_1 ?_
  refine g_iconst (v := 0) F dX4_copyFrom_4 (by decide) ?_
  refine g_aload_n F 0 dX4_copyFrom_5 rfl rfl ?_
  refine gf_2_0 F hk mFL_X4_9 dX4_copyFrom_6 ?_
  refine g_iconst (v := 0) F dX4_copyFrom_9 (by decide) ?_
  refine g_bipush (v := 20) F dX4_copyFrom_10 (by decide) ?_
  refine g_copyi (n := 20) (K := 3) (K' := 3) F hk2 hk rfl rfl mML_X4_21 mNA_arraycopyName mST_arraycopyName mIN_java_lang_System rfl (by decide) ⟨Nat.le_of_ble_eq_true rfl, Nat.le_of_ble_eq_true rfl⟩ (by simp only [cvv, upR_s]) dX4_copyFrom_12 ?_
  refine g_aload_n F 1 dX4_copyFrom_15 rfl rfl ?_
  refine gf_2_1 F hk2 mFL_X4_15 dX4_copyFrom_16 ?_
  refine g_iconst (v := 0) F dX4_copyFrom_19 (by decide) ?_
  refine g_aload_n F 0 dX4_copyFrom_20 rfl rfl ?_
  refine gf_2_1 F hk mFL_X4_15 dX4_copyFrom_21 ?_
  refine g_iconst (v := 0) F dX4_copyFrom_24 (by decide) ?_
  refine g_bipush (v := 20) F dX4_copyFrom_25 (by decide) ?_
  refine g_copyi (n := 20) (K := 4) (K' := 4) F hk2 hk rfl rfl mML_X4_21 mNA_arraycopyName mST_arraycopyName mIN_java_lang_System rfl (by decide) ⟨Nat.le_of_ble_eq_true rfl, Nat.le_of_ble_eq_true rfl⟩ (by simp only [cvv, upR_s]) dX4_copyFrom_27 ?_
  refine g_aload_n F 1 dX4_copyFrom_30 rfl rfl ?_
  refine gf_2_2 F hk2 mFL_X4_18 dX4_copyFrom_31 ?_
  refine g_iconst (v := 0) F dX4_copyFrom_34 (by decide) ?_
  refine g_aload_n F 0 dX4_copyFrom_35 rfl rfl ?_
  refine gf_2_2 F hk mFL_X4_18 dX4_copyFrom_36 ?_
  refine g_iconst (v := 0) F dX4_copyFrom_39 (by decide) ?_
  refine g_bipush (v := 20) F dX4_copyFrom_40 (by decide) ?_
  refine g_copyi (n := 20) (K := 5) (K' := 5) F hk2 hk rfl rfl mML_X4_21 mNA_arraycopyName mST_arraycopyName mIN_java_lang_System rfl (by decide) ⟨Nat.le_of_ble_eq_true rfl, Nat.le_of_ble_eq_true rfl⟩ (by simp only [cvv, upR_s]) dX4_copyFrom_42 ?_
  refine g_aload_n F 0 dX4_copyFrom_45 rfl rfl ?_
  refine g_aload_n F 1 dX4_copyFrom_46 rfl rfl ?_
  refine gf_2_3 F hk2 mFL_X4_27 dX4_copyFrom_47 ?_
  refine gp_2_3 F hk mFL_X4_27 dX4_copyFrom_50 ?_
  refine g_vret F hr hlk dX4_copyFrom_53 ?_
  refine ⟨rfl, fun K q h3 h5 hq => ?_, ?_, fun K i c q => ?_⟩
  · rcases (show K = 3 ∨ K = 4 ∨ K = 5 by omega) with rfl | rfl | rfl <;> simp [up3, upR, va_cpy, hq]
  · simp [up3, upR, hne]
  · dsimp only
    rw [up3_n (fun e => q ⟨by omega, by omega, e.2.1⟩), upR_n (fun e => q ⟨by omega, by omega, e.2⟩), upR_n (fun e => q ⟨by omega, by omega, e.2⟩), upR_n (fun e => q ⟨by omega, by omega, e.2⟩)]
end
section
/-! PART 14: what a layout tells, and its small changes -/
theorem rng {x M : Int32} {m : Nat} (hM : M.toInt = m) (h0 : 0 ≤ x) (h1 : x ≤ M) : x.toInt.toNat ≤ m ∧ x = nI x.toInt.toNat := by
  have e0 := i_le.mp h0
  have e1 := i_le.mp h1
  have e3 : (0 : Int32).toInt = 0 := rfl
  rw [e3] at e0
  exact ⟨by omega, nat_of e0⟩
def lcS (σ : Sg) (x : Int32) : Nat → Int32
  | 0 => 0
  | j + 1 => if σ (16 + 11 * j + 3) / 100 = x then lcS σ x j + 1 else lcS σ x j
def bwS (σ : Sg) : Nat → Int32
  | 0 => 0
  | b + 1 => if 0 < σ (8 + b) then bwS σ b + 1 else bwS σ b
def cbS (σ : Sg) (n : Nat) : Nat → Int32
  | 0 => 0
  | b + 1 => if 1 < lcS σ (nI b) n then cbS σ n b + 1 else cbS σ n b
def ssS (σ : Sg) : Nat → Int32
  | 0 => 0
  | j + 1 => ssS σ j + σ (16 + 11 * j + 5)
def rkS (σ : Sg) (a : Int32) : Nat → Nat
  | 0 => 0
  | j + 1 => if rkS σ a j < j then rkS σ a j else if σ (16 + 11 * j) = a then j else j + 1
theorem rk_none {σ : Sg} {a : Int32} : ∀ j, (∀ r, r < j → ¬ σ (16 + 11 * r) = a) → rkS σ a j = j := by
  intro j
  induction j with
  | zero => exact fun _ => rfl
  | succ j ih =>
    intro h
    have h1 := ih (fun r hr => h r (by omega))
    unfold rkS
    rw [h1, if_neg (Nat.lt_irrefl _), if_neg (h j (by omega))]
theorem rk_some {σ : Sg} {a : Int32} {p : Nat} (h0 : ∀ r, r < p → ¬ σ (16 + 11 * r) = a) (h1 : σ (16 + 11 * p) = a) : ∀ n, p < n → rkS σ a n = p := by
  intro n
  induction n with
  | zero => exact fun h => absurd h (by omega)
  | succ n ih =>
    intro h
    unfold rkS
    by_cases hp : p < n
    · rw [ih hp, if_pos hp]
    · have e : p = n := by omega
      subst e
      rw [rk_none p h0, if_neg (Nat.lt_irrefl _), if_pos h1]
theorem rk_le (σ : Sg) (a : Int32) : ∀ n, rkS σ a n ≤ n := by
  intro n
  induction n with
  | zero => exact Nat.le_refl _
  | succ n ih =>
    unfold rkS
    split
    · omega
    · split <;> omega
theorem inL7 {k j : Nat} (hk : k < 11) (hj : j < 8) : 8 * k + j < 88 := by omega
def LQ (G : Gm) (pm : Pm) (k n : Nat) (σ : Sg) (a : Int32) : Option Nat := if rkS σ a n < n then some (G.2.2 7 (8 * k + pm k (rkS σ a n))) else none
theorem lq_n {n : Nat} {x : Int32} (h8 : n ≤ 8) : (0 ≤ x ∧ x ≤ nI n - 1) ↔ ∃ q, q < n ∧ x = nI q := by
  constructor
  · exact fun h => wait_in (by omega) h.1 h.2
  · rintro ⟨q, hq, rfl⟩
    refine ⟨nI_pos' (by omega), ?_⟩
    rw [show nI n - 1 = nI (n - 1) from nx_sub rfl (b := 1) rfl (by omega)]
    exact nI_le (by omega) (by omega)

set_option maxHeartbeats 4000000 in
set_option maxRecDepth 100000 in
theorem c_X1_locosIn {l : Launch} {G : Gm} (hj : Aj G) {I : Ii} {pm : Pm} {k : Nat} (hk : k < 11) {n h : Nat} {σ : Sg} (R : Rp n h I pm k σ) {x : Int32} : CI l G yX1_locosIn (wz yX1_locosIn cX1_locosIn 4 (some .int)) (rmL 1) [.ref (G.2.2 0 k), .int x] I pm (fun r u => r = lcS σ x n ∧ u = (I, pm)) := by
  refine CI.walk hj (by decide +kernel) (by show _ ≤ 4; exact Nat.le_of_ble_eq_true rfl) ?_
  intro p e s m args below meth c F hr hlk
  have hn8 := R.n8
  have LOOP : ∀ j, j ≤ n → ∀ (xc xj : Int32), xj = nI j → xc = lcS σ x j → GG p l e (rmL 1) s m args below meth c G (AA G) 4 0 0 (MQ below (va_Qi (fun (r : Int32) (u : Ii × Pm) => r = lcS σ x n ∧ u = (I, pm)) (fun (u : Ii × Pm) t => Wd G u.1 u.2 t.heap) (AA G)) args s 0 0 (AA G)) I pm [(0, .ref (G.2.2 0 k)), (1, .int x), (2, .int xc), (3, .int xj)] 4 [] := by
    refine dn_ind ?_
    intro j hjl ih xc xj ej ec
    refine g_iload_n F 3 dX1_locosIn_4 rfl rfl ?_
    refine g_aload_n F 0 dX1_locosIn_5 rfl rfl ?_
    refine gf_0_3 F hk mFL_X1_29 dX1_locosIn_6 ?_
    refine g_icmp_ge F 34 dX1_locosIn_9 (by decide) (fun c_9 => ?_) (fun c_9 => ?_)
    · have n_9 := nx_get (a := j) (b := n) ej R.cnt (by omega) (by omega) c_9
      refine g_iload_n F 2 dX1_locosIn_34 rfl rfl ?_
      refine g_iret F hr hlk rfl dX1_locosIn_35 ?_
      exact ⟨by rw [ec, show j = n by omega], rfl⟩
    · have n_9 := nx_gef (a := j) (b := n) ej R.cnt (by omega) (by omega) c_9
      have hi7 : 8 * k + pm k j < 88 := inL7 hk (R.p8 (by omega))
      have eb : I 7 (8 * k + pm k j) 3 = σ (16 + 11 * j + 3) := R.lc (f := 3) (by omega) (by decide)
      refine g_aload_n F 0 dX1_locosIn_12 rfl rfl ?_
      refine gf_0_0 F hk mFL_X1_11 dX1_locosIn_13 ?_
      refine g_iload_n F 3 dX1_locosIn_16 rfl rfl ?_
      refine ga_1 (j := j) F hk ej (by omega) dX1_locosIn_17 ?_
      refine g_callIv (na := 0) F 7 _ (c_X2_blockNumber hj hi7) hi7 rfl rfl lk_X1_87 rfl rfl (by decide +kernel) ⟨rfl, rfl, Nat.le_of_ble_eq_true rfl, Nat.le_of_ble_eq_true rfl, Nat.le_of_ble_eq_true rfl, Nat.le_of_ble_eq_true rfl, Nat.le_of_ble_eq_true rfl⟩ dX1_locosIn_18 (fun r_18 u_18 h_18 => ?_)
      obtain ⟨rfl, rfl⟩ := h_18
      try dsimp only
      refine g_iload_n F 1 dX1_locosIn_21 rfl rfl ?_
      refine g_icmp_ne F 28 dX1_locosIn_22 (by decide) (fun c_22 => ?_) (fun c_22 => ?_)
      · have c22 : ¬ σ (16 + 11 * j + 3) / 100 = x := fun e => c_22 (by rw [eb, e])
        refine g_iincC (q := 1) (L' := [(3, _), (0, _), (1, _), (2, _)]) F 3 dX1_locosIn_28 (by decide) rfl (by decide) rfl ?_
        refine g_goto F 4 dX1_locosIn_31 (by decide) ?_
        refine g_sub [1, 2, 3, 0] rfl ?_
        first
        | exact ih (by omega) _ _ (nx_add ej rfl) (by rw [lcS, if_pos c22, ec])
        | exact ih (by omega) _ _ (nx_add ej rfl) (by rw [lcS, if_neg c22, ec])
      · have c22 : σ (16 + 11 * j + 3) / 100 = x := by rw [← eb]; exact c_22
        refine g_iincC (q := 1) (L' := [(2, _), (0, _), (1, _), (3, _)]) F 2 dX1_locosIn_25 (by decide) rfl (by decide) rfl ?_
        refine g_iincC (q := 1) (L' := [(3, _), (2, _), (0, _), (1, _)]) F 3 dX1_locosIn_28 (by decide) rfl (by decide) rfl ?_
        refine g_goto F 4 dX1_locosIn_31 (by decide) ?_
        refine g_sub [2, 3, 1, 0] rfl ?_
        first
        | exact ih (by omega) _ _ (nx_add ej rfl) (by rw [lcS, if_pos c22, ec])
        | exact ih (by omega) _ _ (nx_add ej rfl) (by rw [lcS, if_neg c22, ec])
  refine g_iconst (v := 0) F dX1_locosIn_0 (by decide) ?_
  refine g_istore_n (L' := [(2, _), (0, _), (1, _)]) F dX1_locosIn_1 rfl (by decide) rfl ?_
  refine g_iconst (v := 0) F dX1_locosIn_2 (by decide) ?_
  refine g_istore_n (L' := [(3, _), (2, _), (0, _), (1, _)]) F dX1_locosIn_3 rfl (by decide) rfl ?_
  refine g_sub [2, 3, 1, 0] rfl ?_
  exact LOOP 0 (Nat.zero_le _) _ _ rfl rfl
set_option maxHeartbeats 4000000 in
set_option maxRecDepth 100000 in
theorem c_X1_blocksWithShort {l : Launch} {G : Gm} (hj : Aj G) {I : Ii} {pm : Pm} {k : Nat} (hk : k < 11) {n h : Nat} {σ : Sg} (R : Rp n h I pm k σ) : CI l G yX1_blocksWithShort (wz yX1_blocksWithShort cX1_blocksWithShort 3 (some .int)) (rmL 0) [.ref (G.2.2 0 k)] I pm (fun r u => r = bwS σ 8 ∧ u = (I, pm)) := by
  refine CI.walk hj (by decide +kernel) (by show _ ≤ 3; exact Nat.le_of_ble_eq_true rfl) ?_
  intro p e s m args below meth c F hr hlk
  have LOOP : ∀ j, j ≤ 8 → ∀ (xc xj : Int32), xj = nI j → xc = bwS σ j → GG p l e (rmL 0) s m args below meth c G (AA G) 3 0 0 (MQ below (va_Qi (fun (r : Int32) (u : Ii × Pm) => r = bwS σ 8 ∧ u = (I, pm)) (fun (u : Ii × Pm) t => Wd G u.1 u.2 t.heap) (AA G)) args s 0 0 (AA G)) I pm [(0, .ref (G.2.2 0 k)), (1, .int xc), (2, .int xj)] 4 [] := by
    refine dn_ind ?_
    intro j hjl ih xc xj ej ec
    refine g_iload_n F 2 dX1_blocksWithShort_4 rfl rfl ?_
    refine g_bipush (v := 8) F dX1_blocksWithShort_5 (by decide) ?_
    refine g_icmp_ge F 28 dX1_blocksWithShort_7 (by decide) (fun c_7 => ?_) (fun c_7 => ?_)
    · have n_7 := nx_get (a := j) (b := 8) ej rfl (by omega) (by omega) c_7
      refine g_iload_n F 1 dX1_blocksWithShort_28 rfl rfl ?_
      refine g_iret F hr hlk rfl dX1_blocksWithShort_29 ?_
      exact ⟨by rw [ec, show j = 8 by omega], rfl⟩
    · have n_7 := nx_gef (a := j) (b := 8) ej rfl (by omega) (by omega) c_7
      have eb : I 6 k j = σ (8 + j) := R.sh (by omega)
      refine g_aload_n F 0 dX1_blocksWithShort_10 rfl rfl ?_
      refine gf_0_2 F hk mFL_X1_24 dX1_blocksWithShort_11 ?_
      refine g_iload_n F 2 dX1_blocksWithShort_14 rfl rfl ?_
      refine ga_6 (j := j) F hk ej (by omega) dX1_blocksWithShort_15 ?_
      refine g_if_le F 22 dX1_blocksWithShort_16 (by decide) (fun c_16 => ?_) (fun c_16 => ?_)
      · have c22 : ¬ 0 < σ (8 + j) := by rw [← eb]; exact Int32.not_lt.mpr c_16
        refine g_iincC (q := 1) (L' := [(2, _), (0, _), (1, _)]) F 2 dX1_blocksWithShort_22 (by decide) rfl (by decide) rfl ?_
        refine g_goto F 4 dX1_blocksWithShort_25 (by decide) ?_
        refine g_sub [1, 2, 0] rfl ?_
        first
        | exact ih (by omega) _ _ (nx_add ej rfl) (by rw [bwS, if_pos c22, ec])
        | exact ih (by omega) _ _ (nx_add ej rfl) (by rw [bwS, if_neg c22, ec])
      · have c22 : 0 < σ (8 + j) := by rw [← eb]; exact Int32.not_le.mp c_16
        refine g_iincC (q := 1) (L' := [(1, _), (0, _), (2, _)]) F 1 dX1_blocksWithShort_19 (by decide) rfl (by decide) rfl ?_
        refine g_iincC (q := 1) (L' := [(2, _), (1, _), (0, _)]) F 2 dX1_blocksWithShort_22 (by decide) rfl (by decide) rfl ?_
        refine g_goto F 4 dX1_blocksWithShort_25 (by decide) ?_
        refine g_sub [2, 1, 0] rfl ?_
        first
        | exact ih (by omega) _ _ (nx_add ej rfl) (by rw [bwS, if_pos c22, ec])
        | exact ih (by omega) _ _ (nx_add ej rfl) (by rw [bwS, if_neg c22, ec])
  refine g_iconst (v := 0) F dX1_blocksWithShort_0 (by decide) ?_
  refine g_istore_n (L' := [(1, _), (0, _)]) F dX1_blocksWithShort_1 rfl (by decide) rfl ?_
  refine g_iconst (v := 0) F dX1_blocksWithShort_2 (by decide) ?_
  refine g_istore_n (L' := [(2, _), (1, _), (0, _)]) F dX1_blocksWithShort_3 rfl (by decide) rfl ?_
  refine g_sub [2, 1, 0] rfl ?_
  exact LOOP 0 (Nat.zero_le _) _ _ rfl rfl
set_option maxHeartbeats 4000000 in
set_option maxRecDepth 100000 in
theorem c_X1_crowdedBlocks {l : Launch} {G : Gm} (hj : Aj G) {I : Ii} {pm : Pm} {k : Nat} (hk : k < 11) {n h : Nat} {σ : Sg} (R : Rp n h I pm k σ) : CI l G yX1_crowdedBlocks (wz yX1_crowdedBlocks cX1_crowdedBlocks 3 (some .int)) (rmL 2) [.ref (G.2.2 0 k)] I pm (fun r u => r = cbS σ n 8 ∧ u = (I, pm)) := by
  refine CI.walk hj (by decide +kernel) (by show _ ≤ 3; exact Nat.le_of_ble_eq_true rfl) ?_
  intro p e s m args below meth c F hr hlk
  have LOOP : ∀ j, j ≤ 8 → ∀ (xc xj : Int32), xj = nI j → xc = cbS σ n j → GG p l e (rmL 2) s m args below meth c G (AA G) 3 0 0 (MQ below (va_Qi (fun (r : Int32) (u : Ii × Pm) => r = cbS σ n 8 ∧ u = (I, pm)) (fun (u : Ii × Pm) t => Wd G u.1 u.2 t.heap) (AA G)) args s 0 0 (AA G)) I pm [(0, .ref (G.2.2 0 k)), (1, .int xc), (2, .int xj)] 4 [] := by
    refine dn_ind ?_
    intro j hjl ih xc xj ej ec
    refine g_iload_n F 2 dX1_crowdedBlocks_4 rfl rfl ?_
    refine g_bipush (v := 8) F dX1_crowdedBlocks_5 (by decide) ?_
    refine g_icmp_ge F 28 dX1_crowdedBlocks_7 (by decide) (fun c_7 => ?_) (fun c_7 => ?_)
    · have n_7 := nx_get (a := j) (b := 8) ej rfl (by omega) (by omega) c_7
      refine g_iload_n F 1 dX1_crowdedBlocks_28 rfl rfl ?_
      refine g_iret F hr hlk rfl dX1_crowdedBlocks_29 ?_
      exact ⟨by rw [ec, show j = 8 by omega], rfl⟩
    · have n_7 := nx_gef (a := j) (b := 8) ej rfl (by omega) (by omega) c_7
      refine g_aload_n F 0 dX1_crowdedBlocks_10 rfl rfl ?_
      refine g_iload_n F 2 dX1_crowdedBlocks_11 rfl rfl ?_
      refine g_callIv (na := 1) F 0 _ (c_X1_locosIn hj hk R) hk rfl rfl lk_X1_136 rfl rfl (by decide +kernel) ⟨rfl, rfl, Nat.le_of_ble_eq_true rfl, Nat.le_of_ble_eq_true rfl, Nat.le_of_ble_eq_true rfl, Nat.le_of_ble_eq_true rfl, Nat.le_of_ble_eq_true rfl⟩ dX1_crowdedBlocks_12 (fun r_12 u_12 h_12 => ?_)
      obtain ⟨rfl, rfl⟩ := h_12
      try dsimp only
      refine g_iconst (v := 1) F dX1_crowdedBlocks_15 (by decide) ?_
      refine g_icmp_le F 22 dX1_crowdedBlocks_16 (by decide) (fun c_16 => ?_) (fun c_16 => ?_)
      · have c22 : ¬ 1 < lcS σ (nI j) n := by rw [← ej]; exact Int32.not_lt.mpr c_16
        refine g_iincC (q := 1) (L' := [(2, _), (0, _), (1, _)]) F 2 dX1_crowdedBlocks_22 (by decide) rfl (by decide) rfl ?_
        refine g_goto F 4 dX1_crowdedBlocks_25 (by decide) ?_
        refine g_sub [1, 2, 0] rfl ?_
        first
        | exact ih (by omega) _ _ (nx_add ej rfl) (by rw [cbS, if_pos c22, ec])
        | exact ih (by omega) _ _ (nx_add ej rfl) (by rw [cbS, if_neg c22, ec])
      · have c22 : 1 < lcS σ (nI j) n := by rw [← ej]; exact Int32.not_le.mp c_16
        refine g_iincC (q := 1) (L' := [(1, _), (0, _), (2, _)]) F 1 dX1_crowdedBlocks_19 (by decide) rfl (by decide) rfl ?_
        refine g_iincC (q := 1) (L' := [(2, _), (1, _), (0, _)]) F 2 dX1_crowdedBlocks_22 (by decide) rfl (by decide) rfl ?_
        refine g_goto F 4 dX1_crowdedBlocks_25 (by decide) ?_
        refine g_sub [2, 1, 0] rfl ?_
        first
        | exact ih (by omega) _ _ (nx_add ej rfl) (by rw [cbS, if_pos c22, ec])
        | exact ih (by omega) _ _ (nx_add ej rfl) (by rw [cbS, if_neg c22, ec])
  refine g_iconst (v := 0) F dX1_crowdedBlocks_0 (by decide) ?_
  refine g_istore_n (L' := [(1, _), (0, _)]) F dX1_crowdedBlocks_1 rfl (by decide) rfl ?_
  refine g_iconst (v := 0) F dX1_crowdedBlocks_2 (by decide) ?_
  refine g_istore_n (L' := [(2, _), (1, _), (0, _)]) F dX1_crowdedBlocks_3 rfl (by decide) rfl ?_
  refine g_sub [2, 1, 0] rfl ?_
  exact LOOP 0 (Nat.zero_le _) _ _ rfl rfl
set_option maxHeartbeats 4000000 in
set_option maxRecDepth 100000 in
theorem c_X1_speedSum {l : Launch} {G : Gm} (hj : Aj G) {I : Ii} {pm : Pm} {k : Nat} (hk : k < 11) {n h : Nat} {σ : Sg} (R : Rp n h I pm k σ) : CI l G yX1_speedSum (wz yX1_speedSum cX1_speedSum 3 (some .int)) (rmL 0) [.ref (G.2.2 0 k)] I pm (fun r u => r = ssS σ n ∧ u = (I, pm)) := by
  refine CI.walk hj (by decide +kernel) (by show _ ≤ 3; exact Nat.le_of_ble_eq_true rfl) ?_
  intro p e s m args below meth c F hr hlk
  have hn8 := R.n8
  have LOOP : ∀ j, j ≤ n → ∀ (xc xj : Int32), xj = nI j → xc = ssS σ j → GG p l e (rmL 0) s m args below meth c G (AA G) 3 0 0 (MQ below (va_Qi (fun (r : Int32) (u : Ii × Pm) => r = ssS σ n ∧ u = (I, pm)) (fun (u : Ii × Pm) t => Wd G u.1 u.2 t.heap) (AA G)) args s 0 0 (AA G)) I pm [(0, .ref (G.2.2 0 k)), (1, .int xc), (2, .int xj)] 4 [] := by
    refine dn_ind ?_
    intro j hjl ih xc xj ej ec
    refine g_iload_n F 2 dX1_speedSum_4 rfl rfl ?_
    refine g_aload_n F 0 dX1_speedSum_5 rfl rfl ?_
    refine gf_0_3 F hk mFL_X1_29 dX1_speedSum_6 ?_
    refine g_icmp_ge F 30 dX1_speedSum_9 (by decide) (fun c_9 => ?_) (fun c_9 => ?_)
    · have n_9 := nx_get (a := j) (b := n) ej R.cnt (by omega) (by omega) c_9
      refine g_iload_n F 1 dX1_speedSum_30 rfl rfl ?_
      refine g_iret F hr hlk rfl dX1_speedSum_31 ?_
      exact ⟨by rw [ec, show j = n by omega], rfl⟩
    · have n_9 := nx_gef (a := j) (b := n) ej R.cnt (by omega) (by omega) c_9
      have hi7 : 8 * k + pm k j < 88 := inL7 hk (R.p8 (by omega))
      have eb : I 7 (8 * k + pm k j) 5 = σ (16 + 11 * j + 5) := R.lc (f := 5) (by omega) (by decide)
      refine g_iload_n F 1 dX1_speedSum_12 rfl rfl ?_
      refine g_aload_n F 0 dX1_speedSum_13 rfl rfl ?_
      refine gf_0_0 F hk mFL_X1_11 dX1_speedSum_14 ?_
      refine g_iload_n F 2 dX1_speedSum_17 rfl rfl ?_
      refine ga_1 (j := j) F hk ej (by omega) dX1_speedSum_18 ?_
      refine gf_7_5 F hi7 mFL_X1_105 dX1_speedSum_19 ?_
      refine g_iadd F dX1_speedSum_22 ?_
      refine g_topi (fun x1_23 ex1_23 => ?_)
      refine g_istore_n (L' := [(1, _), (0, _), (2, _)]) F dX1_speedSum_23 rfl (by decide) rfl ?_
      refine g_iincC (q := 1) (L' := [(2, _), (1, _), (0, _)]) F 2 dX1_speedSum_24 (by decide) rfl (by decide) rfl ?_
      refine g_goto F 4 dX1_speedSum_27 (by decide) ?_
      refine g_sub [2, 1, 0] rfl ?_
      exact ih (by omega) _ _ (nx_add ej rfl) (by rw [ex1_23, ec, eb]; rfl)
  refine g_iconst (v := 0) F dX1_speedSum_0 (by decide) ?_
  refine g_istore_n (L' := [(1, _), (0, _)]) F dX1_speedSum_1 rfl (by decide) rfl ?_
  refine g_iconst (v := 0) F dX1_speedSum_2 (by decide) ?_
  refine g_istore_n (L' := [(2, _), (1, _), (0, _)]) F dX1_speedSum_3 rfl (by decide) rfl ?_
  refine g_sub [2, 1, 0] rfl ?_
  exact LOOP 0 (Nat.zero_le _) _ _ rfl rfl
set_option maxHeartbeats 4000000 in
set_option maxRecDepth 100000 in
theorem c_X1_rankOf {l : Launch} {G : Gm} (hj : Aj G) {I : Ii} {pm : Pm} {k : Nat} (hk : k < 11) {n h : Nat} {σ : Sg} (R : Rp n h I pm k σ) {x : Int32} : CI l G yX1_rankOf (wz yX1_rankOf cX1_rankOf 3 (some .int)) (rmL 0) [.ref (G.2.2 0 k), .int x] I pm (fun r u => r = nI (rkS σ x n) ∧ u = (I, pm)) := by
  refine CI.walk hj (by decide +kernel) (by show _ ≤ 3; exact Nat.le_of_ble_eq_true rfl) ?_
  intro p e s m args below meth c F hr hlk
  have hn8 := R.n8
  have LOOP : ∀ j, j ≤ n → (∀ r, r < j → ¬ σ (16 + 11 * r) = x) → ∀ (xj : Int32), xj = nI j → GG p l e (rmL 0) s m args below meth c G (AA G) 3 0 0 (MQ below (va_Qi (fun (r : Int32) (u : Ii × Pm) => r = nI (rkS σ x n) ∧ u = (I, pm)) (fun (u : Ii × Pm) t => Wd G u.1 u.2 t.heap) (AA G)) args s 0 0 (AA G)) I pm [(0, .ref (G.2.2 0 k)), (1, .int x), (2, .int xj)] 2 [] := by
    refine dn_ind ?_
    intro j hjl ih hno xj ej
    refine g_iload_n F 2 dX1_rankOf_2 rfl rfl ?_
    refine g_aload_n F 0 dX1_rankOf_3 rfl rfl ?_
    refine gf_0_3 F hk mFL_X1_29 dX1_rankOf_4 ?_
    refine g_icmp_ge F 29 dX1_rankOf_7 (by decide) (fun c_7 => ?_) (fun c_7 => ?_)
    · have n_7 := nx_get (a := j) (b := n) ej R.cnt (by omega) (by omega) c_7
      refine g_iload_n F 2 dX1_rankOf_29 rfl rfl ?_
      refine g_iret F hr hlk rfl dX1_rankOf_30 ?_
      first
      | exact ⟨by rw [ej, rk_some hno (by rw [← eb]; exact c_20) n (by omega)], rfl⟩
      | exact ⟨by rw [ej, show n = j by omega, rk_none j hno], rfl⟩
    · have n_7 := nx_gef (a := j) (b := n) ej R.cnt (by omega) (by omega) c_7
      have hi7 : 8 * k + pm k j < 88 := inL7 hk (R.p8 (by omega))
      have eb : I 7 (8 * k + pm k j) 0 = σ (16 + 11 * j) := R.lc (f := 0) (by omega) (by decide)
      refine g_aload_n F 0 dX1_rankOf_10 rfl rfl ?_
      refine gf_0_0 F hk mFL_X1_11 dX1_rankOf_11 ?_
      refine g_iload_n F 2 dX1_rankOf_14 rfl rfl ?_
      refine ga_1 (j := j) F hk ej (by omega) dX1_rankOf_15 ?_
      refine gf_7_0 F hi7 mFL_X1_76 dX1_rankOf_16 ?_
      refine g_iload_n F 1 dX1_rankOf_19 rfl rfl ?_
      refine g_icmp_eq F 29 dX1_rankOf_20 (by decide) (fun c_20 => ?_) (fun c_20 => ?_)
      · refine g_iload_n F 2 dX1_rankOf_29 rfl rfl ?_
        refine g_iret F hr hlk rfl dX1_rankOf_30 ?_
        first
        | exact ⟨by rw [ej, rk_some hno (by rw [← eb]; exact c_20) n (by omega)], rfl⟩
        | exact ⟨by rw [ej, show n = j by omega, rk_none j hno], rfl⟩
      · refine g_iincC (q := 1) (L' := [(2, _), (0, _), (1, _)]) F 2 dX1_rankOf_23 (by decide) rfl (by decide) rfl ?_
        refine g_goto F 2 dX1_rankOf_26 (by decide) ?_
        refine g_sub [1, 2, 0] rfl ?_
        exact ih (by omega) (fun r hr => by
          by_cases e : r = j
          · rw [e, ← eb]; exact c_20
          · exact hno r (by omega)) _ (nx_add ej rfl)
  refine g_iconst (v := 0) F dX1_rankOf_0 (by decide) ?_
  refine g_istore_n (L' := [(2, _), (0, _), (1, _)]) F dX1_rankOf_1 rfl (by decide) rfl ?_
  refine g_sub [1, 2, 0] rfl ?_
  exact LOOP 0 (Nat.zero_le _) (fun r hr => absurd hr (by omega)) _ rfl
set_option maxHeartbeats 4000000 in
set_option maxRecDepth 100000 in
theorem c_X1_locoAt {l : Launch} {G : Gm} (hj : Aj G) {I : Ii} {pm : Pm} {k : Nat} (hk : k < 11) {n h : Nat} {σ : Sg} (R : Rp n h I pm k σ) {x : Int32} : CQ l G yX1_locoAt (wz yX1_locoAt cX1_locoAt 2 (some (.object "LocoFrames$Loco"))) (rmL 1) [.ref (G.2.2 0 k), .int x] I pm (fun r u => (¬ (0 ≤ x ∧ x ≤ nI n - 1) ∧ r = none ∧ u = (I, pm)) ∨ ((0 ≤ x ∧ x ≤ nI n - 1) ∧ r = some (G.2.2 7 (8 * k + pm k x.toInt.toNat)) ∧ u = (I, pm))) := by
  have hn8 := R.n8
  refine CQ.walk hj (by decide +kernel) (by show _ ≤ 2; exact Nat.le_of_ble_eq_true rfl) ?_
  intro p e s m args below meth c F hr hlk
  refine g_iload_n F 1 dX1_locoAt_0 rfl rfl ?_
  refine g_iconst (v := 0) F dX1_locoAt_1 (by decide) ?_
  refine g_aload_n F 0 dX1_locoAt_2 rfl rfl ?_
  refine gf_0_3 F hk mFL_X1_29 dX1_locoAt_3 ?_
  refine g_iconst (v := 1) F dX1_locoAt_6 (by decide) ?_
  refine g_isub F dX1_locoAt_7 ?_
  refine g_callIn (na := 3) F (c_X5_within hj) (gw mCO_yX5_within) F.2.2.1.1 mST_yX5_within mIN_RX5 rfl rfl (by decide +kernel) ⟨rfl, rfl, Nat.le_of_ble_eq_true rfl, Nat.le_of_ble_eq_true rfl, Nat.le_of_ble_eq_true rfl, Nat.le_of_ble_eq_true rfl, Nat.le_of_ble_eq_true rfl⟩ dX1_locoAt_8 (fun r_8 u_8 h_8 => ?_)
  obtain ⟨rfl, rfl⟩ := h_8
  try dsimp only
  refine g_if_eq F 23 dX1_locoAt_11 (by decide) (fun c_11 => ?_) (fun c_11 => ?_)
  · have N1 := bz_0.mp c_11
    rw [R.cnt] at N1
    refine g_null F dX1_locoAt_23 ?_
    refine g_aret F (r := none) rfl hr hlk dX1_locoAt_24 ?_
    exact Or.inl ⟨N1, rfl, rfl⟩
  · have P1 := bz_n.mp c_11
    rw [R.cnt] at P1
    obtain ⟨q, hq, eq⟩ := (lq_n hn8).mp P1
    have hxq : x.toInt.toNat = q := by rw [eq, nI_toInt (by omega)]; rfl
    have ex : x = nI x.toInt.toNat := by rw [hxq]; exact eq
    refine g_aload_n F 0 dX1_locoAt_14 rfl rfl ?_
    refine gf_0_0 F hk mFL_X1_11 dX1_locoAt_15 ?_
    refine g_iload_n F 1 dX1_locoAt_18 rfl rfl ?_
    refine ga_1 (j := x.toInt.toNat) F hk ex (by omega) dX1_locoAt_19 ?_
    refine g_goto F 24 dX1_locoAt_20 (by decide) ?_
    refine g_aret F (r := some _) rfl hr hlk dX1_locoAt_24 ?_
    exact Or.inr ⟨P1, rfl, rfl⟩
set_option maxHeartbeats 4000000 in
set_option maxRecDepth 100000 in
theorem c_X1_locoWith {l : Launch} {G : Gm} (hj : Aj G) {I : Ii} {pm : Pm} {k : Nat} (hk : k < 11) {n h : Nat} {σ : Sg} (R : Rp n h I pm k σ) {x : Int32} : CQ l G yX1_locoWith (wz yX1_locoWith cX1_locoWith 2 (some (.object "LocoFrames$Loco"))) (rmL 2) [.ref (G.2.2 0 k), .int x] I pm (fun r u => r = LQ G pm k n σ x ∧ u = (I, pm)) := by
  have hn8 := R.n8
  have hle := rk_le σ x n
  refine CQ.walk hj (by decide +kernel) (by show _ ≤ 2; exact Nat.le_of_ble_eq_true rfl) ?_
  intro p e s m args below meth c F hr hlk
  refine g_aload_n F 0 dX1_locoWith_0 rfl rfl ?_
  refine g_aload_n F 0 dX1_locoWith_1 rfl rfl ?_
  refine g_iload_n F 1 dX1_locoWith_2 rfl rfl ?_
  refine g_callIv (na := 1) F 0 _ (c_X1_rankOf hj hk R) hk rfl rfl lk_X1_68 rfl rfl (by decide +kernel) ⟨rfl, rfl, Nat.le_of_ble_eq_true rfl, Nat.le_of_ble_eq_true rfl, Nat.le_of_ble_eq_true rfl, Nat.le_of_ble_eq_true rfl, Nat.le_of_ble_eq_true rfl⟩ dX1_locoWith_3 (fun r_3 u_3 h_3 => ?_)
  obtain ⟨rfl, rfl⟩ := h_3
  try dsimp only
  refine g_callQv (na := 1) F 0 _ (c_X1_locoAt hj hk R) hk rfl rfl lk_X1_72 rfl rfl (by decide +kernel) ⟨rfl, rfl, Nat.le_of_ble_eq_true rfl, Nat.le_of_ble_eq_true rfl, Nat.le_of_ble_eq_true rfl, Nat.le_of_ble_eq_true rfl, Nat.le_of_ble_eq_true rfl⟩ dX1_locoWith_6 (fun r_6 u_6 h_6 => ?_)
  rcases h_6 with ⟨hq, rfl, rfl⟩ | ⟨hq, rfl, rfl⟩
  · try dsimp only
    refine g_aret F (r := none) rfl hr hlk dX1_locoWith_9 ?_
    refine ⟨?_, rfl⟩
    unfold LQ
    rw [if_neg (fun hlt => hq ((lq_n hn8).mpr ⟨_, hlt, rfl⟩))]
  · try dsimp only
    refine g_aret F (r := some _) rfl hr hlk dX1_locoWith_9 ?_
    refine ⟨?_, rfl⟩
    obtain ⟨q, hlt, eq⟩ := (lq_n hn8).mp hq
    have e1 : rkS σ x n = q := (nI_eq (by omega) (by omega)).mp eq
    unfold LQ
    rw [nI_toInt (by omega), if_pos (by omega)]
    rfl
set_option maxHeartbeats 4000000 in
set_option maxRecDepth 100000 in
theorem c_X1_changeNoise {l : Launch} {G : Gm} (hj : Aj G) {I : Ii} {pm : Pm} {k : Nat} (hk : k < 11) {n h : Nat} {σ : Sg} (R : Rp n h I pm k σ) {x : Int32} : CI l G yX1_changeNoise (wz yX1_changeNoise cX1_changeNoise 3 (some .int)) (rmL 1) [.ref (G.2.2 0 k), .int x] I pm (fun r u => (¬ (0 ≤ x ∧ x ≤ 9) ∧ r = -2 ∧ u = (I, pm)) ∨ ((0 ≤ x ∧ x ≤ 9) ∧ r = σ 1 ∧ Rp n h u.1 u.2 k (upd σ 1 x) ∧ Fr k I pm u.1 u.2)) := by
  refine CI.walk hj (by decide +kernel) (by show _ ≤ 3; exact Nat.le_of_ble_eq_true rfl) ?_
  intro p e s m args below meth c F hr hlk
  refine g_iload_n F 1 dX1_changeNoise_0 rfl rfl ?_
  refine g_iconst (v := 0) F dX1_changeNoise_1 (by decide) ?_
  refine g_bipush (v := 9) F dX1_changeNoise_2 (by decide) ?_
  refine g_callIn (na := 3) F (c_X5_within hj) (gw mCO_yX5_within) F.2.2.1.1 mST_yX5_within mIN_RX5 rfl rfl (by decide +kernel) ⟨rfl, rfl, Nat.le_of_ble_eq_true rfl, Nat.le_of_ble_eq_true rfl, Nat.le_of_ble_eq_true rfl, Nat.le_of_ble_eq_true rfl, Nat.le_of_ble_eq_true rfl⟩ dX1_changeNoise_4 (fun r_4 u_4 h_4 => ?_)
  obtain ⟨rfl, rfl⟩ := h_4
  try dsimp only
  refine g_if_ne F 13 dX1_changeNoise_7 (by decide) (fun c_7 => ?_) (fun c_7 => ?_)
  · have P1 := bz_n.mp c_7
    refine g_aload_n F 0 dX1_changeNoise_13 rfl rfl ?_
    refine gf_0_5 F hk mFL_X1_49 dX1_changeNoise_14 ?_
    refine g_topi (fun x2_17 ex2_17 => ?_)
    refine g_istore_n (L' := [(2, _), (0, _), (1, _)]) F dX1_changeNoise_17 rfl (by decide) rfl ?_
    refine g_aload_n F 1 dX1_changeNoise_18 rfl rfl ?_
    refine g_iload_n F 2 dX1_changeNoise_19 rfl rfl ?_
    refine gp_0_5 F hk mFL_X1_49 dX1_changeNoise_20 ?_
    refine g_iload_n F 0 dX1_changeNoise_23 rfl rfl ?_
    refine g_iret F hr hlk rfl dX1_changeNoise_24 ?_
    refine Or.inr ⟨P1, ex2_17.trans R.1.2.2.1, ?_, Fr.up (inL_0 (by decide))⟩
    exact R.num (fun K i j hK => up3_k hK) (fun i hi => upd_n (by omega)) (by simp [up3, upd]; exact R.1.1) (by simp [up3, upd]; exact R.1.2.1) (by simp [up3, upd]) (by simp [up3, upd]; exact R.1.2.2.2.1) (by simp [up3, upd]; exact R.1.2.2.2.2.1) (by simp [up3, upd]; exact R.1.2.2.2.2.2.1) (by simp [up3, upd]; exact R.1.2.2.2.2.2.2.1)
  · have N1 := bz_0.mp c_7
    refine g_bipush (v := -2) F dX1_changeNoise_10 (by decide) ?_
    refine g_iret F hr hlk rfl dX1_changeNoise_12 ?_
    exact Or.inl ⟨N1, rfl, rfl⟩
theorem Rp.short {n h : Nat} {I : Ii} {pm : Pm} {k : Nat} {σ : Sg} (R : Rp n h I pm k σ) {b : Nat} (hb : b < 8) (v : Int32) : Rp n h (up3 I 6 k b v) pm k (upd σ (8 + b) v) := by
  obtain ⟨⟨a1, a2, a3, a4, a5, a6, a7, a8⟩, b0, c, d, e1, e2, e3, e4, e5, e6⟩ := R
  have n0 : ∀ i, i < 8 → upd σ (8 + b) v i = σ i := fun i hi => upd_n (by omega)
  have n1 : ∀ i, 16 ≤ i → upd σ (8 + b) v i = σ i := fun i hi => upd_n (by omega)
  have u0 : ∀ K i j, K ≠ 6 → up3 I 6 k b v K i j = I K i j := fun K i j hK => up3_k hK
  refine ⟨⟨?_, ?_, ?_, ?_, ?_, ?_, ?_, ?_⟩, fun b' hb' => ?_, fun r' f' hr' hf' => ?_, fun j hj => ?_, e1, e2, by rw [n0 6 (by omega)]; exact e3, e4, by rw [n0 7 (by omega)]; exact e5, e6⟩
  · rw [u0 _ _ _ (by decide), n0 _ (by omega)]; exact a1
  · rw [u0 _ _ _ (by decide), n0 _ (by omega)]; exact a2
  · rw [u0 _ _ _ (by decide), n0 _ (by omega)]; exact a3
  · rw [u0 _ _ _ (by decide), u0 _ _ _ (by decide), n0 _ (by omega)]; exact a4
  · rw [u0 _ _ _ (by decide), n0 _ (by omega)]; exact a5
  · rw [u0 _ _ _ (by decide), n0 _ (by omega)]; exact a6
  · rw [u0 _ _ _ (by decide), n0 _ (by omega)]; exact a7
  · rw [u0 _ _ _ (by decide), n0 _ (by omega)]; exact a8
  · by_cases hq : b' = b
    · subst hq
      rw [up3_s, upd_s]
    · rw [up3_n (fun e => hq e.2.2), upd_n (by omega)]
      exact b0 b' hb'
  · rw [u0 _ _ _ (by decide), n1 _ (by omega)]; exact c r' f' hr' hf'
  · rw [u0 _ _ _ (by decide), u0 _ _ _ (by decide), u0 _ _ _ (by decide), n1 _ (by omega), n1 _ (by omega), n1 _ (by omega)]; exact d j hj
set_option maxHeartbeats 4000000 in
set_option maxRecDepth 100000 in
theorem c_X1_changeShort {l : Launch} {G : Gm} (hj : Aj G) {I : Ii} {pm : Pm} {k : Nat} (hk : k < 11) {n h : Nat} {σ : Sg} (R : Rp n h I pm k σ) {x y : Int32} : CI l G yX1_changeShort (wz yX1_changeShort cX1_changeShort 4 (some .int)) (rmL 2) [.ref (G.2.2 0 k), .int x, .int y] I pm (fun r u => (¬ (0 ≤ x ∧ x ≤ 7) ∧ r = -1 ∧ u = (I, pm)) ∨ ((0 ≤ x ∧ x ≤ 7) ∧ ¬ (0 ≤ y ∧ y ≤ 99) ∧ r = -2 ∧ u = (I, pm)) ∨ ((0 ≤ x ∧ x ≤ 7) ∧ (0 ≤ y ∧ y ≤ 99) ∧ r = σ (8 + x.toInt.toNat) ∧ Rp n h u.1 u.2 k (upd σ (8 + x.toInt.toNat) y) ∧ Fr k I pm u.1 u.2)) := by
  refine CI.walk hj (by decide +kernel) (by show _ ≤ 4; exact Nat.le_of_ble_eq_true rfl) ?_
  intro p e s m args below meth c F hr hlk
  refine g_iload_n F 1 dX1_changeShort_0 rfl rfl ?_
  refine g_callIn (na := 1) F (c_X5_isBlock hj) (gw mCO_yX5_isBlock) F.2.2.1.2.2.1 mST_yX5_isBlock mIN_RX5 rfl rfl (by decide +kernel) ⟨rfl, rfl, Nat.le_of_ble_eq_true rfl, Nat.le_of_ble_eq_true rfl, Nat.le_of_ble_eq_true rfl, Nat.le_of_ble_eq_true rfl, Nat.le_of_ble_eq_true rfl⟩ dX1_changeShort_1 (fun r_1 u_1 h_1 => ?_)
  obtain ⟨rfl, rfl⟩ := h_1
  try dsimp only
  refine g_if_ne F 9 dX1_changeShort_4 (by decide) (fun c_4 => ?_) (fun c_4 => ?_)
  · have P1 := bz_n.mp c_4
    have ex := rng (m := 7) rfl P1.1 P1.2
    refine g_iload_n F 2 dX1_changeShort_9 rfl rfl ?_
    refine g_iconst (v := 0) F dX1_changeShort_10 (by decide) ?_
    refine g_bipush (v := 99) F dX1_changeShort_11 (by decide) ?_
    refine g_callIn (na := 3) F (c_X5_within hj) (gw mCO_yX5_within) F.2.2.1.1 mST_yX5_within mIN_RX5 rfl rfl (by decide +kernel) ⟨rfl, rfl, Nat.le_of_ble_eq_true rfl, Nat.le_of_ble_eq_true rfl, Nat.le_of_ble_eq_true rfl, Nat.le_of_ble_eq_true rfl, Nat.le_of_ble_eq_true rfl⟩ dX1_changeShort_13 (fun r_13 u_13 h_13 => ?_)
    obtain ⟨rfl, rfl⟩ := h_13
    try dsimp only
    refine g_if_ne F 22 dX1_changeShort_16 (by decide) (fun c_16 => ?_) (fun c_16 => ?_)
    · have P2 := bz_n.mp c_16
      refine g_aload_n F 0 dX1_changeShort_22 rfl rfl ?_
      refine gf_0_2 F hk mFL_X1_24 dX1_changeShort_23 ?_
      refine g_iload_n F 1 dX1_changeShort_26 rfl rfl ?_
      refine ga_6 (j := x.toInt.toNat) F hk ex.2 (by omega) dX1_changeShort_27 ?_
      refine g_topi (fun x3_28 ex3_28 => ?_)
      refine g_istore_n (L' := [(3, _), (0, _), (1, _), (2, _)]) F dX1_changeShort_28 rfl (by decide) rfl ?_
      refine g_aload_n F 1 dX1_changeShort_29 rfl rfl ?_
      refine gf_0_2 F hk mFL_X1_24 dX1_changeShort_30 ?_
      refine g_iload_n F 2 dX1_changeShort_33 rfl rfl ?_
      refine g_iload_n F 3 dX1_changeShort_34 rfl rfl ?_
      refine gs_6 (j := x.toInt.toNat) F hk ex.2 (by omega) dX1_changeShort_35 ?_
      refine g_iload_n F 0 dX1_changeShort_36 rfl rfl ?_
      refine g_iret F hr hlk rfl dX1_changeShort_37 ?_
      exact Or.inr (Or.inr ⟨P1, P2, ex3_28.trans (R.sh (by omega)), R.short (by omega) y, Fr.up (inL_0 (by decide))⟩)
    · have N2 := bz_0.mp c_16
      refine g_bipush (v := -2) F dX1_changeShort_19 (by decide) ?_
      refine g_iret F hr hlk rfl dX1_changeShort_21 ?_
      exact Or.inr (Or.inl ⟨P1, N2, rfl, rfl⟩)
  · have N1 := bz_0.mp c_4
    refine g_iconst (v := -1) F dX1_changeShort_7 (by decide) ?_
    refine g_iret F hr hlk rfl dX1_changeShort_8 ?_
    exact Or.inl ⟨N1, rfl, rfl⟩
end
section
/-! PART 15: a layout is copied; locos come and go -/
theorem inL_ne {k k2 K : Nat} (h : K ≤ 6) (hne : k2 ≠ k) : ¬ inL k K k2 := fun q => q.elim (fun e => hne e.2) (fun e => by omega)
theorem inL_ne7 {k k2 j : Nat} (hj : j < 8) (hne : k2 ≠ k) : ¬ inL k 7 (8 * k2 + j) := fun q => q.elim (fun e => by omega) (fun e => hne (by omega))
theorem Rp.keep {n h : Nat} {I I' : Ii} {pm pm' : Pm} {k k2 : Nat} {σ : Sg} (R : Rp n h I pm k2 σ) (F : Fr k I pm I' pm') (hne : k2 ≠ k) : Rp n h I' pm' k2 σ := by
  obtain ⟨⟨a1, a2, a3, a4, a5, a6, a7, a8⟩, b, c, d, e1, e2, e3, e4, e5, e6⟩ := R
  have u : ∀ K j, K ≤ 6 → I' K k2 j = I K k2 j := fun K j hK => F.1 K k2 j (inL_ne hK hne)
  have up : ∀ r, pm' k2 r = pm k2 r := fun r => F.2 k2 r hne
  refine ⟨⟨?_, ?_, ?_, ?_, ?_, ?_, ?_, ?_⟩, fun b' hb' => ?_, fun r' f' hr' hf' => ?_, fun j hj => ?_, fun r hr => by rw [up]; exact e1 r hr, fun r r' hr hr' hq => e2 r r' hr hr' (by rw [← up, ← up]; exact hq), e3, e4, e5, e6⟩
  · rw [u _ _ (by decide)]; exact a1
  · rw [u _ _ (by decide)]; exact a2
  · rw [u _ _ (by decide)]; exact a3
  · rw [u _ _ (by decide), u _ _ (by decide)]; exact a4
  · rw [u _ _ (by decide)]; exact a5
  · rw [u _ _ (by decide)]; exact a6
  · rw [u _ _ (by decide)]; exact a7
  · rw [u _ _ (by decide)]; exact a8
  · rw [u _ _ (by decide)]; exact b b' hb'
  · rw [up, F.1 _ _ _ (inL_ne7 (e1 r' (by omega)) hne)]
    exact c r' f' hr' hf'
  · rw [u _ _ (by decide), u _ _ (by decide), u _ _ (by decide)]; exact d j hj
/-- a row's places: the numbers 0 to 7, each once -/
def Pw (pm : Pm) (k : Nat) : Prop := (∀ r, r < 8 → pm k r < 8) ∧ ∀ r r', r < 8 → r' < 8 → pm k r = pm k r' → r = r'
theorem Rp.pw {n h : Nat} {I : Ii} {pm : Pm} {k : Nat} {σ : Sg} (R : Rp n h I pm k σ) : Pw pm k := ⟨R.2.2.2.2.1, R.2.2.2.2.2.1⟩
def lposS (σ : Sg) (a : Int32) : Nat → Nat
  | 0 => 0
  | j + 1 => if a < σ (16 + 11 * j) then lposS σ a j else j + 1
theorem lposS_le (σ : Sg) (a : Int32) : ∀ j, lposS σ a j ≤ j := by
  intro j
  induction j with
  | zero => exact Nat.le_refl _
  | succ j ih =>
    unfold lposS
    split
    · omega
    · exact Nat.le_refl _
def newF (a b c d : Int32) (f : Nat) : Int32 := if f = 0 then a else if f = 1 then b else if f = 2 then c else if f = 3 then d else if f = 7 then 1 else 0
def addS (n : Nat) (a b c d : Int32) (σ : Sg) : Sg := fun i => if i = 6 then nI (n + 1) else if 16 ≤ i ∧ i < 27 + 11 * n then (if (i - 16) / 11 < lposS σ a n then σ i else if (i - 16) / 11 = lposS σ a n then newF a b c d ((i - 16) % 11) else σ (i - 11)) else σ i
def lifS (n p : Nat) (σ : Sg) : Sg := fun i => if i = 6 then nI (n - 1) else if 16 + 11 * p ≤ i ∧ i < 16 + 11 * (n - 1) then σ (i + 11) else if 16 + 11 * (n - 1) ≤ i ∧ i < 16 + 11 * n then 0 else σ i
/-- which loco stands where, behind a coming and behind a going -/
def pmA (pm : Pm) (k n p : Nat) : Pm := fun k' r => if k' = k then (if r < p then pm k r else if r = p then pm k n else if r ≤ n then pm k (r - 1) else pm k r) else pm k' r
def pmL (pm : Pm) (k n p : Nat) : Pm := fun k' r => if k' = k then (if r < p then pm k r else if r + 1 < n then pm k (r + 1) else if r + 1 = n then pm k p else pm k r) else pm k' r
theorem Rp.locos {n h n' : Nat} {I I' : Ii} {pm pm' : Pm} {k : Nat} {σ σ' : Sg} (R : Rp n h I pm k σ) (hn : n' ≤ 8) (hw : Pw pm' k) (ho : ∀ K j, K ≤ 6 → ¬ (K = 0 ∧ j = 3) → I' K k j = I K k j) (hs : ∀ i, (i < 16 ∨ 104 ≤ i) → i ≠ 6 → σ' i = σ i) (s6 : σ' 6 = nI n') (h3 : I' 0 k 3 = nI n') (hr : ∀ r f, r < n' → f < 11 → I' 7 (8 * k + pm' k r) (fmS f) = σ' (16 + 11 * r + f)) : Rp n' h I' pm' k σ' := by
  obtain ⟨⟨a1, a2, a3, a4, a5, a6, a7, a8⟩, b, c, d, e1, e2, e3, e4, e5, e6⟩ := R
  refine ⟨⟨?_, ?_, ?_, ?_, ?_, ?_, ?_, ?_⟩, fun b' hb => ?_, hr, fun j hj => ?_, hw.1, hw.2, s6, hn, by rw [hs 7 (by decide) (by decide)]; exact e5, e6⟩
  · rw [h3, s6]
  · rw [ho _ _ (by decide) (by decide), hs _ (by decide) (by decide)]; exact a2
  · rw [ho _ _ (by decide) (by decide), hs _ (by decide) (by decide)]; exact a3
  · rw [ho _ _ (by decide) (by decide), ho _ _ (by decide) (by decide), hs _ (by decide) (by decide)]; exact a4
  · rw [ho _ _ (by decide) (by decide), hs _ (by decide) (by decide)]; exact a5
  · rw [ho _ _ (by decide) (by decide), hs _ (by decide) (by decide)]; exact a6
  · rw [ho _ _ (by decide) (by decide), hs _ (by decide) (by decide)]; exact a7
  · rw [ho _ _ (by decide) (by decide), hs _ (by decide) (by decide)]; exact a8
  · rw [ho _ _ (by decide) (by omega), hs _ (by omega) (by omega)]; exact b b' hb
  · rw [ho _ _ (by decide) (by omega), ho _ _ (by decide) (by omega), ho _ _ (by decide) (by omega), hs _ (by omega) (by omega), hs _ (by omega) (by omega), hs _ (by omega) (by omega)]; exact d j hj
theorem begin_at {I : Ii} {i : Nat} {a b c d : Int32} {f : Nat} (hf : f < 11) : beginI I i a b c d 7 i (fmS f) = newF a b c d f := by
  rcases (show f = 0 ∨ f = 1 ∨ f = 2 ∨ f = 3 ∨ f = 4 ∨ f = 5 ∨ f = 6 ∨ f = 7 ∨ f = 8 ∨ f = 9 ∨ f = 10 by omega) with rfl | rfl | rfl | rfl | rfl | rfl | rfl | rfl | rfl | rfl | rfl <;> simp [beginI, up3, newF, fmS]
theorem begin_out {I : Ii} {i : Nat} {a b c d : Int32} {K i' f : Nat} (h : ¬ (K = 7 ∧ i' = i)) : beginI I i a b c d K i' f = I K i' f := by
  unfold beginI
  iterate 11 rw [up3_n (fun e => h ⟨e.1, e.2.1⟩)]
theorem pwA {pm : Pm} {k n p : Nat} (h : Pw pm k) (hn : n < 8) (hp : p ≤ n) : Pw (pmA pm k n p) k := by
  have key : ∀ r, r < 8 → ∃ s, s < 8 ∧ pmA pm k n p k r = pm k s ∧ ((r < p ∧ s = r) ∨ (r = p ∧ s = n) ∨ (p < r ∧ r ≤ n ∧ s + 1 = r) ∨ (n < r ∧ s = r)) := by
    intro r hr
    unfold pmA
    rw [if_pos rfl]
    by_cases c1 : r < p
    · exact ⟨r, hr, by rw [if_pos c1], Or.inl ⟨c1, rfl⟩⟩
    · by_cases c2 : r = p
      · exact ⟨n, hn, by rw [if_neg c1, if_pos c2], Or.inr (Or.inl ⟨c2, rfl⟩)⟩
      · by_cases c3 : r ≤ n
        · exact ⟨r - 1, by omega, by rw [if_neg c1, if_neg c2, if_pos c3], Or.inr (Or.inr (Or.inl ⟨by omega, c3, by omega⟩))⟩
        · exact ⟨r, hr, by rw [if_neg c1, if_neg c2, if_neg c3], Or.inr (Or.inr (Or.inr ⟨by omega, rfl⟩))⟩
  refine ⟨fun r hr => ?_, fun r r' hr hr' e => ?_⟩
  · obtain ⟨s, hs, e, -⟩ := key r hr
    rw [e]; exact h.1 s hs
  · obtain ⟨s, hs, e1, h1⟩ := key r hr
    obtain ⟨s', hs', e2, h2⟩ := key r' hr'
    rw [e1, e2] at e
    have := h.2 s s' hs hs' e
    omega
theorem pwL {pm : Pm} {k n p : Nat} (h : Pw pm k) (hn : n ≤ 8) (hp : p < n) : Pw (pmL pm k n p) k := by
  have key : ∀ r, r < 8 → ∃ s, s < 8 ∧ pmL pm k n p k r = pm k s ∧ ((r < p ∧ s = r) ∨ (p ≤ r ∧ r + 1 < n ∧ s = r + 1) ∨ (r + 1 = n ∧ s = p) ∨ (n ≤ r ∧ s = r)) := by
    intro r hr
    unfold pmL
    rw [if_pos rfl]
    by_cases c1 : r < p
    · exact ⟨r, hr, by rw [if_pos c1], Or.inl ⟨c1, rfl⟩⟩
    · by_cases c2 : r + 1 < n
      · exact ⟨r + 1, by omega, by rw [if_neg c1, if_pos c2], Or.inr (Or.inl ⟨by omega, c2, rfl⟩)⟩
      · by_cases c3 : r + 1 = n
        · exact ⟨p, by omega, by rw [if_neg c1, if_neg c2, if_pos c3], Or.inr (Or.inr (Or.inl ⟨c3, rfl⟩))⟩
        · exact ⟨r, hr, by rw [if_neg c1, if_neg c2, if_neg c3], Or.inr (Or.inr (Or.inr ⟨by omega, rfl⟩))⟩
  refine ⟨fun r hr => ?_, fun r r' hr hr' e => ?_⟩
  · obtain ⟨s, hs, e, -⟩ := key r hr
    rw [e]; exact h.1 s hs
  · obtain ⟨s, hs, e1, h1⟩ := key r hr
    obtain ⟨s', hs', e2, h2⟩ := key r' hr'
    rw [e1, e2] at e
    have := h.2 s s' hs hs' e
    omega
theorem Rp.add {n h : Nat} {I I' : Ii} {pm pm' : Pm} {k : Nat} {σ : Sg} {a b c d : Int32} (R : Rp n h I pm k σ) (hn : n < 8) (hpm : ∀ r, r < 8 → pm' k r = pmA pm k n (lposS σ a n) k r) (hI : ∀ K i j, ¬ (K = 0 ∧ i = k ∧ j = 3) → I' K i j = beginI I (8 * k + pm k n) a b c d K i j) (h3 : I' 0 k 3 = nI (n + 1)) : Rp (n + 1) h I' pm' k (addS n a b c d σ) := by
  have hp := lposS_le σ a n
  have hw := pwA R.pw hn hp
  have hw' : Pw pm' k := ⟨fun r hr => by rw [hpm r hr]; exact hw.1 r hr, fun r r' hr hr' e => hw.2 r r' hr hr' (by rw [← hpm r hr, ← hpm r' hr']; exact e)⟩
  refine R.locos (by omega) hw' (fun K j hK hj => by rw [hI _ _ _ (fun e => hj ⟨e.1, e.2.2⟩), begin_out (by omega)]) (fun i hi h6 => by unfold addS; rw [if_neg h6, if_neg (by omega)]) (by unfold addS; rw [if_pos rfl]) h3 (fun r f hr hf => ?_)
  rw [hI _ _ _ (by omega), hpm r (by omega)]
  have q1 : (16 + 11 * r + f - 16) / 11 = r := by omega
  have q2 : (16 + 11 * r + f - 16) % 11 = f := by omega
  have hσ : addS n a b c d σ (16 + 11 * r + f) = if r < lposS σ a n then σ (16 + 11 * r + f) else if r = lposS σ a n then newF a b c d f else σ (16 + 11 * r + f - 11) := by
    unfold addS
    rw [if_neg (by omega), if_pos (by omega), q1, q2]
  have hp2 : pmA pm k n (lposS σ a n) k r = if r < lposS σ a n then pm k r else if r = lposS σ a n then pm k n else if r ≤ n then pm k (r - 1) else pm k r := by
    unfold pmA
    rw [if_pos rfl]
  rw [hσ, hp2]
  have hne : ∀ s, s < n → ¬ (7 = 7 ∧ 8 * k + pm k s = 8 * k + pm k n) := fun s hs e => by
    have := R.pw.2 s n (by omega) hn (by omega)
    omega
  by_cases c1 : r < lposS σ a n
  · rw [if_pos c1, if_pos c1, begin_out (hne r (by omega))]
    exact R.lc (by omega) hf
  · rw [if_neg c1, if_neg c1]
    by_cases c2 : r = lposS σ a n
    · rw [if_pos c2, if_pos c2, begin_at hf]
    · rw [if_neg c2, if_neg c2, if_pos (by omega), begin_out (hne (r - 1) (by omega)), show 16 + 11 * r + f - 11 = 16 + 11 * (r - 1) + f by omega]
      exact R.lc (by omega) hf
theorem Rp.lift {n h : Nat} {I I' : Ii} {pm pm' : Pm} {k p : Nat} {σ : Sg} (R : Rp n h I pm k σ) (hp : p < n) (hpm : ∀ r, r < 8 → pm' k r = pmL pm k n p k r) (hI : ∀ K i j, ¬ (K = 0 ∧ i = k ∧ j = 3) → I' K i j = I K i j) (h3 : I' 0 k 3 = nI (n - 1)) : Rp (n - 1) h I' pm' k (lifS n p σ) := by
  have hn := R.n8
  have hw := pwL R.pw hn hp
  have hw' : Pw pm' k := ⟨fun r hr => by rw [hpm r hr]; exact hw.1 r hr, fun r r' hr hr' e => hw.2 r r' hr hr' (by rw [← hpm r hr, ← hpm r' hr']; exact e)⟩
  refine R.locos (by omega) hw' (fun K j hK hj => hI _ _ _ (fun e => hj ⟨e.1, e.2.2⟩)) (fun i hi h6 => by unfold lifS; rw [if_neg h6, if_neg (by omega), if_neg (by omega)]) (by unfold lifS; rw [if_pos rfl]) h3 (fun r f hr hf => ?_)
  rw [hI _ _ _ (by omega), hpm r (by omega)]
  have hσ : lifS n p σ (16 + 11 * r + f) = if r < p then σ (16 + 11 * r + f) else σ (16 + 11 * r + f + 11) := by
    unfold lifS
    by_cases c1 : r < p
    · rw [if_neg (by omega), if_neg (by omega), if_neg (by omega), if_pos c1]
    · rw [if_neg (by omega), if_pos (by omega), if_neg c1]
  have hp2 : pmL pm k n p k r = if r < p then pm k r else if r + 1 < n then pm k (r + 1) else if r + 1 = n then pm k p else pm k r := by
    unfold pmL
    rw [if_pos rfl]
  rw [hσ, hp2]
  by_cases c1 : r < p
  · rw [if_pos c1, if_pos c1]
    exact R.lc (by omega) hf
  · rw [if_neg c1, if_neg c1, if_pos (by omega), show 16 + 11 * r + f + 11 = 16 + 11 * (r + 1) + f by omega]
    exact R.lc (by omega) hf
/-- a layout holds what another held -/
theorem Rp.cop {n h : Nat} {I I' : Ii} {pm pm' : Pm} {k k2 : Nat} {σ : Sg} (R : Rp n h I pm k2 σ) (hw : Pw pm' k) (h0 : ∀ j, 3 ≤ j → j < 10 → I' 0 k j = I 0 k2 j) (h2 : I' 2 k 3 = I 2 k2 3) (h6 : ∀ b, b < 8 → I' 6 k b = I 6 k2 b) (hr : ∀ K q, 3 ≤ K → K ≤ 5 → q < 20 → I' K k q = I K k2 q) (h7 : ∀ r f, r < n → f < 11 → I' 7 (8 * k + pm' k r) f = I 7 (8 * k2 + pm k2 r) f) : Rp n h I' pm' k σ := by
  obtain ⟨⟨a1, a2, a3, a4, a5, a6, a7, a8⟩, b, c, d, e1, e2, e3, e4, e5, e6⟩ := R
  refine ⟨⟨?_, ?_, ?_, ?_, ?_, ?_, ?_, ?_⟩, fun b' hb => ?_, fun r f hrr hf => ?_, fun j hj => ?_, hw.1, hw.2, e3, e4, e5, e6⟩
  · rw [h0 _ (by decide) (by decide)]; exact a1
  · rw [h0 _ (by decide) (by decide)]; exact a2
  · rw [h0 _ (by decide) (by decide)]; exact a3
  · rw [h0 _ (by decide) (by decide), h0 _ (by decide) (by decide)]; exact a4
  · rw [h0 _ (by decide) (by decide)]; exact a5
  · rw [h0 _ (by decide) (by decide)]; exact a6
  · rw [h0 _ (by decide) (by decide)]; exact a7
  · rw [h2]; exact a8
  · rw [h6 b' hb]; exact b b' hb
  · rw [h7 r _ hrr (fmS_lt hf)]; exact c r f hrr hf
  · rw [hr _ _ (by decide) (by decide) (by omega), hr _ _ (by decide) (by decide) (by omega), hr _ _ (by decide) (by decide) (by omega)]; exact d j hj
set_option maxHeartbeats 4000000 in
set_option maxRecDepth 100000 in
theorem c_X1_copyFrom {l : Launch} {G : Gm} (hj : Aj G) {I : Ii} {pm : Pm} {k k2 : Nat} (hk : k < 11) (hk2 : k2 < 11) (hne : k2 ≠ k) {n h : Nat} {σ : Sg} (R : Rp n h I pm k2 σ) (hw : Pw pm k) : CV l G yX1_copyFrom (wz yX1_copyFrom cX1_copyFrom 3 none) (rmL 2) [.ref (G.2.2 0 k), .ref (G.2.2 0 k2)] I pm (fun u => Rp n h u.1 u.2 k σ ∧ Fr k I pm u.1 u.2 ∧ u.2 = pm) := by
  refine CV.walk hj (by decide +kernel) (by show _ ≤ 3; exact Nat.le_of_ble_eq_true rfl) ?_
  intro p e s m args below meth c F hr hlk
  have hn8 := R.n8
  have LOOP : ∀ j, j ≤ n → ∀ (I2 : Ii) (xj : Int32), xj = nI j → (∀ r f, r < j → f < 11 → I2 7 (8 * k + pm k r) f = I 7 (8 * k2 + pm k2 r) f) → (∀ K i c, ¬ (K = 7 ∧ i / 8 = k) → I2 K i c = I K i c) → GG p l e (rmL 2) s m args below meth c G (AA G) 3 0 0 (MQ below (va_Qv (fun (u : Ii × Pm) => Rp n h u.1 u.2 k σ ∧ Fr k I pm u.1 u.2 ∧ u.2 = pm) (fun (u : Ii × Pm) t => Wd G u.1 u.2 t.heap) (AA G)) args s 0 0 (AA G)) I2 pm [(0, .ref (G.2.2 0 k)), (1, .ref (G.2.2 0 k2)), (2, .int xj)] 2 [] := by
    refine dn_ind ?_
    intro j hjl ih I2 xj ej hv ho
    have ec : I2 0 k2 3 = nI n := (ho 0 k2 3 (by omega)).trans R.cnt
    refine g_iload_n F 2 dX1_copyFrom_2 rfl rfl ?_
    refine g_aload_n F 1 dX1_copyFrom_3 rfl rfl ?_
    refine gf_0_3 F hk2 mFL_X1_29 dX1_copyFrom_4 ?_
    refine g_icmp_ge F 31 dX1_copyFrom_7 (by decide) (fun c_7 => ?_) (fun c_7 => ?_)
    · have n_7 := nx_get (a := j) (b := n) ej ec (by omega) (by omega) c_7
      refine g_aload_n F 0 dX1_copyFrom_31 rfl rfl ?_
      refine gf_0_1 F hk mFL_X1_20 dX1_copyFrom_32 ?_
      refine g_aload_n F 1 dX1_copyFrom_35 rfl rfl ?_
      refine gf_0_1 F hk2 mFL_X1_20 dX1_copyFrom_36 ?_
      refine g_callVv (na := 1) F 2 _ (c_X4_copyFrom hj hk hk2 hne) hk rfl rfl lk_X1_37 rfl rfl (by decide +kernel) ⟨rfl, rfl, Nat.le_of_ble_eq_true rfl, Nat.le_of_ble_eq_true rfl, Nat.le_of_ble_eq_true rfl, Nat.le_of_ble_eq_true rfl, Nat.le_of_ble_eq_true rfl⟩ dX1_copyFrom_39 (fun u_39 h_39 => ?_)
      obtain ⟨ue, uv, us, uo⟩ := h_39
      obtain ⟨I3, pm3⟩ := u_39
      dsimp only at ue uv us uo
      subst ue
      dsimp only
      refine g_aload_n F 1 dX1_copyFrom_42 rfl rfl ?_
      refine gf_0_2 F hk2 mFL_X1_24 dX1_copyFrom_43 ?_
      refine g_iconst (v := 0) F dX1_copyFrom_46 (by decide) ?_
      refine g_aload_n F 0 dX1_copyFrom_47 rfl rfl ?_
      refine gf_0_2 F hk mFL_X1_24 dX1_copyFrom_48 ?_
      refine g_iconst (v := 0) F dX1_copyFrom_51 (by decide) ?_
      refine g_bipush (v := 8) F dX1_copyFrom_52 (by decide) ?_
      refine g_copyi (n := 8) (K := 6) (K' := 6) F hk2 hk rfl rfl mML_X1_40 mNA_arraycopyName mST_arraycopyName mIN_java_lang_System rfl (by decide) ⟨Nat.le_of_ble_eq_true rfl, Nat.le_of_ble_eq_true rfl⟩ (by simp only [cvv, upR_s]) dX1_copyFrom_54 ?_
      refine g_aload_n F 0 dX1_copyFrom_57 rfl rfl ?_
      refine g_aload_n F 1 dX1_copyFrom_58 rfl rfl ?_
      refine gf_0_3 F hk2 mFL_X1_29 dX1_copyFrom_59 ?_
      refine g_eqi (y := I 0 k2 3) (by simp [up3, upR, hne, uo, ho]) ?_
      refine gp_0_3 F hk mFL_X1_29 dX1_copyFrom_62 ?_
      refine g_aload_n F 0 dX1_copyFrom_65 rfl rfl ?_
      refine g_aload_n F 1 dX1_copyFrom_66 rfl rfl ?_
      refine gf_0_4 F hk2 mFL_X1_46 dX1_copyFrom_67 ?_
      refine g_eqi (y := I 0 k2 4) (by simp [up3, upR, hne, uo, ho]) ?_
      refine gp_0_4 F hk mFL_X1_46 dX1_copyFrom_70 ?_
      refine g_aload_n F 0 dX1_copyFrom_73 rfl rfl ?_
      refine g_aload_n F 1 dX1_copyFrom_74 rfl rfl ?_
      refine gf_0_5 F hk2 mFL_X1_49 dX1_copyFrom_75 ?_
      refine g_eqi (y := I 0 k2 5) (by simp [up3, upR, hne, uo, ho]) ?_
      refine gp_0_5 F hk mFL_X1_49 dX1_copyFrom_78 ?_
      refine g_aload_n F 0 dX1_copyFrom_81 rfl rfl ?_
      refine g_aload_n F 1 dX1_copyFrom_82 rfl rfl ?_
      refine gf_0_6 F hk2 mFL_X1_52 dX1_copyFrom_83 ?_
      refine g_eqi (y := I 0 k2 6) (by simp [up3, upR, hne, uo, ho]) ?_
      refine gp_0_6 F hk mFL_X1_52 dX1_copyFrom_86 ?_
      refine g_aload_n F 0 dX1_copyFrom_89 rfl rfl ?_
      refine g_aload_n F 1 dX1_copyFrom_90 rfl rfl ?_
      refine gf_0_7 F hk2 mFL_X1_55 dX1_copyFrom_91 ?_
      refine g_eqi (y := I 0 k2 7) (by simp [up3, upR, hne, uo, ho]) ?_
      refine gp_0_7 F hk mFL_X1_55 dX1_copyFrom_94 ?_
      refine g_aload_n F 0 dX1_copyFrom_97 rfl rfl ?_
      refine g_aload_n F 1 dX1_copyFrom_98 rfl rfl ?_
      refine gf_0_8 F hk2 mFL_X1_58 dX1_copyFrom_99 ?_
      refine g_eqi (y := I 0 k2 8) (by simp [up3, upR, hne, uo, ho]) ?_
      refine gp_0_8 F hk mFL_X1_58 dX1_copyFrom_102 ?_
      refine g_aload_n F 0 dX1_copyFrom_105 rfl rfl ?_
      refine g_aload_n F 1 dX1_copyFrom_106 rfl rfl ?_
      refine gf_0_9 F hk2 mFL_X1_61 dX1_copyFrom_107 ?_
      refine g_eqi (y := I 0 k2 9) (by simp [up3, upR, hne, uo, ho]) ?_
      refine gp_0_9 F hk mFL_X1_61 dX1_copyFrom_110 ?_
      refine g_vret F hr hlk dX1_copyFrom_113 ?_
      have hjn : j = n := by omega
      subst hjn
      refine ⟨R.cop hw (fun j h3 h10 => ?_) ?_ (fun b hb => ?_) (fun K q h3 h5 hq => ?_) (fun r f hr hf => ?_), ⟨fun K i c hq => ?_, fun _ _ _ => rfl⟩, rfl⟩
      · rcases (show j = 3 ∨ j = 4 ∨ j = 5 ∨ j = 6 ∨ j = 7 ∨ j = 8 ∨ j = 9 by omega) with rfl | rfl | rfl | rfl | rfl | rfl | rfl <;> simp [up3]
      · simp [up3, upR, us]
        exact ho 2 k2 3 (by omega)
      · simp [up3, upR, va_cpy, hb, uo, ho]
      · simp [up3, upR, show ¬ K = 0 by omega, show ¬ K = 6 by omega]
        rw [uv K q h3 h5 hq]
        exact ho K k2 q (by omega)
      · simp [up3, upR]
        rw [uo 7 _ _ (by omega)]
        exact hv r f hr hf
      · dsimp only
        iterate 7 rw [up3_n (fun e => hq (Or.inl ⟨by omega, e.2.1⟩))]
        rw [upR_n (fun e => hq (Or.inl ⟨by omega, e.2⟩)), uo K i c (fun e => hq (Or.inl ⟨by omega, e.2.2⟩))]
        exact ho K i c (fun e => hq (Or.inr e))
    · have n_7 := nx_gef (a := j) (b := n) ej ec (by omega) (by omega) c_7
      have hi7 : 8 * k + pm k j < 88 := inL7 hk (hw.1 j (by omega))
      have hi72 : 8 * k2 + pm k2 j < 88 := inL7 hk2 (R.p8 (by omega))
      have h77 : 8 * k2 + pm k2 j ≠ 8 * k + pm k j := fun e => hne (by have := hw.1 j (by omega); have := R.p8 (r := j) (by omega); omega)
      refine g_aload_n F 0 dX1_copyFrom_10 rfl rfl ?_
      refine gf_0_0 F hk mFL_X1_11 dX1_copyFrom_11 ?_
      refine g_iload_n F 2 dX1_copyFrom_14 rfl rfl ?_
      refine ga_1 (j := j) F hk ej (by omega) dX1_copyFrom_15 ?_
      refine g_aload_n F 1 dX1_copyFrom_16 rfl rfl ?_
      refine gf_0_0 F hk2 mFL_X1_11 dX1_copyFrom_17 ?_
      refine g_iload_n F 2 dX1_copyFrom_20 rfl rfl ?_
      refine ga_1 (j := j) F hk2 ej (by omega) dX1_copyFrom_21 ?_
      refine g_callVv (na := 1) F 7 _ (c_X2_copyFrom hj hi7 hi72 h77) hi7 rfl rfl lk_X1_33 rfl rfl (by decide +kernel) ⟨rfl, rfl, Nat.le_of_ble_eq_true rfl, Nat.le_of_ble_eq_true rfl, Nat.le_of_ble_eq_true rfl, Nat.le_of_ble_eq_true rfl, Nat.le_of_ble_eq_true rfl⟩ dX1_copyFrom_22 (fun u_22 h_22 => ?_)
      obtain ⟨ue, uv, uo⟩ := h_22
      obtain ⟨I3, pm3⟩ := u_22
      dsimp only at ue uv uo
      subst ue
      dsimp only
      refine g_iincC (q := 1) (L' := [(2, _), (0, _), (1, _)]) F 2 dX1_copyFrom_25 (by decide) rfl (by decide) rfl ?_
      refine g_goto F 2 dX1_copyFrom_28 (by decide) ?_
      refine g_sub [1, 2, 0] rfl ?_
      refine ih (by omega) _ _ (nx_add ej rfl) (fun r f hr hf => ?_) (fun K i c q => ?_)
      · by_cases e : r = j
        · rw [e, uv f hf, ho 7 _ _ (by have := R.p8 (r := j) (by omega); omega)]
        · rw [uo _ _ _ (fun q => e (hw.2 r j (by omega) (by omega) (by omega)))]
          exact hv r f (by omega) hf
      · rw [uo _ _ _ (fun e => q ⟨e.1, by have := hw.1 j (by omega); omega⟩)]
        exact ho K i c q
  refine g_iconst (v := 0) F dX1_copyFrom_0 (by decide) ?_
  refine g_istore_n (L' := [(2, _), (0, _), (1, _)]) F dX1_copyFrom_1 rfl (by decide) rfl ?_
  refine g_sub [1, 2, 0] rfl ?_
  exact LOOP 0 (Nat.zero_le _) _ _ rfl (fun r f hr => absurd hr (by omega)) (fun _ _ _ _ => rfl)
set_option maxHeartbeats 4000000 in
set_option maxRecDepth 100000 in
theorem c_X1_addLoco {l : Launch} {G : Gm} (hj : Aj G) {I : Ii} {pm : Pm} {k : Nat} (hk : k < 11) {n h : Nat} {σ : Sg} (R : Rp n h I pm k σ) {a b c0 d : Int32} : CI l G yX1_addLoco (wz yX1_addLoco cX1_addLoco 7 (some .int)) (rmL 1) [.ref (G.2.2 0 k), .int a, .int b, .int c0, .int d] I pm (fun r u => (¬ ((1 ≤ a ∧ a ≤ 99) ∧ (1 ≤ b ∧ b ≤ 20) ∧ (0 ≤ c0 ∧ c0 ≤ 2) ∧ (0 ≤ d ∧ d ≤ 799)) ∧ r = -2 ∧ u = (I, pm)) ∨ (((1 ≤ a ∧ a ≤ 99) ∧ (1 ≤ b ∧ b ≤ 20) ∧ (0 ≤ c0 ∧ c0 ≤ 2) ∧ (0 ≤ d ∧ d ≤ 799)) ∧ rkS σ a n < n ∧ r = -5 ∧ u = (I, pm)) ∨ (((1 ≤ a ∧ a ≤ 99) ∧ (1 ≤ b ∧ b ≤ 20) ∧ (0 ≤ c0 ∧ c0 ≤ 2) ∧ (0 ≤ d ∧ d ≤ 799)) ∧ ¬ rkS σ a n < n ∧ n = 8 ∧ r = -4 ∧ u = (I, pm)) ∨ (((1 ≤ a ∧ a ≤ 99) ∧ (1 ≤ b ∧ b ≤ 20) ∧ (0 ≤ c0 ∧ c0 ≤ 2) ∧ (0 ≤ d ∧ d ≤ 799)) ∧ ¬ rkS σ a n < n ∧ n < 8 ∧ r = nI (n + 1) ∧ Rp (n + 1) h u.1 u.2 k (addS n a b c0 d σ) ∧ Fr k I pm u.1 u.2)) := by
  refine CI.walk hj (by decide +kernel) (by show _ ≤ 7; exact Nat.le_of_ble_eq_true rfl) ?_
  intro p e s m args below meth c F hr hlk
  have hn8 := R.n8
  have hrl := rk_le σ a n
  have LOOP : ∀ j, ((1 ≤ a ∧ a ≤ 99) ∧ (1 ≤ b ∧ b ≤ 20) ∧ (0 ≤ c0 ∧ c0 ≤ 2) ∧ (0 ≤ d ∧ d ≤ 799)) → ¬ rkS σ a n < n → n < 8 → ∀ (pm2 : Pm) (xj : Int32), xj = nI j → j ≤ n → lposS σ a n = lposS σ a j → (∀ r, r < 8 → pm2 k r = if j < r ∧ r ≤ n then pm k (r - 1) else pm k r) → (∀ k2 r, k2 ≠ k → pm2 k2 r = pm k2 r) → GG p l e (rmL 1) s m args below meth c G (AA G) 7 0 0 (MQ below (va_Qi (fun (r : Int32) (u : Ii × Pm) => (¬ ((1 ≤ a ∧ a ≤ 99) ∧ (1 ≤ b ∧ b ≤ 20) ∧ (0 ≤ c0 ∧ c0 ≤ 2) ∧ (0 ≤ d ∧ d ≤ 799)) ∧ r = -2 ∧ u = (I, pm)) ∨ (((1 ≤ a ∧ a ≤ 99) ∧ (1 ≤ b ∧ b ≤ 20) ∧ (0 ≤ c0 ∧ c0 ≤ 2) ∧ (0 ≤ d ∧ d ≤ 799)) ∧ rkS σ a n < n ∧ r = -5 ∧ u = (I, pm)) ∨ (((1 ≤ a ∧ a ≤ 99) ∧ (1 ≤ b ∧ b ≤ 20) ∧ (0 ≤ c0 ∧ c0 ≤ 2) ∧ (0 ≤ d ∧ d ≤ 799)) ∧ ¬ rkS σ a n < n ∧ n = 8 ∧ r = -4 ∧ u = (I, pm)) ∨ (((1 ≤ a ∧ a ≤ 99) ∧ (1 ≤ b ∧ b ≤ 20) ∧ (0 ≤ c0 ∧ c0 ≤ 2) ∧ (0 ≤ d ∧ d ≤ 799)) ∧ ¬ rkS σ a n < n ∧ n < 8 ∧ r = nI (n + 1) ∧ Rp (n + 1) h u.1 u.2 k (addS n a b c0 d σ) ∧ Fr k I pm u.1 u.2)) (fun (u : Ii × Pm) t => Wd G u.1 u.2 t.heap) (AA G)) args s 0 0 (AA G)) I pm2 [(0, .ref (G.2.2 0 k)), (1, .int a), (2, .int b), (3, .int c0), (4, .int d), (5, .ref (G.2.2 7 (8 * k + pm k n))), (6, .int xj)] 88 [] := by
    refine up_ind ?_
    intro j ih hb hrk hlt pm2 xj ej hjl hip hv ho
    refine g_iload F 6 dX1_addLoco_88 rfl ?_
    refine g_if_le F 131 dX1_addLoco_90 (by decide) (fun c_90 => ?_) (fun c_90 => ?_)
    · have n_90 := nx_let (a := j) (b := 0) ej rfl (by omega) (by omega) c_90
      have HP : lposS σ a n = j := by rw [hip, show j = 0 by omega]; rfl
      have hin : 8 * k + pm k n < 88 := inL7 hk (R.p8 (by omega))
      have hbe : ∀ (x1 x2 x3 x4 : Int32), beginI I (8 * k + pm k n) x1 x2 x3 x4 0 k 3 = nI n := fun _ _ _ _ => (begin_out (by omega)).trans R.cnt
      refine g_aload_n F 0 dX1_addLoco_131 rfl rfl ?_
      refine gf_0_0 F hk mFL_X1_11 dX1_addLoco_132 ?_
      refine g_iload F 6 dX1_addLoco_135 rfl ?_
      refine g_aload F 5 dX1_addLoco_137 rfl ?_
      refine gs_1 (j := j) F hk (R.p8 (by omega)) ej (by omega) dX1_addLoco_139 ?_
      refine g_aload F 5 dX1_addLoco_140 rfl ?_
      refine g_iload_n F 1 dX1_addLoco_142 rfl rfl ?_
      refine g_iload_n F 2 dX1_addLoco_143 rfl rfl ?_
      refine g_iload_n F 3 dX1_addLoco_144 rfl rfl ?_
      refine g_iload F 4 dX1_addLoco_145 rfl ?_
      refine g_callVv (na := 4) F 7 _ (c_X2_begin hj hin) hin rfl rfl lk_X1_79 rfl rfl (by decide +kernel) ⟨rfl, rfl, Nat.le_of_ble_eq_true rfl, Nat.le_of_ble_eq_true rfl, Nat.le_of_ble_eq_true rfl, Nat.le_of_ble_eq_true rfl, Nat.le_of_ble_eq_true rfl⟩ dX1_addLoco_147 (fun u_147 h_147 => ?_)
      subst h_147
      try dsimp only
      refine g_aload_n F 0 dX1_addLoco_150 rfl rfl ?_
      refine g_dup F dX1_addLoco_151 rfl ?_
      refine gf_0_3 F hk mFL_X1_29 dX1_addLoco_152 ?_
      refine g_iconst (v := 1) F dX1_addLoco_155 (by decide) ?_
      refine g_iadd F dX1_addLoco_156 ?_
      refine gp_0_3 F hk mFL_X1_29 dX1_addLoco_157 ?_
      refine g_aload_n F 0 dX1_addLoco_160 rfl rfl ?_
      refine gf_0_3 F hk mFL_X1_29 dX1_addLoco_161 ?_
      refine g_iret F hr hlk rfl dX1_addLoco_164 ?_
      refine Or.inr (Or.inr (Or.inr ⟨hb, hrk, hlt, ?_, R.add (I' := up3 (beginI I (8 * k + pm k n) a b c0 d) 0 k 3 (beginI I (8 * k + pm k n) a b c0 d 0 k 3 + 1)) hlt (fun r hr => ?_) (fun K i q hq => up3_n (fun e => hq ⟨e.1, e.2.1, e.2.2⟩)) (by rw [up3_s, hbe]; exact nI_1 n), ⟨fun K i q hq => ?_, fun k2 r hk2 => ?_⟩⟩))
      · show up3 (beginI I (8 * k + pm k n) a b c0 d) 0 k 3 (beginI I (8 * k + pm k n) a b c0 d 0 k 3 + 1) 0 k 3 = _
        rw [up3_s, hbe]; exact nI_1 n
      · unfold pmA
        rw [if_pos rfl, HP]
        show upP pm2 k j (pm k n) k r = _
        unfold upP
        by_cases c1 : r = j
        · rw [if_pos ⟨rfl, c1⟩, if_neg (by omega), if_pos c1]
        · rw [if_neg (fun e => c1 e.2), if_neg c1, hv r hr]
          by_cases c2 : r < j
          · rw [if_neg (by omega), if_pos c2]
          · rw [if_neg c2]
            by_cases c3 : r ≤ n
            · rw [if_pos (by omega), if_pos c3]
            · rw [if_neg (by omega), if_neg c3]
      · show up3 (beginI I (8 * k + pm k n) a b c0 d) 0 k 3 _ K i q = I K i q
        rw [up3_n (fun e => hq (Or.inl ⟨by omega, e.2.1⟩)), begin_out (fun e => hq (Or.inr ⟨e.1, by have := R.p8 (r := n) (by omega); omega⟩))]
      · show upP pm2 k j (pm k n) k2 r = _
        unfold upP
        rw [if_neg (fun e => hk2 e.1)]
        exact ho k2 r hk2
    · have n_90 := nx_lef (a := j) (b := 0) ej rfl (by omega) (by omega) c_90
      have e5 : pm2 k (j - 1) = pm k (j - 1) := by rw [hv _ (by omega), if_neg (by omega)]
      have hi7 : 8 * k + pm2 k (j - 1) < 88 := by rw [e5]; exact inL7 hk (R.p8 (by omega))
      have ea : I 7 (8 * k + pm2 k (j - 1)) 0 = σ (16 + 11 * (j - 1)) := by rw [e5]; exact R.lc (f := 0) (by omega) (by decide)
      refine g_aload_n F 0 dX1_addLoco_93 rfl rfl ?_
      refine gf_0_0 F hk mFL_X1_11 dX1_addLoco_94 ?_
      refine g_iload F 6 dX1_addLoco_97 rfl ?_
      refine g_iconst (v := 1) F dX1_addLoco_99 (by decide) ?_
      refine g_isub F dX1_addLoco_100 ?_
      refine ga_1 (j := (j - 1)) F hk (nx_sub ej rfl (by omega)) (by omega) dX1_addLoco_101 ?_
      refine gf_7_0 F hi7 mFL_X1_76 dX1_addLoco_102 ?_
      refine g_iload_n F 1 dX1_addLoco_105 rfl rfl ?_
      refine g_icmp_le F 131 dX1_addLoco_106 (by decide) (fun c_106 => ?_) (fun c_106 => ?_)
      · have HP : lposS σ a n = j := by
          obtain ⟨i, rfl⟩ : ∃ i, j = i + 1 := ⟨j - 1, by omega⟩
          rw [hip]
          show (if a < σ (16 + 11 * i) then lposS σ a i else i + 1) = i + 1
          rw [Nat.add_sub_cancel] at ea
          have c66 := c_106
          rw [Nat.add_sub_cancel, ea] at c66
          exact if_neg (Int32.not_lt.mpr c66)
        have hin : 8 * k + pm k n < 88 := inL7 hk (R.p8 (by omega))
        have hbe : ∀ (x1 x2 x3 x4 : Int32), beginI I (8 * k + pm k n) x1 x2 x3 x4 0 k 3 = nI n := fun _ _ _ _ => (begin_out (by omega)).trans R.cnt
        refine g_aload_n F 0 dX1_addLoco_131 rfl rfl ?_
        refine gf_0_0 F hk mFL_X1_11 dX1_addLoco_132 ?_
        refine g_iload F 6 dX1_addLoco_135 rfl ?_
        refine g_aload F 5 dX1_addLoco_137 rfl ?_
        refine gs_1 (j := j) F hk (R.p8 (by omega)) ej (by omega) dX1_addLoco_139 ?_
        refine g_aload F 5 dX1_addLoco_140 rfl ?_
        refine g_iload_n F 1 dX1_addLoco_142 rfl rfl ?_
        refine g_iload_n F 2 dX1_addLoco_143 rfl rfl ?_
        refine g_iload_n F 3 dX1_addLoco_144 rfl rfl ?_
        refine g_iload F 4 dX1_addLoco_145 rfl ?_
        refine g_callVv (na := 4) F 7 _ (c_X2_begin hj hin) hin rfl rfl lk_X1_79 rfl rfl (by decide +kernel) ⟨rfl, rfl, Nat.le_of_ble_eq_true rfl, Nat.le_of_ble_eq_true rfl, Nat.le_of_ble_eq_true rfl, Nat.le_of_ble_eq_true rfl, Nat.le_of_ble_eq_true rfl⟩ dX1_addLoco_147 (fun u_147 h_147 => ?_)
        subst h_147
        try dsimp only
        refine g_aload_n F 0 dX1_addLoco_150 rfl rfl ?_
        refine g_dup F dX1_addLoco_151 rfl ?_
        refine gf_0_3 F hk mFL_X1_29 dX1_addLoco_152 ?_
        refine g_iconst (v := 1) F dX1_addLoco_155 (by decide) ?_
        refine g_iadd F dX1_addLoco_156 ?_
        refine gp_0_3 F hk mFL_X1_29 dX1_addLoco_157 ?_
        refine g_aload_n F 0 dX1_addLoco_160 rfl rfl ?_
        refine gf_0_3 F hk mFL_X1_29 dX1_addLoco_161 ?_
        refine g_iret F hr hlk rfl dX1_addLoco_164 ?_
        refine Or.inr (Or.inr (Or.inr ⟨hb, hrk, hlt, ?_, R.add (I' := up3 (beginI I (8 * k + pm k n) a b c0 d) 0 k 3 (beginI I (8 * k + pm k n) a b c0 d 0 k 3 + 1)) hlt (fun r hr => ?_) (fun K i q hq => up3_n (fun e => hq ⟨e.1, e.2.1, e.2.2⟩)) (by rw [up3_s, hbe]; exact nI_1 n), ⟨fun K i q hq => ?_, fun k2 r hk2 => ?_⟩⟩))
        · show up3 (beginI I (8 * k + pm k n) a b c0 d) 0 k 3 (beginI I (8 * k + pm k n) a b c0 d 0 k 3 + 1) 0 k 3 = _
          rw [up3_s, hbe]; exact nI_1 n
        · unfold pmA
          rw [if_pos rfl, HP]
          show upP pm2 k j (pm k n) k r = _
          unfold upP
          by_cases c1 : r = j
          · rw [if_pos ⟨rfl, c1⟩, if_neg (by omega), if_pos c1]
          · rw [if_neg (fun e => c1 e.2), if_neg c1, hv r hr]
            by_cases c2 : r < j
            · rw [if_neg (by omega), if_pos c2]
            · rw [if_neg c2]
              by_cases c3 : r ≤ n
              · rw [if_pos (by omega), if_pos c3]
              · rw [if_neg (by omega), if_neg c3]
        · show up3 (beginI I (8 * k + pm k n) a b c0 d) 0 k 3 _ K i q = I K i q
          rw [up3_n (fun e => hq (Or.inl ⟨by omega, e.2.1⟩)), begin_out (fun e => hq (Or.inr ⟨e.1, by have := R.p8 (r := n) (by omega); omega⟩))]
        · show upP pm2 k j (pm k n) k2 r = _
          unfold upP
          rw [if_neg (fun e => hk2 e.1)]
          exact ho k2 r hk2
      · refine g_aload_n F 0 dX1_addLoco_109 rfl rfl ?_
        refine gf_0_0 F hk mFL_X1_11 dX1_addLoco_110 ?_
        refine g_iload F 6 dX1_addLoco_113 rfl ?_
        refine g_aload_n F 0 dX1_addLoco_115 rfl rfl ?_
        refine gf_0_0 F hk mFL_X1_11 dX1_addLoco_116 ?_
        refine g_iload F 6 dX1_addLoco_119 rfl ?_
        refine g_iconst (v := 1) F dX1_addLoco_121 (by decide) ?_
        refine g_isub F dX1_addLoco_122 ?_
        refine ga_1 (j := (j - 1)) F hk (nx_sub ej rfl (by omega)) (by omega) dX1_addLoco_123 ?_
        refine gs_1 (j := j) F hk (show pm2 k (j - 1) < 8 by rw [e5]; exact R.p8 (by omega)) ej (by omega) dX1_addLoco_124 ?_
        refine g_iincC (q := -1) (L' := [(6, _), (0, _), (1, _), (2, _), (3, _), (4, _), (5, _)]) F 6 dX1_addLoco_125 (by decide) rfl (by decide) rfl ?_
        refine g_goto F 88 dX1_addLoco_128 (by decide) ?_
        refine g_sub [1, 2, 3, 4, 5, 6, 0] rfl ?_
        refine ih (j - 1) (by omega) hb hrk hlt _ _ (nx_dec ej n_90) (by omega) ?_ (fun r hr => ?_) (fun k2 r hk2 => ?_)
        · rw [hip]
          obtain ⟨i, rfl⟩ : ∃ i, j = i + 1 := ⟨j - 1, by omega⟩
          rw [Nat.add_sub_cancel] at ea ⊢
          have c66 := c_106
          rw [Nat.add_sub_cancel, ea] at c66
          show (if a < σ (16 + 11 * i) then lposS σ a i else i + 1) = _
          exact if_pos (Int32.not_le.mp c66)
        · unfold upP
          by_cases c1 : r = j
          · rw [if_pos ⟨rfl, c1⟩, if_pos (by omega), e5, c1]
          · rw [if_neg (fun e => c1 e.2), hv r hr]
            by_cases c2 : j < r ∧ r ≤ n
            · rw [if_pos c2, if_pos (by omega)]
            · rw [if_neg c2, if_neg (by omega)]
        · unfold upP
          rw [if_neg (fun e => hk2 e.1)]
          exact ho k2 r hk2
  refine g_iload_n F 1 dX1_addLoco_0 rfl rfl ?_
  refine g_iconst (v := 1) F dX1_addLoco_1 (by decide) ?_
  refine g_bipush (v := 99) F dX1_addLoco_2 (by decide) ?_
  refine g_callIn (na := 3) F (c_X5_within hj) (gw mCO_yX5_within) F.2.2.1.1 mST_yX5_within mIN_RX5 rfl rfl (by decide +kernel) ⟨rfl, rfl, Nat.le_of_ble_eq_true rfl, Nat.le_of_ble_eq_true rfl, Nat.le_of_ble_eq_true rfl, Nat.le_of_ble_eq_true rfl, Nat.le_of_ble_eq_true rfl⟩ dX1_addLoco_4 (fun r_4 u_4 h_4 => ?_)
  obtain ⟨rfl, rfl⟩ := h_4
  try dsimp only
  refine g_if_eq F 41 dX1_addLoco_7 (by decide) (fun c_7 => ?_) (fun c_7 => ?_)
  · have N1 := bz_0.mp c_7
    refine g_bipush (v := -2) F dX1_addLoco_41 (by decide) ?_
    refine g_iret F hr hlk rfl dX1_addLoco_43 ?_
    refine Or.inl ⟨fun w => ?_, rfl, rfl⟩; first | exact N1 w.1 | exact N2 w.2.1 | exact N3 w.2.2.1 | exact N4 w.2.2.2
  · have P1 := bz_n.mp c_7
    refine g_iload_n F 2 dX1_addLoco_10 rfl rfl ?_
    refine g_iconst (v := 1) F dX1_addLoco_11 (by decide) ?_
    refine g_bipush (v := 20) F dX1_addLoco_12 (by decide) ?_
    refine g_callIn (na := 3) F (c_X5_within hj) (gw mCO_yX5_within) F.2.2.1.1 mST_yX5_within mIN_RX5 rfl rfl (by decide +kernel) ⟨rfl, rfl, Nat.le_of_ble_eq_true rfl, Nat.le_of_ble_eq_true rfl, Nat.le_of_ble_eq_true rfl, Nat.le_of_ble_eq_true rfl, Nat.le_of_ble_eq_true rfl⟩ dX1_addLoco_14 (fun r_14 u_14 h_14 => ?_)
    obtain ⟨rfl, rfl⟩ := h_14
    try dsimp only
    refine g_if_eq F 41 dX1_addLoco_17 (by decide) (fun c_17 => ?_) (fun c_17 => ?_)
    · have N2 := bz_0.mp c_17
      refine g_bipush (v := -2) F dX1_addLoco_41 (by decide) ?_
      refine g_iret F hr hlk rfl dX1_addLoco_43 ?_
      refine Or.inl ⟨fun w => ?_, rfl, rfl⟩; first | exact N1 w.1 | exact N2 w.2.1 | exact N3 w.2.2.1 | exact N4 w.2.2.2
    · have P2 := bz_n.mp c_17
      refine g_iload_n F 3 dX1_addLoco_20 rfl rfl ?_
      refine g_iconst (v := 0) F dX1_addLoco_21 (by decide) ?_
      refine g_iconst (v := 2) F dX1_addLoco_22 (by decide) ?_
      refine g_callIn (na := 3) F (c_X5_within hj) (gw mCO_yX5_within) F.2.2.1.1 mST_yX5_within mIN_RX5 rfl rfl (by decide +kernel) ⟨rfl, rfl, Nat.le_of_ble_eq_true rfl, Nat.le_of_ble_eq_true rfl, Nat.le_of_ble_eq_true rfl, Nat.le_of_ble_eq_true rfl, Nat.le_of_ble_eq_true rfl⟩ dX1_addLoco_23 (fun r_23 u_23 h_23 => ?_)
      obtain ⟨rfl, rfl⟩ := h_23
      try dsimp only
      refine g_if_eq F 41 dX1_addLoco_26 (by decide) (fun c_26 => ?_) (fun c_26 => ?_)
      · have N3 := bz_0.mp c_26
        refine g_bipush (v := -2) F dX1_addLoco_41 (by decide) ?_
        refine g_iret F hr hlk rfl dX1_addLoco_43 ?_
        refine Or.inl ⟨fun w => ?_, rfl, rfl⟩; first | exact N1 w.1 | exact N2 w.2.1 | exact N3 w.2.2.1 | exact N4 w.2.2.2
      · have P3 := bz_n.mp c_26
        refine g_iload F 4 dX1_addLoco_29 rfl ?_
        refine g_iconst (v := 0) F dX1_addLoco_31 (by decide) ?_
        refine g_sipush (v := 799) F dX1_addLoco_32 (by decide) ?_
        refine g_callIn (na := 3) F (c_X5_within hj) (gw mCO_yX5_within) F.2.2.1.1 mST_yX5_within mIN_RX5 rfl rfl (by decide +kernel) ⟨rfl, rfl, Nat.le_of_ble_eq_true rfl, Nat.le_of_ble_eq_true rfl, Nat.le_of_ble_eq_true rfl, Nat.le_of_ble_eq_true rfl, Nat.le_of_ble_eq_true rfl⟩ dX1_addLoco_35 (fun r_35 u_35 h_35 => ?_)
        obtain ⟨rfl, rfl⟩ := h_35
        try dsimp only
        refine g_if_ne F 44 dX1_addLoco_38 (by decide) (fun c_38 => ?_) (fun c_38 => ?_)
        · have P4 := bz_n.mp c_38
          refine g_aload_n F 0 dX1_addLoco_44 rfl rfl ?_
          refine g_iload_n F 1 dX1_addLoco_45 rfl rfl ?_
          refine g_callIv (na := 1) F 0 _ (c_X1_rankOf hj hk R) hk rfl rfl lk_X1_68 rfl rfl (by decide +kernel) ⟨rfl, rfl, Nat.le_of_ble_eq_true rfl, Nat.le_of_ble_eq_true rfl, Nat.le_of_ble_eq_true rfl, Nat.le_of_ble_eq_true rfl, Nat.le_of_ble_eq_true rfl⟩ dX1_addLoco_46 (fun r_46 u_46 h_46 => ?_)
          obtain ⟨rfl, rfl⟩ := h_46
          try dsimp only
          refine g_aload_n F 0 dX1_addLoco_49 rfl rfl ?_
          refine gf_0_3 F hk mFL_X1_29 dX1_addLoco_50 ?_
          refine g_icmp_ge F 59 dX1_addLoco_53 (by decide) (fun c_53 => ?_) (fun c_53 => ?_)
          · have n_53 := nx_get (a := (rkS σ a n)) (b := n) rfl R.cnt (by omega) (by omega) c_53
            refine g_aload_n F 0 dX1_addLoco_59 rfl rfl ?_
            refine gf_0_3 F hk mFL_X1_29 dX1_addLoco_60 ?_
            refine g_bipush (v := 8) F dX1_addLoco_63 (by decide) ?_
            refine g_icmp_lt F 71 dX1_addLoco_65 (by decide) (fun c_65 => ?_) (fun c_65 => ?_)
            · have n_65 := nx_ltt (a := n) (b := 8) R.cnt rfl (by omega) (by omega) c_65
              refine g_aload_n F 0 dX1_addLoco_71 rfl rfl ?_
              refine gf_0_0 F hk mFL_X1_11 dX1_addLoco_72 ?_
              refine g_aload_n F 0 dX1_addLoco_75 rfl rfl ?_
              refine gf_0_3 F hk mFL_X1_29 dX1_addLoco_76 ?_
              refine ga_1 (j := n) F hk R.cnt (by omega) dX1_addLoco_79 ?_
              refine g_astore (L' := [(5, _), (0, _), (1, _), (2, _), (3, _), (4, _)]) F dX1_addLoco_80 (by decide) rfl ?_
              refine g_aload_n F 1 dX1_addLoco_82 rfl rfl ?_
              refine gf_0_3 F hk mFL_X1_29 dX1_addLoco_83 ?_
              refine g_topi (fun x6_86 ex6_86 => ?_)
              refine g_istore (L' := [(6, _), (5, _), (0, _), (1, _), (2, _), (3, _), (4, _)]) F dX1_addLoco_86 (by decide) rfl ?_
              refine g_sub [2, 3, 4, 5, 6, 1, 0] rfl ?_
              exact LOOP n ⟨P1, P2, P3, P4⟩ (by omega) (by omega) _ _ (ex6_86.trans R.cnt) (Nat.le_refl _) rfl (fun r hr => by rw [if_neg (by omega)]) (fun _ _ _ => rfl)
            · have n_65 := nx_ltf (a := n) (b := 8) R.cnt rfl (by omega) (by omega) c_65
              refine g_bipush (v := -4) F dX1_addLoco_68 (by decide) ?_
              refine g_iret F hr hlk rfl dX1_addLoco_70 ?_
              exact Or.inr (Or.inr (Or.inl ⟨⟨P1, P2, P3, P4⟩, by omega, by omega, rfl, rfl⟩))
          · have n_53 := nx_gef (a := (rkS σ a n)) (b := n) rfl R.cnt (by omega) (by omega) c_53
            refine g_bipush (v := -5) F dX1_addLoco_56 (by decide) ?_
            refine g_iret F hr hlk rfl dX1_addLoco_58 ?_
            exact Or.inr (Or.inl ⟨⟨P1, P2, P3, P4⟩, n_53, rfl, rfl⟩)
        · have N4 := bz_0.mp c_38
          refine g_bipush (v := -2) F dX1_addLoco_41 (by decide) ?_
          refine g_iret F hr hlk rfl dX1_addLoco_43 ?_
          refine Or.inl ⟨fun w => ?_, rfl, rfl⟩; first | exact N1 w.1 | exact N2 w.2.1 | exact N3 w.2.2.1 | exact N4 w.2.2.2
set_option maxHeartbeats 4000000 in
set_option maxRecDepth 100000 in
theorem c_X1_removeLoco {l : Launch} {G : Gm} (hj : Aj G) {I : Ii} {pm : Pm} {k : Nat} (hk : k < 11) {n h : Nat} {σ : Sg} (R : Rp n h I pm k σ) {a : Int32} : CI l G yX1_removeLoco (wz yX1_removeLoco cX1_removeLoco 5 (some .int)) (rmL 1) [.ref (G.2.2 0 k), .int a] I pm (fun r u => (¬ rkS σ a n < n ∧ r = -1 ∧ u = (I, pm)) ∨ (rkS σ a n < n ∧ r = nI (n - 1) ∧ Rp (n - 1) h u.1 u.2 k (lifS n (rkS σ a n) σ) ∧ Fr k I pm u.1 u.2)) := by
  refine CI.walk hj (by decide +kernel) (by show _ ≤ 5; exact Nat.le_of_ble_eq_true rfl) ?_
  intro p e s m args below meth c F hr hlk
  have hn8 := R.n8
  obtain ⟨pr, hpr⟩ : ∃ q, q = rkS σ a n := ⟨_, rfl⟩
  have hprl : pr ≤ n := by rw [hpr]; exact rk_le σ a n
  have LOOP : ∀ j, j ≤ n → pr < n → pr < j → ∀ (pm2 : Pm) (xr xj : Int32), xr = nI pr → xj = nI j → (∀ r, r < 8 → pm2 k r = if pr ≤ r ∧ r + 1 < j then pm k (r + 1) else pm k r) → (∀ k2 r, k2 ≠ k → pm2 k2 r = pm k2 r) → GG p l e (rmL 1) s m args below meth c G (AA G) 5 0 0 (MQ below (va_Qi (fun (r : Int32) (u : Ii × Pm) => (¬ rkS σ a n < n ∧ r = -1 ∧ u = (I, pm)) ∨ (rkS σ a n < n ∧ r = nI (n - 1) ∧ Rp (n - 1) h u.1 u.2 k (lifS n (rkS σ a n) σ) ∧ Fr k I pm u.1 u.2)) (fun (u : Ii × Pm) t => Wd G u.1 u.2 t.heap) (AA G)) args s 0 0 (AA G)) I pm2 [(0, .ref (G.2.2 0 k)), (1, .int a), (2, .int xr), (3, .ref (G.2.2 7 (8 * k + pm k pr))), (4, .int xj)] 28 [] := by
    refine dn_ind ?_
    intro j hjl ih hpn hpj pm2 xr xj er ej hv ho
    refine g_iload F 4 dX1_removeLoco_28 rfl ?_
    refine g_aload_n F 0 dX1_removeLoco_30 rfl rfl ?_
    refine gf_0_3 F hk mFL_X1_29 dX1_removeLoco_31 ?_
    refine g_icmp_ge F 59 dX1_removeLoco_34 (by decide) (fun c_34 => ?_) (fun c_34 => ?_)
    · have n_34 := nx_get (a := j) (b := n) ej R.cnt (by omega) (by omega) c_34
      refine g_aload_n F 0 dX1_removeLoco_59 rfl rfl ?_
      refine g_dup F dX1_removeLoco_60 rfl ?_
      refine gf_0_3 F hk mFL_X1_29 dX1_removeLoco_61 ?_
      refine g_iconst (v := 1) F dX1_removeLoco_64 (by decide) ?_
      refine g_isub F dX1_removeLoco_65 ?_
      refine gp_0_3 F hk mFL_X1_29 dX1_removeLoco_66 ?_
      have e74 : up3 I 0 k 3 (I 0 k 3 - 1) 0 k 3 = nI (n - 1) := by rw [up3_s]; exact nx_sub R.cnt (b := 1) rfl (by omega)
      refine g_aload_n F 0 dX1_removeLoco_69 rfl rfl ?_
      refine gf_0_0 F hk mFL_X1_11 dX1_removeLoco_70 ?_
      refine g_aload_n F 0 dX1_removeLoco_73 rfl rfl ?_
      refine gf_0_3 F hk mFL_X1_29 dX1_removeLoco_74 ?_
      refine g_aload_n F 3 dX1_removeLoco_77 rfl rfl ?_
      refine gs_1 (j := (n - 1)) F hk (R.p8 (by omega)) e74 (by omega) dX1_removeLoco_78 ?_
      refine g_aload_n F 0 dX1_removeLoco_79 rfl rfl ?_
      refine gf_0_3 F hk mFL_X1_29 dX1_removeLoco_80 ?_
      refine g_iret F hr hlk rfl dX1_removeLoco_83 ?_
      have hjn : j = n := by omega
      subst hjn
      refine Or.inr ⟨by omega, e74, ?_, ⟨fun K i q hq => ?_, fun k2 r hk2 => ?_⟩⟩
      · rw [← hpr]
        refine R.lift (by omega) (fun r hr => ?_) (fun K i q hq => up3_n (fun e => hq ⟨e.1, e.2.1, e.2.2⟩)) e74
        unfold pmL
        rw [if_pos rfl]
        show upP pm2 k (j - 1) (pm k pr) k r = _
        unfold upP
        by_cases c1 : r = j - 1
        · rw [if_pos ⟨rfl, c1⟩, if_neg (by omega), if_neg (by omega), if_pos (by omega)]
        · rw [if_neg (fun e => c1 e.2), hv r hr]
          by_cases c2 : r < pr
          · rw [if_neg (by omega), if_pos c2]
          · rw [if_neg c2]
            by_cases c3 : r + 1 < j
            · rw [if_pos (by omega), if_pos c3]
            · rw [if_neg (by omega), if_neg c3, if_neg (by omega)]
      · show up3 I 0 k 3 _ K i q = I K i q
        rw [up3_n (fun e => hq (Or.inl ⟨by omega, e.2.1⟩))]
      · show upP pm2 k (j - 1) (pm k pr) k2 r = _
        unfold upP
        rw [if_neg (fun e => hk2 e.1)]
        exact ho k2 r hk2
    · have n_34 := nx_gef (a := j) (b := n) ej R.cnt (by omega) (by omega) c_34
      refine g_aload_n F 0 dX1_removeLoco_37 rfl rfl ?_
      refine gf_0_0 F hk mFL_X1_11 dX1_removeLoco_38 ?_
      refine g_iload F 4 dX1_removeLoco_41 rfl ?_
      refine g_iconst (v := 1) F dX1_removeLoco_43 (by decide) ?_
      refine g_isub F dX1_removeLoco_44 ?_
      refine g_aload_n F 0 dX1_removeLoco_45 rfl rfl ?_
      refine gf_0_0 F hk mFL_X1_11 dX1_removeLoco_46 ?_
      refine g_iload F 4 dX1_removeLoco_49 rfl ?_
      refine ga_1 (j := j) F hk ej (by omega) dX1_removeLoco_51 ?_
      refine gs_1 (j := (j - 1)) F hk (show pm2 k j < 8 by rw [hv j (by omega), if_neg (by omega)]; exact R.p8 (by omega)) (nx_sub ej rfl (by omega)) (by omega) dX1_removeLoco_52 ?_
      refine g_iincC (q := 1) (L' := [(4, _), (0, _), (1, _), (2, _), (3, _)]) F 4 dX1_removeLoco_53 (by decide) rfl (by decide) rfl ?_
      refine g_goto F 28 dX1_removeLoco_56 (by decide) ?_
      refine g_sub [1, 2, 3, 4, 0] rfl ?_
      refine ih (by omega) hpn (by omega) _ _ _ er (nx_add ej rfl) (fun r hr => ?_) (fun k2 r hk2 => ?_)
      · unfold upP
        by_cases c1 : r = j - 1
        · rw [if_pos ⟨rfl, c1⟩, if_pos (by omega), hv j (by omega), if_neg (by omega), c1, show j - 1 + 1 = j by omega]
        · rw [if_neg (fun e => c1 e.2), hv r hr]
          by_cases c2 : pr ≤ r ∧ r + 1 < j
          · rw [if_pos c2, if_pos (by omega)]
          · rw [if_neg c2, if_neg (by omega)]
      · unfold upP
        rw [if_neg (fun e => hk2 e.1)]
        exact ho k2 r hk2
  refine g_aload_n F 0 dX1_removeLoco_0 rfl rfl ?_
  refine g_iload_n F 1 dX1_removeLoco_1 rfl rfl ?_
  refine g_callIv (na := 1) F 0 _ (c_X1_rankOf hj hk R) hk rfl rfl lk_X1_68 rfl rfl (by decide +kernel) ⟨rfl, rfl, Nat.le_of_ble_eq_true rfl, Nat.le_of_ble_eq_true rfl, Nat.le_of_ble_eq_true rfl, Nat.le_of_ble_eq_true rfl, Nat.le_of_ble_eq_true rfl⟩ dX1_removeLoco_2 (fun r_2 u_2 h_2 => ?_)
  obtain ⟨rfl, rfl⟩ := h_2
  try dsimp only
  refine g_topi (fun x2_5 ex2_5 => ?_)
  refine g_istore_n (L' := [(2, _), (0, _), (1, _)]) F dX1_removeLoco_5 rfl (by decide) rfl ?_
  refine g_iload_n F 0 dX1_removeLoco_6 rfl rfl ?_
  refine g_aload_n F 1 dX1_removeLoco_7 rfl rfl ?_
  refine gf_0_3 F hk mFL_X1_29 dX1_removeLoco_8 ?_
  refine g_icmp_lt F 16 dX1_removeLoco_11 (by decide) (fun c_11 => ?_) (fun c_11 => ?_)
  · have n_11 := nx_ltt (a := pr) (b := n) (ex2_5.trans (by rw [hpr])) R.cnt (by omega) (by omega) c_11
    refine g_aload_n F 1 dX1_removeLoco_16 rfl rfl ?_
    refine gf_0_0 F hk mFL_X1_11 dX1_removeLoco_17 ?_
    refine g_iload_n F 0 dX1_removeLoco_20 rfl rfl ?_
    refine ga_1 (j := pr) F hk (ex2_5.trans (by rw [hpr])) (by omega) dX1_removeLoco_21 ?_
    refine g_astore_n (L' := [(3, _), (2, _), (0, _), (1, _)]) F dX1_removeLoco_22 rfl (by decide) rfl ?_
    refine g_iload_n F 1 dX1_removeLoco_23 rfl rfl ?_
    refine g_iconst (v := 1) F dX1_removeLoco_24 (by decide) ?_
    refine g_iadd F dX1_removeLoco_25 ?_
    refine g_topi (fun x4_26 ex4_26 => ?_)
    refine g_istore (L' := [(4, _), (3, _), (2, _), (0, _), (1, _)]) F dX1_removeLoco_26 (by decide) rfl ?_
    refine g_sub [3, 4, 2, 1, 0] rfl ?_
    exact LOOP (pr + 1) (by omega) (by omega) (by omega) _ _ _ (ex2_5.trans (by rw [hpr])) (ex4_26.trans (nx_add (ex2_5.trans (by rw [hpr])) rfl)) (fun r hr => by rw [if_neg (by omega)]) (fun _ _ _ => rfl)
  · have n_11 := nx_ltf (a := pr) (b := n) (ex2_5.trans (by rw [hpr])) R.cnt (by omega) (by omega) c_11
    refine g_iconst (v := -1) F dX1_removeLoco_14 (by decide) ?_
    refine g_iret F hr hlk rfl dX1_removeLoco_15 ?_
    exact Or.inl ⟨by omega, rfl, rfl⟩
end
