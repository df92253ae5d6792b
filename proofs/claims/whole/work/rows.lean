section
-- ===== PART A: goes FIRST, ahead of the names: the tables' words, and 'selects' of the private methods out of them =====
/-- a private method of a class that the tables say can be made, by its rows of tables_1 -/
def lw_okq (q : MethodName × Nat) : Prop := (q.1.cls ≠ "java/lang/invoke/MethodHandle" ∧ q.1.cls ≠ "java/lang/invoke/VarHandle") ∧ Cond.instantiable q.1.cls q.2 ∈ tables_1 ∧ Cond.privateMethod q.1 ∈ tables_1 ∧ Cond.instanceMethod q.1 ∈ tables_1
theorem lw_p0 : lw_okq (⟨"LocoFrames$Layout", "rankOf", "(I)I"⟩, 10) := ⟨⟨by decide +kernel, by decide +kernel⟩, List.mem_of_getElem? (i := 19) (by decide +kernel), List.mem_of_getElem? (i := 233) (by decide +kernel), List.mem_of_getElem? (i := 234) (by decide +kernel)⟩
theorem lw_p1 : lw_okq (⟨"LocoFrames$Station", "setRow", "(IIII)V"⟩, 4) := ⟨⟨by decide +kernel, by decide +kernel⟩, List.mem_of_getElem? (i := 27) (by decide +kernel), List.mem_of_getElem? (i := 270) (by decide +kernel), List.mem_of_getElem? (i := 271) (by decide +kernel)⟩
theorem lw_p2 : lw_okq (⟨"LocoFrames$Layout", "isShorted", "(I)Z"⟩, 10) := ⟨⟨by decide +kernel, by decide +kernel⟩, List.mem_of_getElem? (i := 19) (by decide +kernel), List.mem_of_getElem? (i := 286) (by decide +kernel), List.mem_of_getElem? (i := 287) (by decide +kernel)⟩
theorem lw_p3 : lw_okq (⟨"LocoFrames$Layout", "sendFirst", "()I"⟩, 10) := ⟨⟨by decide +kernel, by decide +kernel⟩, List.mem_of_getElem? (i := 19) (by decide +kernel), List.mem_of_getElem? (i := 319) (by decide +kernel), List.mem_of_getElem? (i := 320) (by decide +kernel)⟩
theorem lw_p4 : lw_okq (⟨"LocoFrames$Pad", "here", "()I"⟩, 6) := ⟨⟨by decide +kernel, by decide +kernel⟩, List.mem_of_getElem? (i := 153) (by decide +kernel), List.mem_of_getElem? (i := 483) (by decide +kernel), List.mem_of_getElem? (i := 484) (by decide +kernel)⟩
theorem lw_p5 : lw_okq (⟨"LocoFrames$Pad", "readsNumber", "()Z"⟩, 6) := ⟨⟨by decide +kernel, by decide +kernel⟩, List.mem_of_getElem? (i := 153) (by decide +kernel), List.mem_of_getElem? (i := 487) (by decide +kernel), List.mem_of_getElem? (i := 488) (by decide +kernel)⟩
theorem lw_p6 : lw_okq (⟨"LocoFrames$Pad", "hold", "(I)V"⟩, 6) := ⟨⟨by decide +kernel, by decide +kernel⟩, List.mem_of_getElem? (i := 153) (by decide +kernel), List.mem_of_getElem? (i := 491) (by decide +kernel), List.mem_of_getElem? (i := 492) (by decide +kernel)⟩
theorem lw_p7 : lw_okq (⟨"LocoFrames$Pad", "readsDigit", "(I)Z"⟩, 6) := ⟨⟨by decide +kernel, by decide +kernel⟩, List.mem_of_getElem? (i := 153) (by decide +kernel), List.mem_of_getElem? (i := 499) (by decide +kernel), List.mem_of_getElem? (i := 500) (by decide +kernel)⟩
theorem lw_p8 : lw_okq (⟨"LocoFrames", "carriesOne", "()Z"⟩, 6) := ⟨⟨by decide +kernel, by decide +kernel⟩, List.mem_of_getElem? (i := 11) (by decide +kernel), List.mem_of_getElem? (i := 509) (by decide +kernel), List.mem_of_getElem? (i := 510) (by decide +kernel)⟩
theorem lw_p9 : lw_okq (⟨"LocoFramesModel", "locoOf", "(I)I"⟩, 13) := ⟨⟨by decide +kernel, by decide +kernel⟩, List.mem_of_getElem? (i := 530) (by decide +kernel), List.mem_of_getElem? (i := 583) (by decide +kernel), List.mem_of_getElem? (i := 584) (by decide +kernel)⟩
theorem lw_p10 : lw_okq (⟨"LocoFramesModel", "get", "(II)I"⟩, 13) := ⟨⟨by decide +kernel, by decide +kernel⟩, List.mem_of_getElem? (i := 530) (by decide +kernel), List.mem_of_getElem? (i := 587) (by decide +kernel), List.mem_of_getElem? (i := 588) (by decide +kernel)⟩
theorem lw_p11 : lw_okq (⟨"LocoFramesModel", "records", "()V"⟩, 13) := ⟨⟨by decide +kernel, by decide +kernel⟩, List.mem_of_getElem? (i := 530) (by decide +kernel), List.mem_of_getElem? (i := 591) (by decide +kernel), List.mem_of_getElem? (i := 592) (by decide +kernel)⟩
theorem lw_p12 : lw_okq (⟨"LocoFramesModel", "lay", "(III)V"⟩, 13) := ⟨⟨by decide +kernel, by decide +kernel⟩, List.mem_of_getElem? (i := 530) (by decide +kernel), List.mem_of_getElem? (i := 595) (by decide +kernel), List.mem_of_getElem? (i := 596) (by decide +kernel)⟩
theorem lw_p13 : lw_okq (⟨"LocoFramesModel", "refusesOrder", "(III)I"⟩, 13) := ⟨⟨by decide +kernel, by decide +kernel⟩, List.mem_of_getElem? (i := 530) (by decide +kernel), List.mem_of_getElem? (i := 611) (by decide +kernel), List.mem_of_getElem? (i := 612) (by decide +kernel)⟩
theorem lw_p14 : lw_okq (⟨"LocoFramesModel", "laysOrder", "(III)I"⟩, 13) := ⟨⟨by decide +kernel, by decide +kernel⟩, List.mem_of_getElem? (i := 530) (by decide +kernel), List.mem_of_getElem? (i := 615) (by decide +kernel), List.mem_of_getElem? (i := 616) (by decide +kernel)⟩
theorem lw_p15 : lw_okq (⟨"LocoFramesModel", "comes", "(III)I"⟩, 13) := ⟨⟨by decide +kernel, by decide +kernel⟩, List.mem_of_getElem? (i := 530) (by decide +kernel), List.mem_of_getElem? (i := 626) (by decide +kernel), List.mem_of_getElem? (i := 627) (by decide +kernel)⟩
def lw_privs_1 : List (MethodName × Nat) := [(⟨"LocoFrames$Layout", "rankOf", "(I)I"⟩, 10), (⟨"LocoFrames$Station", "setRow", "(IIII)V"⟩, 4), (⟨"LocoFrames$Layout", "isShorted", "(I)Z"⟩, 10), (⟨"LocoFrames$Layout", "sendFirst", "()I"⟩, 10), (⟨"LocoFrames$Pad", "here", "()I"⟩, 6), (⟨"LocoFrames$Pad", "readsNumber", "()Z"⟩, 6), (⟨"LocoFrames$Pad", "hold", "(I)V"⟩, 6), (⟨"LocoFrames$Pad", "readsDigit", "(I)Z"⟩, 6), (⟨"LocoFrames", "carriesOne", "()Z"⟩, 6), (⟨"LocoFramesModel", "locoOf", "(I)I"⟩, 13), (⟨"LocoFramesModel", "get", "(II)I"⟩, 13), (⟨"LocoFramesModel", "records", "()V"⟩, 13), (⟨"LocoFramesModel", "lay", "(III)V"⟩, 13), (⟨"LocoFramesModel", "refusesOrder", "(III)I"⟩, 13), (⟨"LocoFramesModel", "laysOrder", "(III)I"⟩, 13), (⟨"LocoFramesModel", "comes", "(III)I"⟩, 13)]
theorem lw_r1 : ∀ q ∈ lw_privs_1, lw_okq q := List.forall_mem_cons.mpr ⟨lw_p0, List.forall_mem_cons.mpr ⟨lw_p1, List.forall_mem_cons.mpr ⟨lw_p2, List.forall_mem_cons.mpr ⟨lw_p3, List.forall_mem_cons.mpr ⟨lw_p4, List.forall_mem_cons.mpr ⟨lw_p5, List.forall_mem_cons.mpr ⟨lw_p6, List.forall_mem_cons.mpr ⟨lw_p7, List.forall_mem_cons.mpr ⟨lw_p8, List.forall_mem_cons.mpr ⟨lw_p9, List.forall_mem_cons.mpr ⟨lw_p10, List.forall_mem_cons.mpr ⟨lw_p11, List.forall_mem_cons.mpr ⟨lw_p12, List.forall_mem_cons.mpr ⟨lw_p13, List.forall_mem_cons.mpr ⟨lw_p14, List.forall_mem_cons.mpr ⟨lw_p15, fun _ h => absurd h List.not_mem_nil⟩⟩⟩⟩⟩⟩⟩⟩⟩⟩⟩⟩⟩⟩⟩⟩
theorem lw_p16 : lw_okq (⟨"LocoFramesModel", "isShort", "(I)Z"⟩, 13) := ⟨⟨by decide +kernel, by decide +kernel⟩, List.mem_of_getElem? (i := 530) (by decide +kernel), List.mem_of_getElem? (i := 630) (by decide +kernel), List.mem_of_getElem? (i := 631) (by decide +kernel)⟩
theorem lw_p17 : lw_okq (⟨"LocoFramesModel", "blockOf", "(I)I"⟩, 13) := ⟨⟨by decide +kernel, by decide +kernel⟩, List.mem_of_getElem? (i := 530) (by decide +kernel), List.mem_of_getElem? (i := 634) (by decide +kernel), List.mem_of_getElem? (i := 635) (by decide +kernel)⟩
theorem lw_p18 : lw_okq (⟨"LocoFramesModel", "hears", "(II)V"⟩, 13) := ⟨⟨by decide +kernel, by decide +kernel⟩, List.mem_of_getElem? (i := 530) (by decide +kernel), List.mem_of_getElem? (i := 638) (by decide +kernel), List.mem_of_getElem? (i := 639) (by decide +kernel)⟩
theorem lw_p19 : lw_okq (⟨"LocoFramesModel", "refusesPass", "(I)I"⟩, 13) := ⟨⟨by decide +kernel, by decide +kernel⟩, List.mem_of_getElem? (i := 530) (by decide +kernel), List.mem_of_getElem? (i := 653) (by decide +kernel), List.mem_of_getElem? (i := 654) (by decide +kernel)⟩
theorem lw_p20 : lw_okq (⟨"LocoFramesModel", "ticks", "(I)I"⟩, 13) := ⟨⟨by decide +kernel, by decide +kernel⟩, List.mem_of_getElem? (i := 530) (by decide +kernel), List.mem_of_getElem? (i := 658) (by decide +kernel), List.mem_of_getElem? (i := 659) (by decide +kernel)⟩
theorem lw_p21 : lw_okq (⟨"LocoFramesModel", "tick", "()I"⟩, 13) := ⟨⟨by decide +kernel, by decide +kernel⟩, List.mem_of_getElem? (i := 530) (by decide +kernel), List.mem_of_getElem? (i := 662) (by decide +kernel), List.mem_of_getElem? (i := 663) (by decide +kernel)⟩
theorem lw_p22 : lw_okq (⟨"LocoFramesModel", "sends", "()I"⟩, 13) := ⟨⟨by decide +kernel, by decide +kernel⟩, List.mem_of_getElem? (i := 530) (by decide +kernel), List.mem_of_getElem? (i := 666) (by decide +kernel), List.mem_of_getElem? (i := 667) (by decide +kernel)⟩
theorem lw_p23 : lw_okq (⟨"LocoFramesModel", "speeds", "(I)V"⟩, 13) := ⟨⟨by decide +kernel, by decide +kernel⟩, List.mem_of_getElem? (i := 530) (by decide +kernel), List.mem_of_getElem? (i := 670) (by decide +kernel), List.mem_of_getElem? (i := 671) (by decide +kernel)⟩
theorem lw_p24 : lw_okq (⟨"LocoFramesModel", "due", "(I)I"⟩, 13) := ⟨⟨by decide +kernel, by decide +kernel⟩, List.mem_of_getElem? (i := 530) (by decide +kernel), List.mem_of_getElem? (i := 674) (by decide +kernel), List.mem_of_getElem? (i := 675) (by decide +kernel)⟩
theorem lw_p25 : lw_okq (⟨"LocoFramesModel", "goes", "(I)V"⟩, 13) := ⟨⟨by decide +kernel, by decide +kernel⟩, List.mem_of_getElem? (i := 530) (by decide +kernel), List.mem_of_getElem? (i := 681) (by decide +kernel), List.mem_of_getElem? (i := 682) (by decide +kernel)⟩
theorem lw_p26 : lw_okq (⟨"LocoFramesModel", "locosIn", "(I)I"⟩, 13) := ⟨⟨by decide +kernel, by decide +kernel⟩, List.mem_of_getElem? (i := 530) (by decide +kernel), List.mem_of_getElem? (i := 701) (by decide +kernel), List.mem_of_getElem? (i := 702) (by decide +kernel)⟩
theorem lw_p27 : lw_okq (⟨"LocoFramesModel", "overBlocks", "(I)I"⟩, 13) := ⟨⟨by decide +kernel, by decide +kernel⟩, List.mem_of_getElem? (i := 530) (by decide +kernel), List.mem_of_getElem? (i := 709) (by decide +kernel), List.mem_of_getElem? (i := 710) (by decide +kernel)⟩
theorem lw_p28 : lw_okq (⟨"LocoFramesModel", "allSpeeds", "()I"⟩, 13) := ⟨⟨by decide +kernel, by decide +kernel⟩, List.mem_of_getElem? (i := 530) (by decide +kernel), List.mem_of_getElem? (i := 713) (by decide +kernel), List.mem_of_getElem? (i := 714) (by decide +kernel)⟩
theorem lw_p29 : lw_okq (⟨"LocoFramesModel", "putAside", "()V"⟩, 13) := ⟨⟨by decide +kernel, by decide +kernel⟩, List.mem_of_getElem? (i := 530) (by decide +kernel), List.mem_of_getElem? (i := 721) (by decide +kernel), List.mem_of_getElem? (i := 722) (by decide +kernel)⟩
theorem lw_p30 : lw_okq (⟨"LocoFramesModel", "takeBack", "()V"⟩, 13) := ⟨⟨by decide +kernel, by decide +kernel⟩, List.mem_of_getElem? (i := 530) (by decide +kernel), List.mem_of_getElem? (i := 725) (by decide +kernel), List.mem_of_getElem? (i := 726) (by decide +kernel)⟩
theorem lw_p31 : lw_okq (⟨"LocoFramesModel", "reads", "()I"⟩, 13) := ⟨⟨by decide +kernel, by decide +kernel⟩, List.mem_of_getElem? (i := 530) (by decide +kernel), List.mem_of_getElem? (i := 754) (by decide +kernel), List.mem_of_getElem? (i := 755) (by decide +kernel)⟩
def lw_privs_2 : List (MethodName × Nat) := [(⟨"LocoFramesModel", "isShort", "(I)Z"⟩, 13), (⟨"LocoFramesModel", "blockOf", "(I)I"⟩, 13), (⟨"LocoFramesModel", "hears", "(II)V"⟩, 13), (⟨"LocoFramesModel", "refusesPass", "(I)I"⟩, 13), (⟨"LocoFramesModel", "ticks", "(I)I"⟩, 13), (⟨"LocoFramesModel", "tick", "()I"⟩, 13), (⟨"LocoFramesModel", "sends", "()I"⟩, 13), (⟨"LocoFramesModel", "speeds", "(I)V"⟩, 13), (⟨"LocoFramesModel", "due", "(I)I"⟩, 13), (⟨"LocoFramesModel", "goes", "(I)V"⟩, 13), (⟨"LocoFramesModel", "locosIn", "(I)I"⟩, 13), (⟨"LocoFramesModel", "overBlocks", "(I)I"⟩, 13), (⟨"LocoFramesModel", "allSpeeds", "()I"⟩, 13), (⟨"LocoFramesModel", "putAside", "()V"⟩, 13), (⟨"LocoFramesModel", "takeBack", "()V"⟩, 13), (⟨"LocoFramesModel", "reads", "()I"⟩, 13)]
theorem lw_r2 : ∀ q ∈ lw_privs_2, lw_okq q := List.forall_mem_cons.mpr ⟨lw_p16, List.forall_mem_cons.mpr ⟨lw_p17, List.forall_mem_cons.mpr ⟨lw_p18, List.forall_mem_cons.mpr ⟨lw_p19, List.forall_mem_cons.mpr ⟨lw_p20, List.forall_mem_cons.mpr ⟨lw_p21, List.forall_mem_cons.mpr ⟨lw_p22, List.forall_mem_cons.mpr ⟨lw_p23, List.forall_mem_cons.mpr ⟨lw_p24, List.forall_mem_cons.mpr ⟨lw_p25, List.forall_mem_cons.mpr ⟨lw_p26, List.forall_mem_cons.mpr ⟨lw_p27, List.forall_mem_cons.mpr ⟨lw_p28, List.forall_mem_cons.mpr ⟨lw_p29, List.forall_mem_cons.mpr ⟨lw_p30, List.forall_mem_cons.mpr ⟨lw_p31, fun _ h => absurd h List.not_mem_nil⟩⟩⟩⟩⟩⟩⟩⟩⟩⟩⟩⟩⟩⟩⟩⟩
theorem lw_p32 : lw_okq (⟨"LocoFramesModel", "readsOrder", "()V"⟩, 13) := ⟨⟨by decide +kernel, by decide +kernel⟩, List.mem_of_getElem? (i := 530) (by decide +kernel), List.mem_of_getElem? (i := 758) (by decide +kernel), List.mem_of_getElem? (i := 759) (by decide +kernel)⟩
theorem lw_p33 : lw_okq (⟨"LocoFramesModel", "sign", "()I"⟩, 13) := ⟨⟨by decide +kernel, by decide +kernel⟩, List.mem_of_getElem? (i := 530) (by decide +kernel), List.mem_of_getElem? (i := 762) (by decide +kernel), List.mem_of_getElem? (i := 763) (by decide +kernel)⟩
theorem lw_p34 : lw_okq (⟨"LocoFramesModel", "digit", "(I)I"⟩, 13) := ⟨⟨by decide +kernel, by decide +kernel⟩, List.mem_of_getElem? (i := 530) (by decide +kernel), List.mem_of_getElem? (i := 766) (by decide +kernel), List.mem_of_getElem? (i := 767) (by decide +kernel)⟩
theorem lw_p35 : lw_okq (⟨"LocoFramesModel", "number", "()I"⟩, 13) := ⟨⟨by decide +kernel, by decide +kernel⟩, List.mem_of_getElem? (i := 530) (by decide +kernel), List.mem_of_getElem? (i := 770) (by decide +kernel), List.mem_of_getElem? (i := 771) (by decide +kernel)⟩
theorem lw_p36 : lw_okq (⟨"LocoFramesModel", "wants", "(I)V"⟩, 13) := ⟨⟨by decide +kernel, by decide +kernel⟩, List.mem_of_getElem? (i := 530) (by decide +kernel), List.mem_of_getElem? (i := 774) (by decide +kernel), List.mem_of_getElem? (i := 775) (by decide +kernel)⟩
theorem lw_p37 : lw_okq (⟨"LocoFramesModel", "refuses", "(I)I"⟩, 13) := ⟨⟨by decide +kernel, by decide +kernel⟩, List.mem_of_getElem? (i := 530) (by decide +kernel), List.mem_of_getElem? (i := 782) (by decide +kernel), List.mem_of_getElem? (i := 783) (by decide +kernel)⟩
theorem lw_p38 : lw_okq (⟨"LocoFramesModel", "does", "(I)V"⟩, 13) := ⟨⟨by decide +kernel, by decide +kernel⟩, List.mem_of_getElem? (i := 530) (by decide +kernel), List.mem_of_getElem? (i := 786) (by decide +kernel), List.mem_of_getElem? (i := 787) (by decide +kernel)⟩
def lw_privs_3 : List (MethodName × Nat) := [(⟨"LocoFramesModel", "readsOrder", "()V"⟩, 13), (⟨"LocoFramesModel", "sign", "()I"⟩, 13), (⟨"LocoFramesModel", "digit", "(I)I"⟩, 13), (⟨"LocoFramesModel", "number", "()I"⟩, 13), (⟨"LocoFramesModel", "wants", "(I)V"⟩, 13), (⟨"LocoFramesModel", "refuses", "(I)I"⟩, 13), (⟨"LocoFramesModel", "does", "(I)V"⟩, 13)]
theorem lw_r3 : ∀ q ∈ lw_privs_3, lw_okq q := List.forall_mem_cons.mpr ⟨lw_p32, List.forall_mem_cons.mpr ⟨lw_p33, List.forall_mem_cons.mpr ⟨lw_p34, List.forall_mem_cons.mpr ⟨lw_p35, List.forall_mem_cons.mpr ⟨lw_p36, List.forall_mem_cons.mpr ⟨lw_p37, List.forall_mem_cons.mpr ⟨lw_p38, fun _ h => absurd h List.not_mem_nil⟩⟩⟩⟩⟩⟩⟩
def lw_privs : List (MethodName × Nat) := lw_privs_1 ++ (lw_privs_2 ++ (lw_privs_3))
def lw_tbl : List Cond := k2_sels lw_privs ++ tables_1
theorem lw_privs_ok : ∀ q ∈ lw_privs, lw_okq q := by
  show ∀ q ∈ lw_privs_1 ++ (lw_privs_2 ++ (lw_privs_3)), lw_okq q
  exact List.forall_mem_append.mpr ⟨lw_r1, List.forall_mem_append.mpr ⟨lw_r2, lw_r3⟩⟩
/-! ===== BEGIN words of one list among another's, by their places ===== -/
theorem goodIn_r {big : List Cond} (ws : List Cond) (ps : List Nat) (hp : ws = ps.filterMap (fun i => big[i]?)) (h : ws.all goodWord = true) : GoodIn big ws := by
  intro w hw
  have h1 := List.all_eq_true.mp h w hw
  rw [hp] at hw
  obtain ⟨i, -, hi⟩ := List.mem_filterMap.mp hw
  have hm : w ∈ big := by first | exact List.mem_of_getElem? hi | exact List.getElem?_mem hi
  exact ⟨hm, good_of_word h1⟩
theorem goodIn_app {big a b : List Cond} (ha : GoodIn big a) (hb : GoodIn big b) : GoodIn big (a ++ b) := fun w h => (List.mem_append.mp h).elim (ha w) (hb w)
theorem goodIn_ca {big a b : List Cond} {c : Cond} (ha : GoodIn big (c :: a)) (hb : GoodIn big b) : GoodIn big (c :: (a ++ b)) := fun w h => (List.mem_cons.mp h).elim (fun e => ha w (List.mem_cons.mpr (Or.inl e))) (fun h => (List.mem_append.mp h).elim (fun h => ha w (List.mem_cons.mpr (Or.inr h))) (hb w))
theorem goodIn_sub {big ws : List Cond} (hm : ∀ w ∈ ws, w ∈ big) (h : ws.all goodWord = true) : GoodIn big ws := fun w hw => ⟨hm w hw, good_of_word (List.all_eq_true.mp h w hw)⟩
/-! ===== END ===== -/

/-! ===== BEGIN printed: names, fields, word lists, decode rows ===== -/
def RX0 : String := "LocoFrames$History"
def TX0 : u_T := fun k => match k with
  | 0 => ("LocoFrames$History", "states", "[LLocoFrames$Layout;", true)
  | 1 => ("LocoFrames$History", "first", "I", false)
  | _ => ("LocoFrames$History", "held", "I", false)
def tyX0 : Nat → FieldType := fun k => match k with
  | 0 => .array (.object "LocoFrames$Layout")
  | 1 => .int
  | _ => .int
abbrev wsX00 : List Cond := u_ws RX0 TX0 3
theorem nmX0 : ∀ a, a < 3 → ∀ b, b < 3 → a ≠ b → (TX0 a).2.1 ≠ (TX0 b).2.1 := by decide +kernel
theorem tyX0_ok : ∀ k, k < 3 → parseFieldDescriptor (TX0 k).2.2.1 = some (tyX0 k) := by decide +kernel
abbrev cX0_init : ByteArray := prog_2_method_1_code
def yX0_init : MethodName := ⟨RX0, "<init>", "()V"⟩
abbrev cX0_draft : ByteArray := prog_2_method_2_code
def yX0_draft : MethodName := ⟨RX0, "draft", "(LLocoFrames$Layout;)V"⟩
abbrev cX0_kept : ByteArray := prog_2_method_3_code
def yX0_kept : MethodName := ⟨RX0, "kept", "(I)I"⟩
abbrev cX0_takeBack : ByteArray := prog_2_method_4_code
def yX0_takeBack : MethodName := ⟨RX0, "takeBack", "(LLocoFrames$Layout;)I"⟩
def RX1 : String := "LocoFrames$Layout"
def TX1 : u_T := fun k => match k with
  | 0 => ("LocoFrames$Layout", "locos", "[LLocoFrames$Loco;", true)
  | 1 => ("LocoFrames$Layout", "station", "LLocoFrames$Station;", true)
  | 2 => ("LocoFrames$Layout", "shortTicks", "[I", true)
  | 3 => ("LocoFrames$Layout", "locoCount", "I", false)
  | 4 => ("LocoFrames$Layout", "ticks", "I", false)
  | 5 => ("LocoFrames$Layout", "noiseTicks", "I", false)
  | 6 => ("LocoFrames$Layout", "spoiledAt", "I", false)
  | 7 => ("LocoFrames$Layout", "frames", "I", false)
  | 8 => ("LocoFrames$Layout", "broken", "I", false)
  | _ => ("LocoFrames$Layout", "spoiled", "I", false)
def tyX1 : Nat → FieldType := fun k => match k with
  | 0 => .array (.object "LocoFrames$Loco")
  | 1 => .object "LocoFrames$Station"
  | 2 => .array .int
  | 3 => .int
  | 4 => .int
  | 5 => .int
  | 6 => .int
  | 7 => .int
  | 8 => .int
  | _ => .int
abbrev wsX10 : List Cond := u_ws RX1 TX1 10
theorem nmX1 : ∀ a, a < 10 → ∀ b, b < 10 → a ≠ b → (TX1 a).2.1 ≠ (TX1 b).2.1 := by decide +kernel
theorem tyX1_ok : ∀ k, k < 10 → parseFieldDescriptor (TX1 k).2.2.1 = some (tyX1 k) := by decide +kernel
abbrev cX1_init : ByteArray := prog_3_method_1_code
def yX1_init : MethodName := ⟨RX1, "<init>", "()V"⟩
abbrev cX1_copyFrom : ByteArray := prog_3_method_2_code
def yX1_copyFrom : MethodName := ⟨RX1, "copyFrom", "(LLocoFrames$Layout;)V"⟩
abbrev cX1_locoAt : ByteArray := prog_3_method_3_code
def yX1_locoAt : MethodName := ⟨RX1, "locoAt", "(I)LLocoFrames$Loco;"⟩
abbrev cX1_locoWith : ByteArray := prog_3_method_4_code
def yX1_locoWith : MethodName := ⟨RX1, "locoWith", "(I)LLocoFrames$Loco;"⟩
abbrev cX1_rankOf : ByteArray := prog_3_method_5_code
def yX1_rankOf : MethodName := ⟨RX1, "rankOf", "(I)I"⟩
abbrev cX1_addLoco : ByteArray := prog_3_method_6_code
def yX1_addLoco : MethodName := ⟨RX1, "addLoco", "(IIII)I"⟩
abbrev cX1_removeLoco : ByteArray := prog_3_method_7_code
def yX1_removeLoco : MethodName := ⟨RX1, "removeLoco", "(I)I"⟩
abbrev cX1_changeNoise : ByteArray := prog_3_method_8_code
def yX1_changeNoise : MethodName := ⟨RX1, "changeNoise", "(I)I"⟩
abbrev cX1_changeShort : ByteArray := prog_3_method_9_code
def yX1_changeShort : MethodName := ⟨RX1, "changeShort", "(II)I"⟩
abbrev cX1_takeFrame : ByteArray := prog_3_method_10_code
def yX1_takeFrame : MethodName := ⟨RX1, "takeFrame", "(III)I"⟩
abbrev cX1_takeTicks : ByteArray := prog_3_method_11_code
def yX1_takeTicks : MethodName := ⟨RX1, "takeTicks", "(I)I"⟩
abbrev cX1_tick : ByteArray := prog_3_method_12_code
def yX1_tick : MethodName := ⟨RX1, "tick", "()I"⟩
abbrev cX1_sendFirst : ByteArray := prog_3_method_13_code
def yX1_sendFirst : MethodName := ⟨RX1, "sendFirst", "()I"⟩
abbrev cX1_isShorted : ByteArray := prog_3_method_14_code
def yX1_isShorted : MethodName := ⟨RX1, "isShorted", "(I)Z"⟩
abbrev cX1_locosIn : ByteArray := prog_3_method_15_code
def yX1_locosIn : MethodName := ⟨RX1, "locosIn", "(I)I"⟩
abbrev cX1_blocksWithShort : ByteArray := prog_3_method_16_code
def yX1_blocksWithShort : MethodName := ⟨RX1, "blocksWithShort", "()I"⟩
abbrev cX1_crowdedBlocks : ByteArray := prog_3_method_17_code
def yX1_crowdedBlocks : MethodName := ⟨RX1, "crowdedBlocks", "()I"⟩
abbrev cX1_speedSum : ByteArray := prog_3_method_18_code
def yX1_speedSum : MethodName := ⟨RX1, "speedSum", "()I"⟩
def RX2 : String := "LocoFrames$Loco"
def TX2 : u_T := fun k => match k with
  | 0 => ("LocoFrames$Loco", "address", "I", false)
  | 1 => ("LocoFrames$Loco", "mass", "I", false)
  | 2 => ("LocoFrames$Loco", "curve", "I", false)
  | 3 => ("LocoFrames$Loco", "place", "I", false)
  | 4 => ("LocoFrames$Loco", "tenths", "I", false)
  | 5 => ("LocoFrames$Loco", "speed", "I", false)
  | 6 => ("LocoFrames$Loco", "rounds", "I", false)
  | 7 => ("LocoFrames$Loco", "step", "I", false)
  | 8 => ("LocoFrames$Loco", "way", "I", false)
  | 9 => ("LocoFrames$Loco", "lights", "I", false)
  | _ => ("LocoFrames$Loco", "heard", "I", false)
def tyX2 : Nat → FieldType := fun k => match k with
  | 0 => .int
  | 1 => .int
  | 2 => .int
  | 3 => .int
  | 4 => .int
  | 5 => .int
  | 6 => .int
  | 7 => .int
  | 8 => .int
  | 9 => .int
  | _ => .int
abbrev wsX20 : List Cond := u_ws RX2 TX2 11
theorem nmX2 : ∀ a, a < 11 → ∀ b, b < 11 → a ≠ b → (TX2 a).2.1 ≠ (TX2 b).2.1 := by decide +kernel
theorem tyX2_ok : ∀ k, k < 11 → parseFieldDescriptor (TX2 k).2.2.1 = some (tyX2 k) := by decide +kernel
abbrev cX2_init : ByteArray := prog_4_method_1_code
def yX2_init : MethodName := ⟨RX2, "<init>", "()V"⟩
abbrev cX2_begin : ByteArray := prog_4_method_2_code
def yX2_begin : MethodName := ⟨RX2, "begin", "(IIII)V"⟩
abbrev cX2_copyFrom : ByteArray := prog_4_method_3_code
def yX2_copyFrom : MethodName := ⟨RX2, "copyFrom", "(LLocoFrames$Loco;)V"⟩
abbrev cX2_blockNumber : ByteArray := prog_4_method_4_code
def yX2_blockNumber : MethodName := ⟨RX2, "blockNumber", "()I"⟩
abbrev cX2_goal : ByteArray := prog_4_method_5_code
def yX2_goal : MethodName := ⟨RX2, "goal", "()I"⟩
abbrev cX2_mostGain : ByteArray := prog_4_method_6_code
def yX2_mostGain : MethodName := ⟨RX2, "mostGain", "()I"⟩
abbrev cX2_ticksToGoal : ByteArray := prog_4_method_7_code
def yX2_ticksToGoal : MethodName := ⟨RX2, "ticksToGoal", "()I"⟩
abbrev cX2_changeSpeed : ByteArray := prog_4_method_8_code
def yX2_changeSpeed : MethodName := ⟨RX2, "changeSpeed", "()V"⟩
abbrev cX2_roll : ByteArray := prog_4_method_9_code
def yX2_roll : MethodName := ⟨RX2, "roll", "()V"⟩
abbrev cX2_hear : ByteArray := prog_4_method_10_code
def yX2_hear : MethodName := ⟨RX2, "hear", "(I)V"⟩
abbrev cX2_told : ByteArray := prog_4_method_11_code
def yX2_told : MethodName := ⟨RX2, "told", "(I)I"⟩
def RX3 : String := "LocoFrames$Pad"
def TX3 : u_T := fun k => match k with
  | 0 => ("LocoFrames$Pad", "text", "[C", true)
  | 1 => ("LocoFrames$Pad", "length", "I", false)
  | 2 => ("LocoFrames$Pad", "at", "I", false)
  | 3 => ("LocoFrames$Pad", "kind", "I", false)
  | 4 => ("LocoFrames$Pad", "numbers", "[I", true)
  | _ => ("LocoFrames$Pad", "numbersRead", "I", false)
def tyX3 : Nat → FieldType := fun k => match k with
  | 0 => .array .char
  | 1 => .int
  | 2 => .int
  | 3 => .int
  | 4 => .array .int
  | _ => .int
abbrev wsX30 : List Cond := u_ws RX3 TX3 6
theorem nmX3 : ∀ a, a < 6 → ∀ b, b < 6 → a ≠ b → (TX3 a).2.1 ≠ (TX3 b).2.1 := by decide +kernel
theorem tyX3_ok : ∀ k, k < 6 → parseFieldDescriptor (TX3 k).2.2.1 = some (tyX3 k) := by decide +kernel
abbrev cX3_init : ByteArray := prog_5_method_1_code
def yX3_init : MethodName := ⟨RX3, "<init>", "()V"⟩
abbrev cX3_append : ByteArray := prog_5_method_2_code
def yX3_append : MethodName := ⟨RX3, "append", "(J)I"⟩
abbrev cX3_countOf : ByteArray := prog_5_method_3_code
def yX3_countOf : MethodName := ⟨RX3, "countOf", "(J)I"⟩
abbrev cX3_codeAt : ByteArray := prog_5_method_4_code
def yX3_codeAt : MethodName := ⟨RX3, "codeAt", "(JI)I"⟩
abbrev cX3_clear : ByteArray := prog_5_method_5_code
def yX3_clear : MethodName := ⟨RX3, "clear", "()I"⟩
abbrev cX3_rewind : ByteArray := prog_5_method_6_code
def yX3_rewind : MethodName := ⟨RX3, "rewind", "()V"⟩
abbrev cX3_firstFault : ByteArray := prog_5_method_7_code
def yX3_firstFault : MethodName := ⟨RX3, "firstFault", "()I"⟩
abbrev cX3_readsOrder : ByteArray := prog_5_method_8_code
def yX3_readsOrder : MethodName := ⟨RX3, "readsOrder", "()Z"⟩
abbrev cX3_here : ByteArray := prog_5_method_9_code
def yX3_here : MethodName := ⟨RX3, "here", "()I"⟩
abbrev cX3_reads : ByteArray := prog_5_method_10_code
def yX3_reads : MethodName := ⟨RX3, "reads", "(I)Z"⟩
abbrev cX3_readsDigit : ByteArray := prog_5_method_11_code
def yX3_readsDigit : MethodName := ⟨RX3, "readsDigit", "(I)Z"⟩
abbrev cX3_readsNumber : ByteArray := prog_5_method_12_code
def yX3_readsNumber : MethodName := ⟨RX3, "readsNumber", "()Z"⟩
abbrev cX3_hold : ByteArray := prog_5_method_13_code
def yX3_hold : MethodName := ⟨RX3, "hold", "(I)V"⟩
def RX4 : String := "LocoFrames$Station"
def TX4 : u_T := fun k => match k with
  | 0 => ("LocoFrames$Station", "addresses", "[I", true)
  | 1 => ("LocoFrames$Station", "data", "[I", true)
  | 2 => ("LocoFrames$Station", "urgencies", "[I", true)
  | _ => ("LocoFrames$Station", "held", "I", false)
def tyX4 : Nat → FieldType := fun k => match k with
  | 0 => .array .int
  | 1 => .array .int
  | 2 => .array .int
  | _ => .int
abbrev wsX40 : List Cond := u_ws RX4 TX4 4
theorem nmX4 : ∀ a, a < 4 → ∀ b, b < 4 → a ≠ b → (TX4 a).2.1 ≠ (TX4 b).2.1 := by decide +kernel
theorem tyX4_ok : ∀ k, k < 4 → parseFieldDescriptor (TX4 k).2.2.1 = some (tyX4 k) := by decide +kernel
abbrev cX4_init : ByteArray := prog_6_method_1_code
def yX4_init : MethodName := ⟨RX4, "<init>", "()V"⟩
abbrev cX4_copyFrom : ByteArray := prog_6_method_2_code
def yX4_copyFrom : MethodName := ⟨RX4, "copyFrom", "(LLocoFrames$Station;)V"⟩
abbrev cX4_take : ByteArray := prog_6_method_3_code
def yX4_take : MethodName := ⟨RX4, "take", "(III)I"⟩
abbrev cX4_setRow : ByteArray := prog_6_method_4_code
def yX4_setRow : MethodName := ⟨RX4, "setRow", "(IIII)V"⟩
abbrev cX4_dropFirst : ByteArray := prog_6_method_5_code
def yX4_dropFirst : MethodName := ⟨RX4, "dropFirst", "()V"⟩
abbrev cX4_told : ByteArray := prog_6_method_6_code
def yX4_told : MethodName := ⟨RX4, "told", "(II)I"⟩
def RX5 : String := "LocoFrames"
def TX5 : u_T := fun k => match k with
  | 0 => ("LocoFrames", "now", "LLocoFrames$Layout;", true)
  | 1 => ("LocoFrames", "foreseen", "LLocoFrames$Layout;", true)
  | 2 => ("LocoFrames", "history", "LLocoFrames$History;", true)
  | 3 => ("LocoFrames", "slots", "[LLocoFrames$Layout;", true)
  | 4 => ("LocoFrames", "saved", "[Z", true)
  | _ => ("LocoFrames", "pad", "LLocoFrames$Pad;", true)
def tyX5 : Nat → FieldType := fun k => match k with
  | 0 => .object "LocoFrames$Layout"
  | 1 => .object "LocoFrames$Layout"
  | 2 => .object "LocoFrames$History"
  | 3 => .array (.object "LocoFrames$Layout")
  | 4 => .array .boolean
  | _ => .object "LocoFrames$Pad"
abbrev wsX50 : List Cond := u_ws RX5 TX5 6
theorem nmX5 : ∀ a, a < 6 → ∀ b, b < 6 → a ≠ b → (TX5 a).2.1 ≠ (TX5 b).2.1 := by decide +kernel
theorem tyX5_ok : ∀ k, k < 6 → parseFieldDescriptor (TX5 k).2.2.1 = some (tyX5 k) := by decide +kernel
abbrev cX5_init : ByteArray := prog_1_method_1_code
def yX5_init : MethodName := ⟨RX5, "<init>", "()V"⟩
abbrev cX5_loco : ByteArray := prog_1_method_2_code
def yX5_loco : MethodName := ⟨RX5, "loco", "(IIII)I"⟩
abbrev cX5_lift : ByteArray := prog_1_method_3_code
def yX5_lift : MethodName := ⟨RX5, "lift", "(I)I"⟩
abbrev cX5_noise : ByteArray := prog_1_method_4_code
def yX5_noise : MethodName := ⟨RX5, "noise", "(I)I"⟩
abbrev cX5_order : ByteArray := prog_1_method_5_code
def yX5_order : MethodName := ⟨RX5, "order", "(III)I"⟩
abbrev cX5_frame : ByteArray := prog_1_method_6_code
def yX5_frame : MethodName := ⟨RX5, "frame", "(III)I"⟩
abbrev cX5_shorts : ByteArray := prog_1_method_7_code
def yX5_shorts : MethodName := ⟨RX5, "shorts", "(II)I"⟩
abbrev cX5_pass : ByteArray := prog_1_method_8_code
def yX5_pass : MethodName := ⟨RX5, "pass", "(I)I"⟩
abbrev cX5_of : ByteArray := prog_1_method_9_code
def yX5_of : MethodName := ⟨RX5, "of", "(II)I"⟩
abbrev cX5_address : ByteArray := prog_1_method_10_code
def yX5_address : MethodName := ⟨RX5, "address", "(I)I"⟩
abbrev cX5_waiting : ByteArray := prog_1_method_11_code
def yX5_waiting : MethodName := ⟨RX5, "waiting", "(II)I"⟩
abbrev cX5_block : ByteArray := prog_1_method_12_code
def yX5_block : MethodName := ⟨RX5, "block", "(II)I"⟩
abbrev cX5_count : ByteArray := prog_1_method_13_code
def yX5_count : MethodName := ⟨RX5, "count", "(I)I"⟩
abbrev cX5_reaches : ByteArray := prog_1_method_14_code
def yX5_reaches : MethodName := ⟨RX5, "reaches", "(II)I"⟩
abbrev cX5_settles : ByteArray := prog_1_method_15_code
def yX5_settles : MethodName := ⟨RX5, "settles", "(I)I"⟩
abbrev cX5_meets : ByteArray := prog_1_method_16_code
def yX5_meets : MethodName := ⟨RX5, "meets", "(II)I"⟩
abbrev cX5_stepFor : ByteArray := prog_1_method_17_code
def yX5_stepFor : MethodName := ⟨RX5, "stepFor", "(II)I"⟩
abbrev cX5_put : ByteArray := prog_1_method_18_code
def yX5_put : MethodName := ⟨RX5, "put", "(J)I"⟩
abbrev cX5_wipe : ByteArray := prog_1_method_19_code
def yX5_wipe : MethodName := ⟨RX5, "wipe", "()I"⟩
abbrev cX5_fault : ByteArray := prog_1_method_20_code
def yX5_fault : MethodName := ⟨RX5, "fault", "()I"⟩
abbrev cX5_carryOut : ByteArray := prog_1_method_21_code
def yX5_carryOut : MethodName := ⟨RX5, "carryOut", "()I"⟩
abbrev cX5_undo : ByteArray := prog_1_method_22_code
def yX5_undo : MethodName := ⟨RX5, "undo", "()I"⟩
abbrev cX5_save : ByteArray := prog_1_method_23_code
def yX5_save : MethodName := ⟨RX5, "save", "(I)I"⟩
abbrev cX5_restore : ByteArray := prog_1_method_24_code
def yX5_restore : MethodName := ⟨RX5, "restore", "(I)I"⟩
abbrev cX5_carriesOne : ByteArray := prog_1_method_25_code
def yX5_carriesOne : MethodName := ⟨RX5, "carriesOne", "()Z"⟩
abbrev cX5_within : ByteArray := prog_1_method_26_code
def yX5_within : MethodName := ⟨RX5, "within", "(III)Z"⟩
abbrev cX5_isBlock : ByteArray := prog_1_method_27_code
def yX5_isBlock : MethodName := ⟨RX5, "isBlock", "(I)Z"⟩
abbrev cX5_curveSpeed : ByteArray := prog_1_method_28_code
def yX5_curveSpeed : MethodName := ⟨RX5, "curveSpeed", "(II)I"⟩
def RX6 : String := "LocoFramesModel"
def TX6 : u_T := fun k => match k with
  | 0 => ("LocoFramesModel", "thrown", "I", false)
  | 1 => ("LocoFramesModel", "s", "[I", true)
  | 2 => ("LocoFramesModel", "aside", "[I", true)
  | 3 => ("LocoFramesModel", "undos", "[I", true)
  | 4 => ("LocoFramesModel", "undoMany", "I", false)
  | 5 => ("LocoFramesModel", "slots", "[I", true)
  | 6 => ("LocoFramesModel", "hasSlot", "[Z", true)
  | 7 => ("LocoFramesModel", "pad", "[I", true)
  | 8 => ("LocoFramesModel", "length", "I", false)
  | 9 => ("LocoFramesModel", "at", "I", false)
  | 10 => ("LocoFramesModel", "isWell", "Z", false)
  | 11 => ("LocoFramesModel", "told", "[I", true)
  | _ => ("LocoFramesModel", "toldMany", "I", false)
def tyX6 : Nat → FieldType := fun k => match k with
  | 0 => .int
  | 1 => .array .int
  | 2 => .array .int
  | 3 => .array .int
  | 4 => .int
  | 5 => .array .int
  | 6 => .array .boolean
  | 7 => .array .int
  | 8 => .int
  | 9 => .int
  | 10 => .boolean
  | 11 => .array .int
  | _ => .int
abbrev wsX60 : List Cond := u_ws RX6 TX6 13
theorem nmX6 : ∀ a, a < 13 → ∀ b, b < 13 → a ≠ b → (TX6 a).2.1 ≠ (TX6 b).2.1 := by decide +kernel
theorem tyX6_ok : ∀ k, k < 13 → parseFieldDescriptor (TX6 k).2.2.1 = some (tyX6 k) := by decide +kernel
abbrev cX6_init : ByteArray := prog_8_method_1_code
def yX6_init : MethodName := ⟨RX6, "<init>", "()V"⟩
abbrev cX6_in : ByteArray := prog_8_method_3_code
def yX6_in : MethodName := ⟨RX6, "in", "(III)Z"⟩
abbrev cX6_get : ByteArray := prog_8_method_4_code
def yX6_get : MethodName := ⟨RX6, "get", "(II)I"⟩
abbrev cX6_lay : ByteArray := prog_8_method_5_code
def yX6_lay : MethodName := ⟨RX6, "lay", "(III)V"⟩
abbrev cX6_locoOf : ByteArray := prog_8_method_6_code
def yX6_locoOf : MethodName := ⟨RX6, "locoOf", "(I)I"⟩
abbrev cX6_records : ByteArray := prog_8_method_7_code
def yX6_records : MethodName := ⟨RX6, "records", "()V"⟩
abbrev cX6_putAside : ByteArray := prog_8_method_8_code
def yX6_putAside : MethodName := ⟨RX6, "putAside", "()V"⟩
abbrev cX6_takeBack : ByteArray := prog_8_method_9_code
def yX6_takeBack : MethodName := ⟨RX6, "takeBack", "()V"⟩
abbrev cX6_blockOf : ByteArray := prog_8_method_10_code
def yX6_blockOf : MethodName := ⟨RX6, "blockOf", "(I)I"⟩
abbrev cX6_isShort : ByteArray := prog_8_method_11_code
def yX6_isShort : MethodName := ⟨RX6, "isShort", "(I)Z"⟩
abbrev cX6_byCurve : ByteArray := prog_8_method_12_code
def yX6_byCurve : MethodName := ⟨RX6, "byCurve", "(II)I"⟩
abbrev cX6_due : ByteArray := prog_8_method_13_code
def yX6_due : MethodName := ⟨RX6, "due", "(I)I"⟩
abbrev cX6_hears : ByteArray := prog_8_method_14_code
def yX6_hears : MethodName := ⟨RX6, "hears", "(II)V"⟩
abbrev cX6_comes : ByteArray := prog_8_method_15_code
def yX6_comes : MethodName := ⟨RX6, "comes", "(III)I"⟩
abbrev cX6_sends : ByteArray := prog_8_method_16_code
def yX6_sends : MethodName := ⟨RX6, "sends", "()I"⟩
abbrev cX6_speeds : ByteArray := prog_8_method_17_code
def yX6_speeds : MethodName := ⟨RX6, "speeds", "(I)V"⟩
abbrev cX6_goes : ByteArray := prog_8_method_18_code
def yX6_goes : MethodName := ⟨RX6, "goes", "(I)V"⟩
abbrev cX6_tick : ByteArray := prog_8_method_19_code
def yX6_tick : MethodName := ⟨RX6, "tick", "()I"⟩
abbrev cX6_ticks : ByteArray := prog_8_method_20_code
def yX6_ticks : MethodName := ⟨RX6, "ticks", "(I)I"⟩
abbrev cX6_loco : ByteArray := prog_8_method_21_code
def yX6_loco : MethodName := ⟨RX6, "loco", "(IIII)I"⟩
abbrev cX6_lift : ByteArray := prog_8_method_22_code
def yX6_lift : MethodName := ⟨RX6, "lift", "(I)I"⟩
abbrev cX6_noise : ByteArray := prog_8_method_23_code
def yX6_noise : MethodName := ⟨RX6, "noise", "(I)I"⟩
abbrev cX6_refusesOrder : ByteArray := prog_8_method_24_code
def yX6_refusesOrder : MethodName := ⟨RX6, "refusesOrder", "(III)I"⟩
abbrev cX6_laysOrder : ByteArray := prog_8_method_25_code
def yX6_laysOrder : MethodName := ⟨RX6, "laysOrder", "(III)I"⟩
abbrev cX6_order : ByteArray := prog_8_method_26_code
def yX6_order : MethodName := ⟨RX6, "order", "(III)I"⟩
abbrev cX6_refusesFrame : ByteArray := prog_8_method_27_code
def yX6_refusesFrame : MethodName := ⟨RX6, "refusesFrame", "(III)I"⟩
abbrev cX6_frame : ByteArray := prog_8_method_28_code
def yX6_frame : MethodName := ⟨RX6, "frame", "(III)I"⟩
abbrev cX6_refusesShorts : ByteArray := prog_8_method_29_code
def yX6_refusesShorts : MethodName := ⟨RX6, "refusesShorts", "(II)I"⟩
abbrev cX6_shorts : ByteArray := prog_8_method_30_code
def yX6_shorts : MethodName := ⟨RX6, "shorts", "(II)I"⟩
abbrev cX6_refusesPass : ByteArray := prog_8_method_31_code
def yX6_refusesPass : MethodName := ⟨RX6, "refusesPass", "(I)I"⟩
abbrev cX6_pass : ByteArray := prog_8_method_32_code
def yX6_pass : MethodName := ⟨RX6, "pass", "(I)I"⟩
abbrev cX6_of : ByteArray := prog_8_method_33_code
def yX6_of : MethodName := ⟨RX6, "of", "(II)I"⟩
abbrev cX6_address : ByteArray := prog_8_method_34_code
def yX6_address : MethodName := ⟨RX6, "address", "(I)I"⟩
abbrev cX6_waiting : ByteArray := prog_8_method_35_code
def yX6_waiting : MethodName := ⟨RX6, "waiting", "(II)I"⟩
abbrev cX6_locosIn : ByteArray := prog_8_method_36_code
def yX6_locosIn : MethodName := ⟨RX6, "locosIn", "(I)I"⟩
abbrev cX6_block : ByteArray := prog_8_method_37_code
def yX6_block : MethodName := ⟨RX6, "block", "(II)I"⟩
abbrev cX6_overBlocks : ByteArray := prog_8_method_38_code
def yX6_overBlocks : MethodName := ⟨RX6, "overBlocks", "(I)I"⟩
abbrev cX6_allSpeeds : ByteArray := prog_8_method_39_code
def yX6_allSpeeds : MethodName := ⟨RX6, "allSpeeds", "()I"⟩
abbrev cX6_count : ByteArray := prog_8_method_40_code
def yX6_count : MethodName := ⟨RX6, "count", "(I)I"⟩
abbrev cX6_reaches : ByteArray := prog_8_method_41_code
def yX6_reaches : MethodName := ⟨RX6, "reaches", "(II)I"⟩
abbrev cX6_settles : ByteArray := prog_8_method_42_code
def yX6_settles : MethodName := ⟨RX6, "settles", "(I)I"⟩
abbrev cX6_meets : ByteArray := prog_8_method_43_code
def yX6_meets : MethodName := ⟨RX6, "meets", "(II)I"⟩
abbrev cX6_stepFor : ByteArray := prog_8_method_44_code
def yX6_stepFor : MethodName := ⟨RX6, "stepFor", "(II)I"⟩
abbrev cX6_put : ByteArray := prog_8_method_45_code
def yX6_put : MethodName := ⟨RX6, "put", "(J)I"⟩
abbrev cX6_wipe : ByteArray := prog_8_method_46_code
def yX6_wipe : MethodName := ⟨RX6, "wipe", "()I"⟩
abbrev cX6_sign : ByteArray := prog_8_method_47_code
def yX6_sign : MethodName := ⟨RX6, "sign", "()I"⟩
abbrev cX6_wants : ByteArray := prog_8_method_48_code
def yX6_wants : MethodName := ⟨RX6, "wants", "(I)V"⟩
abbrev cX6_digit : ByteArray := prog_8_method_49_code
def yX6_digit : MethodName := ⟨RX6, "digit", "(I)I"⟩
abbrev cX6_number : ByteArray := prog_8_method_50_code
def yX6_number : MethodName := ⟨RX6, "number", "()I"⟩
abbrev cX6_readsOrder : ByteArray := prog_8_method_51_code
def yX6_readsOrder : MethodName := ⟨RX6, "readsOrder", "()V"⟩
abbrev cX6_reads : ByteArray := prog_8_method_52_code
def yX6_reads : MethodName := ⟨RX6, "reads", "()I"⟩
abbrev cX6_fault : ByteArray := prog_8_method_53_code
def yX6_fault : MethodName := ⟨RX6, "fault", "()I"⟩
abbrev cX6_refuses : ByteArray := prog_8_method_54_code
def yX6_refuses : MethodName := ⟨RX6, "refuses", "(I)I"⟩
abbrev cX6_does : ByteArray := prog_8_method_55_code
def yX6_does : MethodName := ⟨RX6, "does", "(I)V"⟩
abbrev cX6_carryOut : ByteArray := prog_8_method_56_code
def yX6_carryOut : MethodName := ⟨RX6, "carryOut", "()I"⟩
abbrev cX6_undo : ByteArray := prog_8_method_57_code
def yX6_undo : MethodName := ⟨RX6, "undo", "()I"⟩
abbrev cX6_save : ByteArray := prog_8_method_58_code
def yX6_save : MethodName := ⟨RX6, "save", "(I)I"⟩
abbrev cX6_restore : ByteArray := prog_8_method_59_code
def yX6_restore : MethodName := ⟨RX6, "restore", "(I)I"⟩
def RJ9 : String := "java/lang/Math"
def TJ9 : u_T := fun k => match k with
  | _ => ("", "", "", false)
def tyJ9 : Nat → FieldType := fun k => match k with
  | _ => .int
abbrev wsJ90 : List Cond := u_ws RJ9 TJ9 0
theorem nmJ9 : ∀ a, a < 0 → ∀ b, b < 0 → a ≠ b → (TJ9 a).2.1 ≠ (TJ9 b).2.1 := by decide +kernel
theorem tyJ9_ok : ∀ k, k < 0 → parseFieldDescriptor (TJ9 k).2.2.1 = some (tyJ9 k) := by decide +kernel
abbrev cJ9_floorDiv_7cf53 : ByteArray := prog_9_method_47_code
def yJ9_floorDiv_7cf53 : MethodName := ⟨RJ9, "floorDiv", "(II)I"⟩
abbrev cJ9_floorMod_7cf53 : ByteArray := prog_9_method_50_code
def yJ9_floorMod_7cf53 : MethodName := ⟨RJ9, "floorMod", "(II)I"⟩
abbrev cJ9_abs_0f7a4 : ByteArray := prog_9_method_59_code
def yJ9_abs_0f7a4 : MethodName := ⟨RJ9, "abs", "(I)I"⟩
abbrev cJ9_max_7cf53 : ByteArray := prog_9_method_65_code
def yJ9_max_7cf53 : MethodName := ⟨RJ9, "max", "(II)I"⟩
abbrev cJ9_min_7cf53 : ByteArray := prog_9_method_69_code
def yJ9_min_7cf53 : MethodName := ⟨RJ9, "min", "(II)I"⟩
def RJ10 : String := "java/lang/System"
def TJ10 : u_T := fun k => match k with
  | _ => ("", "", "", false)
def tyJ10 : Nat → FieldType := fun k => match k with
  | _ => .int
abbrev wsJ100 : List Cond := u_ws RJ10 TJ10 0
theorem nmJ10 : ∀ a, a < 0 → ∀ b, b < 0 → a ≠ b → (TJ10 a).2.1 ≠ (TJ10 b).2.1 := by decide +kernel
theorem tyJ10_ok : ∀ k, k < 0 → parseFieldDescriptor (TJ10 k).2.2.1 = some (tyJ10 k) := by decide +kernel
def RL : String := "LocoFramesLaw"
abbrev cL_law : ByteArray := code
def yL_law : MethodName := ⟨RL, "law", "([I)Z"⟩
def wsL_law_r1 : List Cond := [Cond.classLink RL 7 RX5, Cond.instantiable RX5 6, Cond.initialized RX5, Cond.classLink RL 10 RX6, Cond.instantiable RX6 13, Cond.initialized RX6, Cond.constantLong RL 81 (4294967295), Cond.methodLink RL 9 yX5_init, Cond.instanceMethod yX5_init, Cond.code yX5_init cX5_init 2 none, Cond.methodLink RX5 3 objectInit, Cond.instanceMethod objectInit, Cond.code objectInit ⟨#[0xb1]⟩ 1 none, Cond.classLink RX5 9 RX1, Cond.instantiable RX1 10, Cond.initialized RX1, Cond.fieldLink RX5 12 "LocoFrames" "now" "LLocoFrames$Layout;", Cond.fieldLink RX5 16 "LocoFrames" "foreseen" "LLocoFrames$Layout;", Cond.classLink RX5 19 RX0, Cond.instantiable RX0 3, Cond.initialized RX0, Cond.fieldLink RX5 22 "LocoFrames" "history" "LLocoFrames$History;", Cond.fieldLink RX5 26 "LocoFrames" "slots" "[LLocoFrames$Layout;", Cond.arrayClass .boolean]
def wsL_law_r2 : List Cond := [Cond.fieldLink RX5 30 "LocoFrames" "saved" "[Z", Cond.classLink RX5 34 RX3, Cond.instantiable RX3 6, Cond.initialized RX3, Cond.fieldLink RX5 37 "LocoFrames" "pad" "LLocoFrames$Pad;", Cond.methodLink RX5 11 yX1_init, Cond.instanceMethod yX1_init, Cond.code yX1_init cX1_init 2 none, Cond.methodLink RX1 3 objectInit, Cond.classLink RX1 9 RX2, Cond.fieldLink RX1 11 "LocoFrames$Layout" "locos" "[LLocoFrames$Loco;", Cond.classLink RX1 17 RX4, Cond.instantiable RX4 4, Cond.initialized RX4, Cond.fieldLink RX1 20 "LocoFrames$Layout" "station" "LLocoFrames$Station;", Cond.arrayClass .int, Cond.fieldLink RX1 24 "LocoFrames$Layout" "shortTicks" "[I", Cond.instantiable RX2 11, Cond.initialized RX2, Cond.instanceMethod yX4_init, Cond.code yX4_init cX4_init 1 none, Cond.methodLink RX4 3 objectInit, Cond.fieldLink RX4 9 "LocoFrames$Station" "addresses" "[I", Cond.fieldLink RX4 15 "LocoFrames$Station" "data" "[I"]
def wsL_law_r3 : List Cond := [Cond.fieldLink RX4 18 "LocoFrames$Station" "urgencies" "[I", Cond.instanceMethod yX2_init, Cond.code yX2_init cX2_init 1 none, Cond.methodLink RX2 3 objectInit, Cond.methodLink RX5 21 yX0_init, Cond.instanceMethod yX0_init, Cond.code yX0_init cX0_init 2 none, Cond.methodLink RX0 3 objectInit, Cond.classLink RX0 9 RX1, Cond.fieldLink RX0 11 "LocoFrames$History" "states" "[LLocoFrames$Layout;", Cond.methodLink RX0 17 yX1_init, Cond.instanceMethod yX3_init, Cond.code yX3_init cX3_init 1 none, Cond.methodLink RX3 3 objectInit, Cond.arrayClass .char, Cond.fieldLink RX3 9 "LocoFrames$Pad" "text" "[C", Cond.fieldLink RX3 15 "LocoFrames$Pad" "numbers" "[I", Cond.methodLink RL 12 yX6_init, Cond.instanceMethod yX6_init, Cond.code yX6_init cX6_init 1 none, Cond.methodLink RX6 1 objectInit, Cond.fieldLink RX6 7 "LocoFramesModel" "s" "[I", Cond.fieldLink RX6 13 "LocoFramesModel" "aside" "[I", Cond.fieldLink RX6 16 "LocoFramesModel" "undos" "[I"]
def wsL_law_r4 : List Cond := [Cond.fieldLink RX6 19 "LocoFramesModel" "slots" "[I", Cond.fieldLink RX6 22 "LocoFramesModel" "hasSlot" "[Z", Cond.fieldLink RX6 26 "LocoFramesModel" "pad" "[I", Cond.fieldLink RX6 29 "LocoFramesModel" "told" "[I", Cond.fieldLink RX6 32 "LocoFramesModel" "thrown" "I", Cond.methodLink RL 13 yX5_loco, Cond.instanceMethod yX5_loco, Cond.selects RX5 yX5_loco yX5_loco, Cond.code yX5_loco cX5_loco 5 (some .int), Cond.methodLink RX5 41 yX0_draft, Cond.instanceMethod yX0_draft, Cond.selects RX0 yX0_draft yX0_draft, Cond.code yX0_draft cX0_draft 2 none, Cond.fieldLink RX0 18 "LocoFrames$History" "first" "I", Cond.fieldLink RX0 22 "LocoFrames$History" "held" "I", Cond.methodLink RX0 25 yX1_copyFrom, Cond.instanceMethod yX1_copyFrom, Cond.selects RX1 yX1_copyFrom yX1_copyFrom, Cond.code yX1_copyFrom cX1_copyFrom 3 none, Cond.fieldLink RX1 29 "LocoFrames$Layout" "locoCount" "I", Cond.methodLink RX1 40 arraycopyName, Cond.native arraycopyName, Cond.static arraycopyName, Cond.initialized "java/lang/System"]
def wsL_law_r5 : List Cond := [Cond.fieldLink RX1 46 "LocoFrames$Layout" "ticks" "I", Cond.fieldLink RX1 49 "LocoFrames$Layout" "noiseTicks" "I", Cond.fieldLink RX1 52 "LocoFrames$Layout" "spoiledAt" "I", Cond.fieldLink RX1 55 "LocoFrames$Layout" "frames" "I", Cond.fieldLink RX1 58 "LocoFrames$Layout" "broken" "I", Cond.fieldLink RX1 61 "LocoFrames$Layout" "spoiled" "I", Cond.methodLink RX1 33 yX2_copyFrom, Cond.instanceMethod yX2_copyFrom, Cond.selects RX2 yX2_copyFrom yX2_copyFrom, Cond.code yX2_copyFrom cX2_copyFrom 2 none, Cond.fieldLink RX2 9 "LocoFrames$Loco" "address" "I", Cond.fieldLink RX2 15 "LocoFrames$Loco" "mass" "I", Cond.fieldLink RX2 18 "LocoFrames$Loco" "curve" "I", Cond.fieldLink RX2 21 "LocoFrames$Loco" "place" "I", Cond.fieldLink RX2 24 "LocoFrames$Loco" "tenths" "I", Cond.fieldLink RX2 27 "LocoFrames$Loco" "speed" "I", Cond.fieldLink RX2 30 "LocoFrames$Loco" "rounds" "I", Cond.fieldLink RX2 33 "LocoFrames$Loco" "step" "I", Cond.fieldLink RX2 36 "LocoFrames$Loco" "way" "I", Cond.fieldLink RX2 39 "LocoFrames$Loco" "lights" "I", Cond.fieldLink RX2 42 "LocoFrames$Loco" "heard" "I", Cond.methodLink RX1 37 yX4_copyFrom, Cond.instanceMethod yX4_copyFrom, Cond.selects RX4 yX4_copyFrom yX4_copyFrom]
def wsL_law_r6 : List Cond := [Cond.code yX4_copyFrom cX4_copyFrom 2 none, Cond.methodLink RX4 21 arraycopyName, Cond.fieldLink RX4 27 "LocoFrames$Station" "held" "I", Cond.methodLink RX5 45 yX1_addLoco, Cond.instanceMethod yX1_addLoco, Cond.selects RX1 yX1_addLoco yX1_addLoco, Cond.code yX1_addLoco cX1_addLoco 7 (some .int), Cond.fieldLink RX1 76 "LocoFrames$Loco" "address" "I", Cond.static yX5_within, Cond.code yX5_within cX5_within 3 (some .boolean), Cond.methodLink RX1 68 yX1_rankOf, Cond.instanceMethod yX1_rankOf, Cond.selects RX1 yX1_rankOf yX1_rankOf, Cond.code yX1_rankOf cX1_rankOf 3 (some .int), Cond.methodLink RX1 79 yX2_begin, Cond.instanceMethod yX2_begin, Cond.selects RX2 yX2_begin yX2_begin, Cond.code yX2_begin cX2_begin 5 none, Cond.methodLink RX5 49 yX0_kept, Cond.instanceMethod yX0_kept, Cond.selects RX0 yX0_kept yX0_kept, Cond.code yX0_kept cX0_kept 2 (some .int), Cond.methodLink RL 17 yX6_loco, Cond.instanceMethod yX6_loco]
def wsL_law_r7 : List Cond := [Cond.selects RX6 yX6_loco yX6_loco, Cond.code yX6_loco cX6_loco 7 (some .int), Cond.methodLink RX6 54 yX6_in, Cond.static yX6_in, Cond.code yX6_in cX6_in 3 (some .boolean), Cond.methodLink RX6 87 yX6_locoOf, Cond.instanceMethod yX6_locoOf, Cond.selects RX6 yX6_locoOf yX6_locoOf, Cond.code yX6_locoOf cX6_locoOf 3 (some .int), Cond.methodLink RX6 36 yX6_get, Cond.instanceMethod yX6_get, Cond.selects RX6 yX6_get yX6_get, Cond.code yX6_get cX6_get 3 (some .int), Cond.methodLink RX6 90 yX6_records, Cond.instanceMethod yX6_records, Cond.selects RX6 yX6_records yX6_records, Cond.code yX6_records cX6_records 2 none, Cond.fieldLink RX6 40 "LocoFramesModel" "undoMany" "I", Cond.methodLink RX6 50 yX6_lay, Cond.instanceMethod yX6_lay, Cond.selects RX6 yX6_lay yX6_lay, Cond.code yX6_lay cX6_lay 4 none, Cond.methodLink RL 18 yX5_lift, Cond.instanceMethod yX5_lift]
def wsL_law_r8 : List Cond := [Cond.selects RX5 yX5_lift yX5_lift, Cond.code yX5_lift cX5_lift 2 (some .int), Cond.methodLink RX5 53 yX1_removeLoco, Cond.instanceMethod yX1_removeLoco, Cond.selects RX1 yX1_removeLoco yX1_removeLoco, Cond.code yX1_removeLoco cX1_removeLoco 5 (some .int), Cond.methodLink RL 22 yX6_lift, Cond.instanceMethod yX6_lift, Cond.selects RX6 yX6_lift yX6_lift, Cond.code yX6_lift cX6_lift 4 (some .int), Cond.methodLink RL 23 yX5_noise, Cond.instanceMethod yX5_noise, Cond.selects RX5 yX5_noise yX5_noise, Cond.code yX5_noise cX5_noise 2 (some .int), Cond.methodLink RX5 56 yX1_changeNoise, Cond.instanceMethod yX1_changeNoise, Cond.selects RX1 yX1_changeNoise yX1_changeNoise, Cond.code yX1_changeNoise cX1_changeNoise 3 (some .int), Cond.methodLink RL 26 yX6_noise, Cond.instanceMethod yX6_noise, Cond.selects RX6 yX6_noise yX6_noise, Cond.code yX6_noise cX6_noise 3 (some .int), Cond.methodLink RL 27 yX5_order, Cond.instanceMethod yX5_order]
def wsL_law_r9 : List Cond := [Cond.selects RX5 yX5_order yX5_order, Cond.code yX5_order cX5_order 4 (some .int), Cond.fieldLink RX5 59 "LocoFrames$Layout" "station" "LLocoFrames$Station;", Cond.methodLink RX5 63 yX4_take, Cond.instanceMethod yX4_take, Cond.selects RX4 yX4_take yX4_take, Cond.code yX4_take cX4_take 5 (some .int), Cond.methodLink RX4 35 yX4_setRow, Cond.instanceMethod yX4_setRow, Cond.selects RX4 yX4_setRow yX4_setRow, Cond.code yX4_setRow cX4_setRow 5 none, Cond.methodLink RL 31 yX6_order, Cond.instanceMethod yX6_order, Cond.selects RX6 yX6_order yX6_order, Cond.code yX6_order cX6_order 5 (some .int), Cond.methodLink RX6 93 yX6_refusesOrder, Cond.instanceMethod yX6_refusesOrder, Cond.selects RX6 yX6_refusesOrder yX6_refusesOrder, Cond.code yX6_refusesOrder cX6_refusesOrder 4 (some .int), Cond.methodLink RX6 96 yX6_laysOrder, Cond.instanceMethod yX6_laysOrder, Cond.selects RX6 yX6_laysOrder yX6_laysOrder, Cond.code yX6_laysOrder cX6_laysOrder 6 (some .int), Cond.methodLink RL 32 yX5_frame]
def wsL_law_r10 : List Cond := [Cond.instanceMethod yX5_frame, Cond.selects RX5 yX5_frame yX5_frame, Cond.code yX5_frame cX5_frame 4 (some .int), Cond.methodLink RX5 69 yX1_takeFrame, Cond.instanceMethod yX1_takeFrame, Cond.selects RX1 yX1_takeFrame yX1_takeFrame, Cond.code yX1_takeFrame cX1_takeFrame 7 (some .int), Cond.methodLink RX1 87 yX2_blockNumber, Cond.instanceMethod yX2_blockNumber, Cond.selects RX2 yX2_blockNumber yX2_blockNumber, Cond.code yX2_blockNumber cX2_blockNumber 1 (some .int), Cond.methodLink RX1 91 yX1_isShorted, Cond.instanceMethod yX1_isShorted, Cond.selects RX1 yX1_isShorted yX1_isShorted, Cond.code yX1_isShorted cX1_isShorted 2 (some .boolean), Cond.methodLink RX1 94 yX2_hear, Cond.instanceMethod yX2_hear, Cond.selects RX2 yX2_hear yX2_hear, Cond.code yX2_hear cX2_hear 3 none, Cond.methodLink RL 35 yX6_frame, Cond.instanceMethod yX6_frame, Cond.selects RX6 yX6_frame yX6_frame, Cond.code yX6_frame cX6_frame 5 (some .int), Cond.methodLink RX6 99 yX6_refusesFrame]
def wsL_law_r11 : List Cond := [Cond.static yX6_refusesFrame, Cond.code yX6_refusesFrame cX6_refusesFrame 3 (some .int), Cond.methodLink RX6 66 yX6_comes, Cond.instanceMethod yX6_comes, Cond.selects RX6 yX6_comes yX6_comes, Cond.code yX6_comes cX6_comes 6 (some .int), Cond.methodLink RX6 58 yX6_isShort, Cond.instanceMethod yX6_isShort, Cond.selects RX6 yX6_isShort yX6_isShort, Cond.code yX6_isShort cX6_isShort 2 (some .boolean), Cond.methodLink RX6 43 yX6_blockOf, Cond.instanceMethod yX6_blockOf, Cond.selects RX6 yX6_blockOf yX6_blockOf, Cond.code yX6_blockOf cX6_blockOf 2 (some .int), Cond.methodLink RX6 62 yX6_hears, Cond.instanceMethod yX6_hears, Cond.selects RX6 yX6_hears yX6_hears, Cond.code yX6_hears cX6_hears 3 none, Cond.methodLink RL 36 yX5_shorts, Cond.instanceMethod yX5_shorts, Cond.selects RX5 yX5_shorts yX5_shorts, Cond.code yX5_shorts cX5_shorts 3 (some .int), Cond.methodLink RX5 72 yX1_changeShort, Cond.instanceMethod yX1_changeShort]
def wsL_law_r12 : List Cond := [Cond.selects RX1 yX1_changeShort yX1_changeShort, Cond.code yX1_changeShort cX1_changeShort 4 (some .int), Cond.static yX5_isBlock, Cond.code yX5_isBlock cX5_isBlock 1 (some .boolean), Cond.methodLink RX5 155 yX5_within, Cond.methodLink RL 40 yX6_shorts, Cond.instanceMethod yX6_shorts, Cond.selects RX6 yX6_shorts yX6_shorts, Cond.code yX6_shorts cX6_shorts 5 (some .int), Cond.methodLink RX6 102 yX6_refusesShorts, Cond.static yX6_refusesShorts, Cond.code yX6_refusesShorts cX6_refusesShorts 2 (some .int), Cond.methodLink RL 41 yX5_pass, Cond.instanceMethod yX5_pass, Cond.selects RX5 yX5_pass yX5_pass, Cond.code yX5_pass cX5_pass 2 (some .int), Cond.methodLink RX5 76 yX1_takeTicks, Cond.instanceMethod yX1_takeTicks, Cond.selects RX1 yX1_takeTicks yX1_takeTicks, Cond.code yX1_takeTicks cX1_takeTicks 4 (some .int), Cond.constant RX1 98 (99999), Cond.methodLink RX1 99 yX1_tick, Cond.instanceMethod yX1_tick, Cond.selects RX1 yX1_tick yX1_tick]
def wsL_law_r13 : List Cond := [Cond.code yX1_tick cX1_tick 4 (some .int), Cond.fieldLink RX1 105 "LocoFrames$Loco" "speed" "I", Cond.methodLink RX1 114 Lib.Math.max.name, Cond.static Lib.Math.max.name, Cond.initialized "java/lang/Math", Cond.code Lib.Math.max.name Lib.Math.max.code 2 (some .int), Cond.methodLink RX1 102 yX1_sendFirst, Cond.instanceMethod yX1_sendFirst, Cond.selects RX1 yX1_sendFirst yX1_sendFirst, Cond.code yX1_sendFirst cX1_sendFirst 4 (some .int), Cond.fieldLink RX1 120 "LocoFrames$Station" "held" "I", Cond.fieldLink RX1 123 "LocoFrames$Station" "addresses" "[I", Cond.fieldLink RX1 126 "LocoFrames$Station" "data" "[I", Cond.methodLink RX1 129 yX4_dropFirst, Cond.instanceMethod yX4_dropFirst, Cond.selects RX4 yX4_dropFirst yX4_dropFirst, Cond.code yX4_dropFirst cX4_dropFirst 2 none, Cond.methodLink RX4 39 Lib.Math.max.name, Cond.methodLink RX1 132 yX1_takeFrame, Cond.methodLink RX1 108 yX2_changeSpeed, Cond.instanceMethod yX2_changeSpeed, Cond.selects RX2 yX2_changeSpeed yX2_changeSpeed, Cond.code yX2_changeSpeed cX2_changeSpeed 2 none, Cond.methodLink RX2 62 Lib.Math.min.name]
def wsL_law_r14 : List Cond := [Cond.static Lib.Math.min.name, Cond.code Lib.Math.min.name Lib.Math.min.code 2 (some .int), Cond.methodLink RX2 65 Lib.Math.max.name, Cond.methodLink RX2 49 yX2_mostGain, Cond.instanceMethod yX2_mostGain, Cond.selects RX2 yX2_mostGain yX2_mostGain, Cond.code yX2_mostGain cX2_mostGain 1 (some .int), Cond.methodLink RX2 53 yX2_goal, Cond.instanceMethod yX2_goal, Cond.selects RX2 yX2_goal yX2_goal, Cond.code yX2_goal cX2_goal 2 (some .int), Cond.static yX5_curveSpeed, Cond.code yX5_curveSpeed cX5_curveSpeed 3 (some .int), Cond.methodLink RX1 111 yX2_roll, Cond.instanceMethod yX2_roll, Cond.selects RX2 yX2_roll yX2_roll, Cond.code yX2_roll cX2_roll 3 none, Cond.methodLink RX2 68 yJ9_floorDiv_7cf53, Cond.static yJ9_floorDiv_7cf53, Cond.initialized RJ9, Cond.code yJ9_floorDiv_7cf53 cJ9_floorDiv_7cf53 3 (some .int), Cond.methodLink RX2 71 yJ9_floorMod_7cf53, Cond.static yJ9_floorMod_7cf53, Cond.code yJ9_floorMod_7cf53 cJ9_floorMod_7cf53 3 (some .int)]
def wsL_law_r15 : List Cond := [Cond.methodLink RL 44 yX6_pass, Cond.instanceMethod yX6_pass, Cond.selects RX6 yX6_pass yX6_pass, Cond.code yX6_pass cX6_pass 3 (some .int), Cond.methodLink RX6 106 yX6_refusesPass, Cond.instanceMethod yX6_refusesPass, Cond.selects RX6 yX6_refusesPass yX6_refusesPass, Cond.code yX6_refusesPass cX6_refusesPass 2 (some .int), Cond.constant RX6 105 (99999), Cond.methodLink RX6 109 yX6_ticks, Cond.instanceMethod yX6_ticks, Cond.selects RX6 yX6_ticks yX6_ticks, Cond.code yX6_ticks cX6_ticks 4 (some .int), Cond.methodLink RX6 84 yX6_tick, Cond.instanceMethod yX6_tick, Cond.selects RX6 yX6_tick yX6_tick, Cond.code yX6_tick cX6_tick 3 (some .int), Cond.methodLink RX6 73 yX6_sends, Cond.instanceMethod yX6_sends, Cond.selects RX6 yX6_sends yX6_sends, Cond.code yX6_sends cX6_sends 5 (some .int), Cond.methodLink RX6 77 yX6_speeds, Cond.instanceMethod yX6_speeds, Cond.selects RX6 yX6_speeds yX6_speeds]
def wsL_law_r16 : List Cond := [Cond.code yX6_speeds cX6_speeds 6 none, Cond.methodLink RX6 70 yX6_due, Cond.instanceMethod yX6_due, Cond.selects RX6 yX6_due yX6_due, Cond.code yX6_due cX6_due 3 (some .int), Cond.methodLink RX6 47 yX6_byCurve, Cond.static yX6_byCurve, Cond.code yX6_byCurve cX6_byCurve 3 (some .int), Cond.methodLink RX6 81 yX6_goes, Cond.instanceMethod yX6_goes, Cond.selects RX6 yX6_goes yX6_goes, Cond.code yX6_goes cX6_goes 4 none, Cond.methodLink RL 45 yX5_of, Cond.instanceMethod yX5_of, Cond.selects RX5 yX5_of yX5_of, Cond.code yX5_of cX5_of 4 (some .int), Cond.methodLink RX5 79 yX1_locoWith, Cond.instanceMethod yX1_locoWith, Cond.selects RX1 yX1_locoWith yX1_locoWith, Cond.code yX1_locoWith cX1_locoWith 2 (some (.object "LocoFrames$Loco")), Cond.methodLink RX1 72 yX1_locoAt, Cond.instanceMethod yX1_locoAt, Cond.selects RX1 yX1_locoAt yX1_locoAt, Cond.code yX1_locoAt cX1_locoAt 2 (some (.object "LocoFrames$Loco"))]
def wsL_law_r17 : List Cond := [Cond.methodLink RX5 83 yX2_told, Cond.instanceMethod yX2_told, Cond.selects RX2 yX2_told yX2_told, Cond.code yX2_told cX2_told 2 (some .int), Cond.methodLink RX2 74 yX2_blockNumber, Cond.methodLink RL 48 yX6_of, Cond.instanceMethod yX6_of, Cond.selects RX6 yX6_of yX6_of, Cond.code yX6_of cX6_of 4 (some .int), Cond.methodLink RL 49 yX5_address, Cond.instanceMethod yX5_address, Cond.selects RX5 yX5_address yX5_address, Cond.code yX5_address cX5_address 3 (some .int), Cond.fieldLink RX5 91 "LocoFrames$Loco" "address" "I", Cond.methodLink RX5 88 yX1_locoAt, Cond.methodLink RL 52 yX6_address, Cond.instanceMethod yX6_address, Cond.selects RX6 yX6_address yX6_address, Cond.code yX6_address cX6_address 2 (some .int), Cond.methodLink RL 53 yX5_waiting, Cond.instanceMethod yX5_waiting, Cond.selects RX5 yX5_waiting yX5_waiting, Cond.code yX5_waiting cX5_waiting 3 (some .int), Cond.methodLink RX5 95 yX4_told]
def wsL_law_r18 : List Cond := [Cond.instanceMethod yX4_told, Cond.selects RX4 yX4_told yX4_told, Cond.code yX4_told cX4_told 3 (some .int), Cond.methodLink RL 56 yX6_waiting, Cond.instanceMethod yX6_waiting, Cond.selects RX6 yX6_waiting yX6_waiting, Cond.code yX6_waiting cX6_waiting 3 (some .int), Cond.methodLink RL 57 yX5_block, Cond.instanceMethod yX5_block, Cond.selects RX5 yX5_block yX5_block, Cond.code yX5_block cX5_block 3 (some .int), Cond.fieldLink RX5 101 "LocoFrames$Layout" "shortTicks" "[I", Cond.methodLink RX5 97 yX5_isBlock, Cond.methodLink RX5 105 yX1_locosIn, Cond.instanceMethod yX1_locosIn, Cond.selects RX1 yX1_locosIn yX1_locosIn, Cond.code yX1_locosIn cX1_locosIn 4 (some .int), Cond.methodLink RL 60 yX6_block, Cond.instanceMethod yX6_block, Cond.selects RX6 yX6_block yX6_block, Cond.code yX6_block cX6_block 3 (some .int), Cond.methodLink RX6 112 yX6_locosIn, Cond.instanceMethod yX6_locosIn, Cond.selects RX6 yX6_locosIn yX6_locosIn]
def wsL_law_r19 : List Cond := [Cond.code yX6_locosIn cX6_locosIn 4 (some .int), Cond.methodLink RL 61 yX5_count, Cond.instanceMethod yX5_count, Cond.selects RX5 yX5_count yX5_count, Cond.code yX5_count cX5_count 2 (some .int), Cond.fieldLink RX5 108 "LocoFrames$Layout" "ticks" "I", Cond.fieldLink RX5 111 "LocoFrames$Layout" "locoCount" "I", Cond.fieldLink RX5 114 "LocoFrames$Station" "held" "I", Cond.fieldLink RX5 117 "LocoFrames$Layout" "noiseTicks" "I", Cond.fieldLink RX5 120 "LocoFrames$Layout" "frames" "I", Cond.fieldLink RX5 123 "LocoFrames$Layout" "broken" "I", Cond.fieldLink RX5 126 "LocoFrames$Layout" "spoiled" "I", Cond.fieldLink RX5 139 "LocoFrames$Pad" "length" "I", Cond.fieldLink RX5 142 "LocoFrames$History" "held" "I", Cond.methodLink RX5 129 yX1_blocksWithShort, Cond.instanceMethod yX1_blocksWithShort, Cond.selects RX1 yX1_blocksWithShort yX1_blocksWithShort, Cond.code yX1_blocksWithShort cX1_blocksWithShort 3 (some .int), Cond.methodLink RX5 133 yX1_crowdedBlocks, Cond.instanceMethod yX1_crowdedBlocks, Cond.selects RX1 yX1_crowdedBlocks yX1_crowdedBlocks, Cond.code yX1_crowdedBlocks cX1_crowdedBlocks 3 (some .int), Cond.methodLink RX1 136 yX1_locosIn, Cond.methodLink RX5 136 yX1_speedSum]
def wsL_law_r20 : List Cond := [Cond.instanceMethod yX1_speedSum, Cond.selects RX1 yX1_speedSum yX1_speedSum, Cond.code yX1_speedSum cX1_speedSum 3 (some .int), Cond.methodLink RL 64 yX6_count, Cond.instanceMethod yX6_count, Cond.selects RX6 yX6_count yX6_count, Cond.code yX6_count cX6_count 2 (some .int), Cond.fieldLink RX6 121 "LocoFramesModel" "length" "I", Cond.methodLink RX6 115 yX6_overBlocks, Cond.instanceMethod yX6_overBlocks, Cond.selects RX6 yX6_overBlocks yX6_overBlocks, Cond.code yX6_overBlocks cX6_overBlocks 4 (some .int), Cond.methodLink RX6 118 yX6_allSpeeds, Cond.instanceMethod yX6_allSpeeds, Cond.selects RX6 yX6_allSpeeds yX6_allSpeeds, Cond.code yX6_allSpeeds cX6_allSpeeds 3 (some .int), Cond.methodLink RL 65 yX5_reaches, Cond.instanceMethod yX5_reaches, Cond.selects RX5 yX5_reaches yX5_reaches, Cond.code yX5_reaches cX5_reaches 5 (some .int), Cond.methodLink RX5 143 yX1_copyFrom, Cond.methodLink RX5 146 yX2_blockNumber, Cond.methodLink RX5 149 yX1_tick, Cond.methodLink RL 68 yX6_reaches]
def wsL_law_r21 : List Cond := [Cond.instanceMethod yX6_reaches, Cond.selects RX6 yX6_reaches yX6_reaches, Cond.code yX6_reaches cX6_reaches 5 (some .int), Cond.methodLink RX6 124 yX6_putAside, Cond.instanceMethod yX6_putAside, Cond.selects RX6 yX6_putAside yX6_putAside, Cond.code yX6_putAside cX6_putAside 2 none, Cond.methodLink RX6 127 yX6_takeBack, Cond.instanceMethod yX6_takeBack, Cond.selects RX6 yX6_takeBack yX6_takeBack, Cond.code yX6_takeBack cX6_takeBack 2 none, Cond.methodLink RL 69 yX5_settles, Cond.instanceMethod yX5_settles, Cond.selects RX5 yX5_settles yX5_settles, Cond.code yX5_settles cX5_settles 3 (some .int), Cond.methodLink RX5 152 yX2_ticksToGoal, Cond.instanceMethod yX2_ticksToGoal, Cond.selects RX2 yX2_ticksToGoal yX2_ticksToGoal, Cond.code yX2_ticksToGoal cX2_ticksToGoal 3 (some .int), Cond.methodLink RX2 56 Lib.Math.abs.name, Cond.static Lib.Math.abs.name, Cond.code Lib.Math.abs.name Lib.Math.abs.code 1 (some .int), Cond.methodLink RL 72 yX6_settles, Cond.instanceMethod yX6_settles]
def wsL_law_r22 : List Cond := [Cond.selects RX6 yX6_settles yX6_settles, Cond.code yX6_settles cX6_settles 5 (some .int), Cond.methodLink RL 73 yX5_meets, Cond.instanceMethod yX5_meets, Cond.selects RX5 yX5_meets yX5_meets, Cond.code yX5_meets cX5_meets 6 (some .int), Cond.methodLink RL 76 yX6_meets, Cond.instanceMethod yX6_meets, Cond.selects RX6 yX6_meets yX6_meets, Cond.code yX6_meets cX6_meets 6 (some .int), Cond.methodLink RL 77 yX5_stepFor, Cond.instanceMethod yX5_stepFor, Cond.selects RX5 yX5_stepFor yX5_stepFor, Cond.code yX5_stepFor cX5_stepFor 5 (some .int), Cond.fieldLink RX5 159 "LocoFrames$Loco" "curve" "I", Cond.methodLink RX5 162 yX5_curveSpeed, Cond.methodLink RL 80 yX6_stepFor, Cond.instanceMethod yX6_stepFor, Cond.selects RX6 yX6_stepFor yX6_stepFor, Cond.code yX6_stepFor cX6_stepFor 5 (some .int), Cond.methodLink RL 83 yX5_put, Cond.instanceMethod yX5_put, Cond.selects RX5 yX5_put yX5_put, Cond.code yX5_put cX5_put 3 (some .int)]
def wsL_law_r23 : List Cond := [Cond.methodLink RX5 165 yX3_append, Cond.instanceMethod yX3_append, Cond.selects RX3 yX3_append yX3_append, Cond.code yX3_append cX3_append 5 (some .int), Cond.fieldLink RX3 23 "LocoFrames$Pad" "length" "I", Cond.methodLink RX3 19 yX3_countOf, Cond.static yX3_countOf, Cond.code yX3_countOf cX3_countOf 4 (some .int), Cond.methodLink RX3 27 yX3_codeAt, Cond.static yX3_codeAt, Cond.code yX3_codeAt cX3_codeAt 3 (some .int), Cond.methodLink RL 87 yX6_put, Cond.instanceMethod yX6_put, Cond.selects RX6 yX6_put yX6_put, Cond.code yX6_put cX6_put 8 (some .int), Cond.constantLong RX6 130 (255), Cond.methodLink RL 88 yX5_wipe, Cond.instanceMethod yX5_wipe, Cond.selects RX5 yX5_wipe yX5_wipe, Cond.code yX5_wipe cX5_wipe 1 (some .int), Cond.methodLink RX5 169 yX3_clear, Cond.instanceMethod yX3_clear, Cond.selects RX3 yX3_clear yX3_clear, Cond.code yX3_clear cX3_clear 2 (some .int)]
def wsL_law_r24 : List Cond := [Cond.methodLink RL 92 yX6_wipe, Cond.instanceMethod yX6_wipe, Cond.selects RX6 yX6_wipe yX6_wipe, Cond.code yX6_wipe cX6_wipe 2 (some .int), Cond.methodLink RL 93 yX5_fault, Cond.instanceMethod yX5_fault, Cond.selects RX5 yX5_fault yX5_fault, Cond.code yX5_fault cX5_fault 1 (some .int), Cond.methodLink RX5 172 yX3_firstFault, Cond.instanceMethod yX3_firstFault, Cond.selects RX3 yX3_firstFault yX3_firstFault, Cond.code yX3_firstFault cX3_firstFault 2 (some .int), Cond.fieldLink RX3 35 "LocoFrames$Pad" "at" "I", Cond.methodLink RX3 38 yX3_rewind, Cond.instanceMethod yX3_rewind, Cond.selects RX3 yX3_rewind yX3_rewind, Cond.code yX3_rewind cX3_rewind 1 none, Cond.methodLink RX3 41 yX3_readsOrder, Cond.instanceMethod yX3_readsOrder, Cond.selects RX3 yX3_readsOrder yX3_readsOrder, Cond.code yX3_readsOrder cX3_readsOrder 1 (some .boolean), Cond.fieldLink RX3 53 "LocoFrames$Pad" "kind" "I", Cond.fieldLink RX3 56 "LocoFrames$Pad" "numbersRead" "I", Cond.methodLink RX3 49 yX3_here]
def wsL_law_r25 : List Cond := [Cond.instanceMethod yX3_here, Cond.selects RX3 yX3_here yX3_here, Cond.code yX3_here cX3_here 1 (some .int), Cond.methodLink RX3 59 yX3_readsNumber, Cond.instanceMethod yX3_readsNumber, Cond.selects RX3 yX3_readsNumber yX3_readsNumber, Cond.code yX3_readsNumber cX3_readsNumber 3 (some .boolean), Cond.methodLink RX3 65 yX3_hold, Cond.instanceMethod yX3_hold, Cond.selects RX3 yX3_hold yX3_hold, Cond.code yX3_hold cX3_hold 2 none, Cond.methodLink RX3 45 yX3_reads, Cond.instanceMethod yX3_reads, Cond.selects RX3 yX3_reads yX3_reads, Cond.code yX3_reads cX3_reads 2 (some .boolean), Cond.methodLink RX3 62 yX3_readsDigit, Cond.instanceMethod yX3_readsDigit, Cond.selects RX3 yX3_readsDigit yX3_readsDigit, Cond.code yX3_readsDigit cX3_readsDigit 2 (some .boolean), Cond.methodLink RL 96 yX6_fault, Cond.instanceMethod yX6_fault, Cond.selects RX6 yX6_fault yX6_fault, Cond.code yX6_fault cX6_fault 1 (some .int), Cond.methodLink RX6 157 yX6_reads]
def wsL_law_r26 : List Cond := [Cond.instanceMethod yX6_reads, Cond.selects RX6 yX6_reads yX6_reads, Cond.code yX6_reads cX6_reads 1 (some .int), Cond.fieldLink RX6 132 "LocoFramesModel" "at" "I", Cond.fieldLink RX6 135 "LocoFramesModel" "isWell" "Z", Cond.fieldLink RX6 145 "LocoFramesModel" "toldMany" "I", Cond.methodLink RX6 154 yX6_readsOrder, Cond.instanceMethod yX6_readsOrder, Cond.selects RX6 yX6_readsOrder yX6_readsOrder, Cond.code yX6_readsOrder cX6_readsOrder 3 none, Cond.methodLink RX6 139 yX6_sign, Cond.instanceMethod yX6_sign, Cond.selects RX6 yX6_sign yX6_sign, Cond.code yX6_sign cX6_sign 1 (some .int), Cond.methodLink RX6 142 yX6_digit, Cond.instanceMethod yX6_digit, Cond.selects RX6 yX6_digit yX6_digit, Cond.code yX6_digit cX6_digit 3 (some .int), Cond.methodLink RX6 148 yX6_number, Cond.instanceMethod yX6_number, Cond.selects RX6 yX6_number yX6_number, Cond.code yX6_number cX6_number 3 (some .int), Cond.methodLink RX6 151 yX6_wants, Cond.instanceMethod yX6_wants]
def wsL_law_r27 : List Cond := [Cond.selects RX6 yX6_wants yX6_wants, Cond.code yX6_wants cX6_wants 2 none, Cond.methodLink RL 97 yX5_carryOut, Cond.instanceMethod yX5_carryOut, Cond.selects RX5 yX5_carryOut yX5_carryOut, Cond.code yX5_carryOut cX5_carryOut 3 (some .int), Cond.methodLink RX5 175 yX3_rewind, Cond.methodLink RX5 178 yX3_readsOrder, Cond.methodLink RX5 182 yX5_carriesOne, Cond.instanceMethod yX5_carriesOne, Cond.selects RX5 yX5_carriesOne yX5_carriesOne, Cond.code yX5_carriesOne cX5_carriesOne 2 (some .boolean), Cond.fieldLink RX5 192 "LocoFrames$Pad" "kind" "I", Cond.fieldLink RX5 195 "LocoFrames$Pad" "numbers" "[I", Cond.methodLink RX5 185 yX3_reads, Cond.methodLink RL 100 yX6_carryOut, Cond.instanceMethod yX6_carryOut, Cond.selects RX6 yX6_carryOut yX6_carryOut, Cond.code yX6_carryOut cX6_carryOut 2 (some .int), Cond.methodLink RX6 160 yX6_refuses, Cond.instanceMethod yX6_refuses, Cond.selects RX6 yX6_refuses yX6_refuses, Cond.code yX6_refuses cX6_refuses 2 (some .int), Cond.methodLink RX6 163 yX6_does]
def wsL_law_r28 : List Cond := [Cond.instanceMethod yX6_does, Cond.selects RX6 yX6_does yX6_does, Cond.code yX6_does cX6_does 2 none, Cond.methodLink RL 101 yX5_undo, Cond.instanceMethod yX5_undo, Cond.selects RX5 yX5_undo yX5_undo, Cond.code yX5_undo cX5_undo 1 (some .int), Cond.methodLink RX5 188 yX0_takeBack, Cond.instanceMethod yX0_takeBack, Cond.selects RX0 yX0_takeBack yX0_takeBack, Cond.code yX0_takeBack cX0_takeBack 2 (some .int), Cond.methodLink RL 104 yX6_undo, Cond.instanceMethod yX6_undo, Cond.selects RX6 yX6_undo yX6_undo, Cond.code yX6_undo cX6_undo 2 (some .int), Cond.methodLink RL 105 yX5_save, Cond.instanceMethod yX5_save, Cond.selects RX5 yX5_save yX5_save, Cond.code yX5_save cX5_save 2 (some .int), Cond.methodLink RL 108 yX6_save, Cond.instanceMethod yX6_save, Cond.selects RX6 yX6_save yX6_save, Cond.code yX6_save cX6_save 3 (some .int), Cond.methodLink RL 109 yX5_restore]
def wsL_law_r29 : List Cond := [Cond.instanceMethod yX5_restore, Cond.selects RX5 yX5_restore yX5_restore, Cond.code yX5_restore cX5_restore 2 (some .int), Cond.methodLink RL 112 yX6_restore, Cond.instanceMethod yX6_restore, Cond.selects RX6 yX6_restore yX6_restore, Cond.code yX6_restore cX6_restore 3 (some .int)]
def wsL_law : List Cond := (wsL_law_r1 ++ (wsL_law_r2 ++ (wsL_law_r3 ++ (wsL_law_r4 ++ (wsL_law_r5 ++ (wsL_law_r6 ++ (wsL_law_r7 ++ (wsL_law_r8 ++ (wsL_law_r9 ++ (wsL_law_r10 ++ (wsL_law_r11 ++ (wsL_law_r12 ++ (wsL_law_r13 ++ (wsL_law_r14 ++ (wsL_law_r15 ++ (wsL_law_r16 ++ (wsL_law_r17 ++ (wsL_law_r18 ++ (wsL_law_r19 ++ (wsL_law_r20 ++ (wsL_law_r21 ++ (wsL_law_r22 ++ (wsL_law_r23 ++ (wsL_law_r24 ++ (wsL_law_r25 ++ (wsL_law_r26 ++ (wsL_law_r27 ++ (wsL_law_r28 ++ wsL_law_r29)))))))))))))))))))))))))))) ++ wsX50 ++ wsX60 ++ wsX10 ++ wsX00 ++ wsX30 ++ wsX40 ++ wsX20 ++ ([] : List Cond)
theorem inlX0 : ∀ w ∈ wsX00, w ∈ wsL_law := fun _ h => List.mem_append_left _ (List.mem_append_left _ (List.mem_append_left _ (List.mem_append_left _ (List.mem_append_right _ h))))
theorem inlX1 : ∀ w ∈ wsX10, w ∈ wsL_law := fun _ h => List.mem_append_left _ (List.mem_append_left _ (List.mem_append_left _ (List.mem_append_left _ (List.mem_append_left _ (List.mem_append_right _ h)))))
theorem inlX2 : ∀ w ∈ wsX20, w ∈ wsL_law := fun _ h => List.mem_append_left _ (List.mem_append_right _ h)
theorem inlX3 : ∀ w ∈ wsX30, w ∈ wsL_law := fun _ h => List.mem_append_left _ (List.mem_append_left _ (List.mem_append_left _ (List.mem_append_right _ h)))
theorem inlX4 : ∀ w ∈ wsX40, w ∈ wsL_law := fun _ h => List.mem_append_left _ (List.mem_append_left _ (List.mem_append_right _ h))
theorem inlX5 : ∀ w ∈ wsX50, w ∈ wsL_law := fun _ h => List.mem_append_left _ (List.mem_append_left _ (List.mem_append_left _ (List.mem_append_left _ (List.mem_append_left _ (List.mem_append_left _ (List.mem_append_left _ (List.mem_append_right _ h)))))))
theorem inlX6 : ∀ w ∈ wsX60, w ∈ wsL_law := fun _ h => List.mem_append_left _ (List.mem_append_left _ (List.mem_append_left _ (List.mem_append_left _ (List.mem_append_left _ (List.mem_append_left _ (List.mem_append_right _ h))))))
abbrev vwCl : List vw_C := [(RX0, TX0, 3), (RX1, TX1, 10), (RX2, TX2, 11), (RX3, TX3, 6), (RX4, TX4, 4), (RX5, TX5, 6), (RX6, TX6, 13)]
end
section
/-! THE WORLD of this claim: every cell has a name (kind, number); ad gives its address. Kinds: 0 Layout, 1 its row of locos, 2 Station, 3..5 its rows, 6 shortTicks, 7 Loco (8 * layout + number), 8 the class, 9 History, 10 its row, 11 slots, 12 saved, 13 Pad, 14 text, 15 numbers, 16 the reference, 17 s, 18 aside, 19 undos, 20 slots, 21 hasSlot, 22 pad, 23 told -/
abbrev Ii : Type := Nat → Nat → Nat → Int32
abbrev Pm : Type := Nat → Nat → Nat
abbrev Gm : Type := va_G × (Nat → ClassId) × (Nat → Nat → Nat)
def cbK : Nat → Nat
  | 0 => 11
  | 1 => 11
  | 2 => 11
  | 3 => 11
  | 4 => 11
  | 5 => 11
  | 6 => 11
  | 7 => 88
  | 8 => 1
  | 9 => 1
  | 10 => 1
  | 11 => 1
  | 12 => 1
  | 13 => 1
  | 14 => 1
  | 15 => 1
  | 16 => 1
  | 17 => 1
  | 18 => 1
  | 19 => 1
  | 20 => 1
  | 21 => 1
  | 22 => 1
  | 23 => 1
  | _ => 0
def cvv (cy : Nat → ClassId) (ad : Nat → Nat → Nat) (I : Ii) (pm : Pm) (K i : Nat) : va_E := match K with
  | 0 => .inr (1, [.ref (ad 1 i), .ref (ad 2 i), .ref (ad 6 i), .int (I 0 i 3), .int (I 0 i 4), .int (I 0 i 5), .int (I 0 i 6), .int (I 0 i 7), .int (I 0 i 8), .int (I 0 i 9)])
  | 1 => .inl (cy 4, 8, .inr (.inr (.inr (.inr (fun r => some (ad 7 (8 * i + pm i r)))))))
  | 2 => .inr (4, [.ref (ad 3 i), .ref (ad 4 i), .ref (ad 5 i), .int (I 2 i 3)])
  | 3 => .inl (cy 1, 20, .inl (I 3 i))
  | 4 => .inl (cy 1, 20, .inl (I 4 i))
  | 5 => .inl (cy 1, 20, .inl (I 5 i))
  | 6 => .inl (cy 1, 8, .inl (I 6 i))
  | 7 => .inr (2, [.int (I 7 i 0), .int (I 7 i 1), .int (I 7 i 2), .int (I 7 i 3), .int (I 7 i 4), .int (I 7 i 5), .int (I 7 i 6), .int (I 7 i 7), .int (I 7 i 8), .int (I 7 i 9), .int (I 7 i 10)])
  | 8 => .inr (5, [.ref (ad 0 0), .ref (ad 0 1), .ref (ad 9 0), .ref (ad 11 0), .ref (ad 12 0), .ref (ad 13 0)])
  | 9 => .inr (0, [.ref (ad 10 0), .int (I 9 i 1), .int (I 9 i 2)])
  | 10 => .inl (cy 3, 7, .inr (.inr (.inr (.inr (fun r => some (ad 0 (4 + r)))))))
  | 11 => .inl (cy 3, 2, .inr (.inr (.inr (.inr (fun r => some (ad 0 (2 + r)))))))
  | 12 => .inl (cy 2, 2, .inl (I 12 i))
  | 13 => .inr (3, [.ref (ad 14 0), .int (I 13 i 1), .int (I 13 i 2), .int (I 13 i 3), .ref (ad 15 0), .int (I 13 i 5)])
  | 14 => .inl (cy 0, 80, .inl (I 14 i))
  | 15 => .inl (cy 1, 3, .inl (I 15 i))
  | 16 => .inr (6, [.int (I 16 i 0), .ref (ad 17 0), .ref (ad 18 0), .ref (ad 19 0), .int (I 16 i 4), .ref (ad 20 0), .ref (ad 21 0), .ref (ad 22 0), .int (I 16 i 8), .int (I 16 i 9), .int (I 16 i 10), .ref (ad 23 0), .int (I 16 i 12)])
  | 17 => .inl (cy 1, 164, .inl (I 17 i))
  | 18 => .inl (cy 1, 164, .inl (I 18 i))
  | 19 => .inl (cy 1, 984, .inl (I 19 i))
  | 20 => .inl (cy 1, 328, .inl (I 20 i))
  | 21 => .inl (cy 2, 2, .inl (I 21 i))
  | 22 => .inl (cy 1, 80, .inl (I 22 i))
  | 23 => .inl (cy 1, 240, .inl (I 23 i))
  | _ => .inl (cy 1, 0, .inl (fun _ => 0))
def Wd (G : Gm) (I : Ii) (pm : Pm) (H : Heap) : Prop := ∀ K i, i < cbK K → va_at G.1 vwCl (G.2.2 K i, cvv G.2.1 G.2.2 I pm K i) H
def AA (G : Gm) : Nat → Prop := fun q => ∃ K i, i < cbK K ∧ q = G.2.2 K i
def Aj (G : Gm) : Prop := ∀ K i K' i', i < cbK K → i' < cbK K' → G.2.2 K i = G.2.2 K' i' → K = K' ∧ i = i'
def tyz (G : Gm) : List (ClassId × FieldType) := [(G.2.1 0, .char), (G.2.1 1, .int), (G.2.1 2, .boolean), (G.2.1 3, .object "LocoFrames$Layout"), (G.2.1 4, .object "LocoFrames$Loco")]
/-- the links of nest mates: they are no good words, so they are carried beside the tables -/
def NN (U : State) : Prop := va_Nw (.methodLinkNest RX1 64 yX5_within RX5) U ∧ va_Nw (.methodLinkNest RX4 31 yX5_within RX5) U ∧ va_Nw (.methodLinkNest RX1 83 yX5_isBlock RX5) U ∧ va_Nw (.methodLinkNest RX2 45 yX5_curveSpeed RX5) U ∧ va_Nw (.methodLinkNest RX3 31 yX5_within RX5) U
theorem NN.warm {s U : State} (hW : s.WarmedH U.vm) (h : NN s) : NN U := ⟨h.1.warmM hW, h.2.1.warmM hW, h.2.2.1.warmM hW, h.2.2.2.1.warmM hW, h.2.2.2.2.warmM hW⟩
theorem NN.same {s U : State} (hW : s.vm = U.vm) (h : NN s) : NN U := ⟨h.1.same rfl hW, h.2.1.same rfl hW, h.2.2.1.same rfl hW, h.2.2.2.1.same rfl hW, h.2.2.2.2.same rfl hW⟩
def PP (G : Gm) (I : Ii) (pm : Pm) : State → Prop := fun U => Wd G I pm U.heap ∧ va_K G.1 vwCl (tyz G) U ∧ NN U
def up3 (I : Ii) (K i j : Nat) (v : Int32) : Ii := fun a b c => if a = K ∧ b = i ∧ c = j then v else I a b c
def upR (I : Ii) (K i : Nat) (f : Nat → Int32) : Ii := fun a b c => if a = K ∧ b = i then f c else I a b c
def upP (pm : Pm) (k r v : Nat) : Pm := fun a b => if a = k ∧ b = r then v else pm a b
theorem up3_s {I : Ii} {K i j : Nat} {v : Int32} : up3 I K i j v K i j = v := by simp [up3]
theorem up3_n {I : Ii} {K i j a b c : Nat} {v : Int32} (h : ¬ (a = K ∧ b = i ∧ c = j)) : up3 I K i j v a b c = I a b c := by simp [up3, h]
theorem up3_k {I : Ii} {K i j a b c : Nat} {v : Int32} (h : a ≠ K) : up3 I K i j v a b c = I a b c := by simp [up3, h]
theorem upR_s {I : Ii} {K i : Nat} {f : Nat → Int32} : upR I K i f K i = f := by funext c; simp [upR]
theorem upR_n {I : Ii} {K i a b c : Nat} {f : Nat → Int32} (h : ¬ (a = K ∧ b = i)) : upR I K i f a b c = I a b c := by simp [upR, h]
theorem up3_R {I : Ii} {K i j : Nat} {v : Int32} : up3 I K i j v = upR I K i (upd (I K i) j v) := by
  funext a b c
  by_cases h : a = K ∧ b = i
  · obtain ⟨rfl, rfl⟩ := h
    simp [up3, upR, upd]
  · simp only [upR, up3, h, if_false]
    rw [if_neg (fun q => h ⟨q.1, q.2.1⟩)]
theorem cvv_cong {cy : Nat → ClassId} {ad : Nat → Nat → Nat} {I I' : Ii} {pm pm' : Pm} {K i : Nat} (h : ∀ c, I' K i c = I K i c) (hp : K = 1 → ∀ r, pm' i r = pm i r) : cvv cy ad I' pm' K i = cvv cy ad I pm K i := by
  have hf : I' K i = I K i := funext h
  unfold cvv
  split <;> first | (simp only [h]; done) | (simp only [hf]; done) | (simp only [hp rfl]; done) | rfl
theorem Wd.put {G : Gm} {I I' : Ii} {pm pm' : Pm} {H H1 : Heap} {K i : Nat} (h : Wd G I pm H) (hj : Aj G) (hi : i < cbK K) (he : va_at G.1 vwCl (G.2.2 K i, cvv G.2.1 G.2.2 I' pm' K i) H1) (oq : ∀ q : Nat, q ≠ G.2.2 K i → H1[q]? = H[q]?)
    (hc : ∀ a b, ¬ (a = K ∧ b = i) → cvv G.2.1 G.2.2 I' pm' a b = cvv G.2.1 G.2.2 I pm a b) : Wd G I' pm' H1 := by
  intro a b hb
  by_cases hab : a = K ∧ b = i
  · obtain ⟨rfl, rfl⟩ := hab
    exact he
  · rw [hc a b hab]
    exact (h a b hb).kept (oq _ fun q => hab (hj a b K i hb hi q))
theorem Wd.one {G : Gm} {I : Ii} {pm : Pm} {H : Heap} (h : Wd G I pm H) {K i : Nat} (hi : i < cbK K) : va_P G.1 vwCl [(G.2.2 K i, cvv G.2.1 G.2.2 I pm K i)] H := by
  intro k q hk
  cases k with
  | zero => cases hk; exact h K i hi
  | succ k => simp at hk
/-- what a walk of a method holds on to -/
def FX (p : Program) (s : State) (m : MethodId) (args : Array Value) (c : Code) (cc : ByteArray) (nL : Nat) (own : String) (G : Gm) (A : Nat → Prop) : Prop :=
  CallFix p m c cc nL s args wsL_law own ∧ va_K G.1 vwCl (tyz G) s ∧ NN s ∧ Aj G ∧ ∀ K i, i < cbK K → A (G.2.2 K i)
def GG (p : Program) (l : Launch) (e : Env) (R : Room) (s : State) (m : MethodId) (args : Array Value) (below : List Frame) (meth : Method) (c : Code) (G : Gm) (A : Nat → Prop) (nL ce sl : Nat) (Q : State → Prop) (I : Ii) (pm : Pm) (L : List (Nat × Value)) (pc : Nat) (st : List Value) : Prop :=
  ∀ (H : Heap) (locs : List Loc) (ls : Array Slot), Wd G I pm H → va_S A s.heap H locs → lv_has ls nL L → W p l e R s m args below meth c H locs ce sl Q (F0 m pc ls st)
def bz (c : Prop) [Decidable c] : Int32 := if c then 1 else 0
theorem bz_0 {c : Prop} [Decidable c] : bz c = 0 ↔ ¬ c := by unfold bz; split <;> simp_all
theorem bz_1 {c : Prop} [Decidable c] : bz c = 1 ↔ c := by unfold bz; split <;> simp_all
theorem bz_n {c : Prop} [Decidable c] : ¬ bz c = 0 ↔ c := by unfold bz; split <;> simp_all
def wz (y : MethodName) (b : ByteArray) (n : Nat) (r : Option FieldType) : List Cond := Cond.code y b n r :: wsL_law
def rmL (d : Nat) : Room := { frames := d, cells := 0, slots := 0, locals := 27 * d }
/-- contracts: an int, nothing, a loco or null -/
def CI (l : Launch) (G : Gm) (y : MethodName) (ws : List Cond) (rm : Room) (av : List Value) (I : Ii) (pm : Pm) (post : Int32 → Ii × Pm → Prop) : Prop := Met l y ws rm (va_Pc av (PP G I pm)) (va_Qi post (fun u t => Wd G u.1 u.2 t.heap) (AA G)) 0 0 (AA G)
def CV (l : Launch) (G : Gm) (y : MethodName) (ws : List Cond) (rm : Room) (av : List Value) (I : Ii) (pm : Pm) (post : Ii × Pm → Prop) : Prop := Met l y ws rm (va_Pc av (PP G I pm)) (va_Qv post (fun u t => Wd G u.1 u.2 t.heap) (AA G)) 0 0 (AA G)
def CQ (l : Launch) (G : Gm) (y : MethodName) (ws : List Cond) (rm : Room) (av : List Value) (I : Ii) (pm : Pm) (post : Option Nat → Ii × Pm → Prop) : Prop := Met l y ws rm (va_Pc av (PP G I pm)) (va_Qq post (fun u t => Wd G u.1 u.2 t.heap) (AA G)) 0 0 (AA G)
theorem PP.blind {G : Gm} {I : Ii} {pm : Pm} {av : List Value} : FrameBlind (va_Pc av (PP G I pm)) := fun a U g mk q => ⟨q.1, q.2.1, va_K.moved (u := U) (U := U.calling g mk a) (Vm.Alike.refl U.vm) q.2.2.1, NN.same rfl q.2.2.2⟩
section BASE
variable {p : Program} {l : Launch} {e : Env} {R : Room} {s : State} {m : MethodId} {args : Array Value} {below : List Frame} {meth : Method} {c : Code} {G : Gm} {A : Nat → Prop} {nL ce sl : Nat} {Q : State → Prop} {I : Ii} {pm : Pm} {L : List (Nat × Value)} {pc : Nat} {st rest : List Value} {cc : ByteArray} {own : String}
theorem FX.w (F : FX p s m args c cc nL own G A) {w : Cond} (h : w ∈ wsL_law) : w.before args s = true := F.1.2.2.2.2 w h
theorem g_iconst (F : FX p s m args c cc nL own G A) {n : Int} {v : Int32} (hd : decode cc pc = .ok (.iconst n, 1)) (hv : Int32.ofInt n = v) (k : GG p l e R s m args below meth c G A nL ce sl Q I pm L (pc + 1) (.int v :: st)) : GG p l e R s m args below meth c G A nL ce sl Q I pm L pc st := fun H locs ls h1 h2 h3 => lv_iconst F.1.1 F.1.2.1 hd hv (k H locs ls h1 h2 h3)
theorem g_bipush (F : FX p s m args c cc nL own G A) {n : Int} {v : Int32} (hd : decode cc pc = .ok (.bipush n, 2)) (hv : (Int8.ofInt n).toInt32 = v) (k : GG p l e R s m args below meth c G A nL ce sl Q I pm L (pc + 2) (.int v :: st)) : GG p l e R s m args below meth c G A nL ce sl Q I pm L pc st := fun H locs ls h1 h2 h3 => lv_bipush F.1.1 F.1.2.1 hd hv (k H locs ls h1 h2 h3)
theorem g_sipush (F : FX p s m args c cc nL own G A) {n : Int} {v : Int32} (hd : decode cc pc = .ok (.sipush n, 3)) (hv : (Int16.ofInt n).toInt32 = v) (k : GG p l e R s m args below meth c G A nL ce sl Q I pm L (pc + 3) (.int v :: st)) : GG p l e R s m args below meth c G A nL ce sl Q I pm L pc st := fun H locs ls h1 h2 h3 => lv_sipush F.1.1 F.1.2.1 hd hv (k H locs ls h1 h2 h3)
theorem g_lconst (F : FX p s m args c cc nL own G A) {n : Fin 2} {v : Int64} (hd : decode cc pc = .ok (.lconst n, 1)) (hv : Int64.ofNat (n : Nat) = v) (k : GG p l e R s m args below meth c G A nL ce sl Q I pm L (pc + 1) (.long v :: st)) : GG p l e R s m args below meth c G A nL ce sl Q I pm L pc st := fun H locs ls h1 h2 h3 => lv_lconst F.1.1 F.1.2.1 hd hv (k H locs ls h1 h2 h3)
theorem g_ldc (F : FX p s m args c cc nL own G A) {index : Nat} {v : Int32} (hw : Jvm.Cond.constant own index v ∈ wsL_law) (hd : decode cc pc = .ok (.ldc index, 2)) (k : GG p l e R s m args below meth c G A nL ce sl Q I pm L (pc + 2) (.int v :: st)) : GG p l e R s m args below meth c G A nL ce sl Q I pm L pc st := fun H locs ls h1 h2 h3 => lv_ldc F.1.1 F.1.2.1 F.1.2.2.2.1 (F.w hw) hd (k H locs ls h1 h2 h3)
theorem g_ldc2 (F : FX p s m args c cc nL own G A) {index : Nat} {v : Int64} (hw : Jvm.Cond.constantLong own index v ∈ wsL_law) (hd : decode cc pc = .ok (.ldc2_w index, 3)) (k : GG p l e R s m args below meth c G A nL ce sl Q I pm L (pc + 3) (.long v :: st)) : GG p l e R s m args below meth c G A nL ce sl Q I pm L pc st := fun H locs ls h1 h2 h3 => lv_ldc2 F.1.1 F.1.2.1 F.1.2.2.2.1 (F.w hw) hd (k H locs ls h1 h2 h3)
theorem g_iload_n (F : FX p s m args c cc nL own G A) {k : Fin 4} {i : Nat} {x : Int32} (j : Nat) (hd : decode cc pc = .ok (.iload_n k, 1)) (hi : (k : Nat) = i) (hl : L[j]? = some (i, .int x)) (kk : GG p l e R s m args below meth c G A nL ce sl Q I pm L (pc + 1) (.int x :: st)) : GG p l e R s m args below meth c G A nL ce sl Q I pm L pc st := fun H locs ls h1 h2 h3 => lv_iload_n F.1.1 F.1.2.1 hd hi (lv_at h3 j hl) (kk H locs ls h1 h2 h3)
theorem g_iload (F : FX p s m args c cc nL own G A) {i : Nat} {x : Int32} (j : Nat) (hd : decode cc pc = .ok (.iload i, 2)) (hl : L[j]? = some (i, .int x)) (kk : GG p l e R s m args below meth c G A nL ce sl Q I pm L (pc + 2) (.int x :: st)) : GG p l e R s m args below meth c G A nL ce sl Q I pm L pc st := fun H locs ls h1 h2 h3 => lv_iload F.1.1 F.1.2.1 hd (lv_at h3 j hl) (kk H locs ls h1 h2 h3)
theorem g_lload_n (F : FX p s m args c cc nL own G A) {k : Fin 4} {i : Nat} {x : Int64} (j : Nat) (hd : decode cc pc = .ok (.lload_n k, 1)) (hi : (k : Nat) = i) (hl : L[j]? = some (i, .long x)) (kk : GG p l e R s m args below meth c G A nL ce sl Q I pm L (pc + 1) (.long x :: st)) : GG p l e R s m args below meth c G A nL ce sl Q I pm L pc st := fun H locs ls h1 h2 h3 => lv_lload_n F.1.1 F.1.2.1 hd hi (lv_at h3 j hl) (kk H locs ls h1 h2 h3)
theorem g_lload (F : FX p s m args c cc nL own G A) {i : Nat} {x : Int64} (j : Nat) (hd : decode cc pc = .ok (.lload i, 2)) (hl : L[j]? = some (i, .long x)) (kk : GG p l e R s m args below meth c G A nL ce sl Q I pm L (pc + 2) (.long x :: st)) : GG p l e R s m args below meth c G A nL ce sl Q I pm L pc st := fun H locs ls h1 h2 h3 => lv_lload F.1.1 F.1.2.1 hd (lv_at h3 j hl) (kk H locs ls h1 h2 h3)
theorem g_aload_n (F : FX p s m args c cc nL own G A) {k : Fin 4} {i x : Nat} (j : Nat) (hd : decode cc pc = .ok (.aload_n k, 1)) (hi : (k : Nat) = i) (hl : L[j]? = some (i, .ref x)) (kk : GG p l e R s m args below meth c G A nL ce sl Q I pm L (pc + 1) (.ref x :: st)) : GG p l e R s m args below meth c G A nL ce sl Q I pm L pc st := fun H locs ls h1 h2 h3 => lv_aload_n F.1.1 F.1.2.1 hd hi (lv_at h3 j hl) (kk H locs ls h1 h2 h3)
theorem g_aload (F : FX p s m args c cc nL own G A) {i x : Nat} (j : Nat) (hd : decode cc pc = .ok (.aload i, 2)) (hl : L[j]? = some (i, .ref x)) (kk : GG p l e R s m args below meth c G A nL ce sl Q I pm L (pc + 2) (.ref x :: st)) : GG p l e R s m args below meth c G A nL ce sl Q I pm L pc st := fun H locs ls h1 h2 h3 => lv_aload F.1.1 F.1.2.1 hd (lv_at h3 j hl) (kk H locs ls h1 h2 h3)
theorem g_istore_n (F : FX p s m args c cc nL own G A) {k : Fin 4} {i : Nat} {x : Int32} {L' : List (Nat × Value)} (hd : decode cc pc = .ok (.istore_n k, 1)) (hi : (k : Nat) = i) (hn : i < nL) (hl : (i, Value.int x) :: L.filter (fun q => !(q.1 == i) && !(q.1 + 1 == i && q.2.category == 2)) = L') (kk : GG p l e R s m args below meth c G A nL ce sl Q I pm L' (pc + 1) rest) : GG p l e R s m args below meth c G A nL ce sl Q I pm L pc (.int x :: rest) := fun H locs ls h1 h2 h3 => lv_istore_n F.1.1 F.1.2.1 hd hi h3 hn hl (fun ls' h' => kk H locs ls' h1 h2 h')
theorem g_istore (F : FX p s m args c cc nL own G A) {i : Nat} {x : Int32} {L' : List (Nat × Value)} (hd : decode cc pc = .ok (.istore i, 2)) (hn : i < nL) (hl : (i, Value.int x) :: L.filter (fun q => !(q.1 == i) && !(q.1 + 1 == i && q.2.category == 2)) = L') (kk : GG p l e R s m args below meth c G A nL ce sl Q I pm L' (pc + 2) rest) : GG p l e R s m args below meth c G A nL ce sl Q I pm L pc (.int x :: rest) := fun H locs ls h1 h2 h3 => lv_istore F.1.1 F.1.2.1 hd h3 hn hl (fun ls' h' => kk H locs ls' h1 h2 h')
theorem g_astore_n (F : FX p s m args c cc nL own G A) {k : Fin 4} {i : Nat} {x : Nat} {L' : List (Nat × Value)} (hd : decode cc pc = .ok (.astore_n k, 1)) (hi : (k : Nat) = i) (hn : i < nL) (hl : (i, Value.ref x) :: L.filter (fun q => !(q.1 == i) && !(q.1 + 1 == i && q.2.category == 2)) = L') (kk : GG p l e R s m args below meth c G A nL ce sl Q I pm L' (pc + 1) rest) : GG p l e R s m args below meth c G A nL ce sl Q I pm L pc (.ref x :: rest) := fun H locs ls h1 h2 h3 => lv_astore_n F.1.1 F.1.2.1 hd hi h3 hn hl (fun ls' h' => kk H locs ls' h1 h2 h')
theorem g_astore (F : FX p s m args c cc nL own G A) {i : Nat} {x : Nat} {L' : List (Nat × Value)} (hd : decode cc pc = .ok (.astore i, 2)) (hn : i < nL) (hl : (i, Value.ref x) :: L.filter (fun q => !(q.1 == i) && !(q.1 + 1 == i && q.2.category == 2)) = L') (kk : GG p l e R s m args below meth c G A nL ce sl Q I pm L' (pc + 2) rest) : GG p l e R s m args below meth c G A nL ce sl Q I pm L pc (.ref x :: rest) := fun H locs ls h1 h2 h3 => lv_astore F.1.1 F.1.2.1 hd h3 hn hl (fun ls' h' => kk H locs ls' h1 h2 h')
theorem g_astore_nN (F : FX p s m args c cc nL own G A) {k : Fin 4} {i : Nat} {L' : List (Nat × Value)} (hd : decode cc pc = .ok (.astore_n k, 1)) (hi : (k : Nat) = i) (hn : i < nL) (hl : (i, Value.null) :: L.filter (fun q => !(q.1 == i) && !(q.1 + 1 == i && q.2.category == 2)) = L') (kk : GG p l e R s m args below meth c G A nL ce sl Q I pm L' (pc + 1) rest) : GG p l e R s m args below meth c G A nL ce sl Q I pm L pc (.null :: rest) := fun H locs ls h1 h2 h3 => lv_astore_nN F.1.1 F.1.2.1 hd hi h3 hn hl (fun ls' h' => kk H locs ls' h1 h2 h')
theorem g_astoreN (F : FX p s m args c cc nL own G A) {i : Nat} {L' : List (Nat × Value)} (hd : decode cc pc = .ok (.astore i, 2)) (hn : i < nL) (hl : (i, Value.null) :: L.filter (fun q => !(q.1 == i) && !(q.1 + 1 == i && q.2.category == 2)) = L') (kk : GG p l e R s m args below meth c G A nL ce sl Q I pm L' (pc + 2) rest) : GG p l e R s m args below meth c G A nL ce sl Q I pm L pc (.null :: rest) := fun H locs ls h1 h2 h3 => lv_astoreN F.1.1 F.1.2.1 hd h3 hn hl (fun ls' h' => kk H locs ls' h1 h2 h')
theorem g_aload_nN (F : FX p s m args c cc nL own G A) {k : Fin 4} {i : Nat} (j : Nat) (hd : decode cc pc = .ok (.aload_n k, 1)) (hi : (k : Nat) = i) (hl : L[j]? = some (i, .null)) (kk : GG p l e R s m args below meth c G A nL ce sl Q I pm L (pc + 1) (.null :: st)) : GG p l e R s m args below meth c G A nL ce sl Q I pm L pc st := fun H locs ls h1 h2 h3 => lv_aload_nN F.1.1 F.1.2.1 hd hi (lv_at h3 j hl) (kk H locs ls h1 h2 h3)
theorem g_aloadN (F : FX p s m args c cc nL own G A) {i : Nat} (j : Nat) (hd : decode cc pc = .ok (.aload i, 2)) (hl : L[j]? = some (i, .null)) (kk : GG p l e R s m args below meth c G A nL ce sl Q I pm L (pc + 2) (.null :: st)) : GG p l e R s m args below meth c G A nL ce sl Q I pm L pc st := fun H locs ls h1 h2 h3 => lv_aloadN F.1.1 F.1.2.1 hd (lv_at h3 j hl) (kk H locs ls h1 h2 h3)
theorem g_lstore (F : FX p s m args c cc nL own G A) {i : Nat} {x : Int64} {L' : List (Nat × Value)} (hd : decode cc pc = .ok (.lstore i, 2)) (hn : i + 1 < nL) (hl : (i, Value.long x) :: L.filter (fun q => !(q.1 == i) && (!(q.1 == i + 1) && !(q.1 + 1 == i && q.2.category == 2))) = L') (kk : GG p l e R s m args below meth c G A nL ce sl Q I pm L' (pc + 2) rest) : GG p l e R s m args below meth c G A nL ce sl Q I pm L pc (.long x :: rest) := fun H locs ls h1 h2 h3 => lv_lstore F.1.1 F.1.2.1 hd h3 hn hl (fun ls' h' => kk H locs ls' h1 h2 h')
theorem g_iinc (F : FX p s m args c cc nL own G A) {i : Nat} {n : Int} {x v : Int32} {L' : List (Nat × Value)} (j : Nat) (hd : decode cc pc = .ok (.iinc i n, 3)) (hk : L[j]? = some (i, .int x)) (hv : x + Int32.ofInt n = v) (hn : i < nL) (hl : (i, Value.int v) :: L.filter (fun q => !(q.1 == i) && !(q.1 + 1 == i && q.2.category == 2)) = L') (kk : GG p l e R s m args below meth c G A nL ce sl Q I pm L' (pc + 3) st) : GG p l e R s m args below meth c G A nL ce sl Q I pm L pc st := fun H locs ls h1 h2 h3 => lv_iinc F.1.1 F.1.2.1 hd h3 hk hv hn hl (fun ls' h' => kk H locs ls' h1 h2 h')
theorem g_topi {x : Int32} (k : ∀ y : Int32, y = x → GG p l e R s m args below meth c G A nL ce sl Q I pm L pc (.int y :: rest)) : GG p l e R s m args below meth c G A nL ce sl Q I pm L pc (.int x :: rest) := k x rfl
theorem g_eqi {x y : Int32} (h : x = y) (k : GG p l e R s m args below meth c G A nL ce sl Q I pm L pc (.int y :: rest)) : GG p l e R s m args below meth c G A nL ce sl Q I pm L pc (.int x :: rest) := h ▸ k
theorem g_sub {L' : List (Nat × Value)} (ks : List Nat) (hl : lv_pick L ks = L') (k : GG p l e R s m args below meth c G A nL ce sl Q I pm L' pc st) : GG p l e R s m args below meth c G A nL ce sl Q I pm L pc st := fun H locs ls h1 h2 h3 => k H locs ls h1 h2 (lv_sub h3 ks hl)
theorem g_I {I' : Ii} (h : I = I') (k : GG p l e R s m args below meth c G A nL ce sl Q I' pm L pc st) : GG p l e R s m args below meth c G A nL ce sl Q I pm L pc st := h ▸ k
theorem g_tern1 {x : Int32} (q : Prop) [Decidable q] (a b : Int32) (pcJ : Nat) (hbr : (q → GG p l e R s m args below meth c G A nL ce sl Q I pm L pcJ (.int a :: rest)) → (¬ q → GG p l e R s m args below meth c G A nL ce sl Q I pm L pcJ (.int b :: rest)) → GG p l e R s m args below meth c G A nL ce sl Q I pm L pc (.int x :: rest)) (kk : GG p l e R s m args below meth c G A nL ce sl Q I pm L pcJ (.int (if q then a else b) :: rest)) : GG p l e R s m args below meth c G A nL ce sl Q I pm L pc (.int x :: rest) :=
  hbr (fun h => by rw [if_pos h] at kk; exact kk) (fun h => by rw [if_neg h] at kk; exact kk)
theorem g_tern2 {x y : Int32} (q : Prop) [Decidable q] (a b : Int32) (pcJ : Nat) (hbr : (q → GG p l e R s m args below meth c G A nL ce sl Q I pm L pcJ (.int a :: rest)) → (¬ q → GG p l e R s m args below meth c G A nL ce sl Q I pm L pcJ (.int b :: rest)) → GG p l e R s m args below meth c G A nL ce sl Q I pm L pc (.int y :: .int x :: rest)) (kk : GG p l e R s m args below meth c G A nL ce sl Q I pm L pcJ (.int (if q then a else b) :: rest)) : GG p l e R s m args below meth c G A nL ce sl Q I pm L pc (.int y :: .int x :: rest) :=
  hbr (fun h => by rw [if_pos h] at kk; exact kk) (fun h => by rw [if_neg h] at kk; exact kk)
theorem g_goto (F : FX p s m args c cc nL own G A) {off : Int} (tgt : Nat) (hd : decode cc pc = .ok (.goto off, 3)) (ht : (pc : Int) + off = (tgt : Int)) (k : GG p l e R s m args below meth c G A nL ce sl Q I pm L tgt st) : GG p l e R s m args below meth c G A nL ce sl Q I pm L pc st := fun H locs ls h1 h2 h3 => lv_goto F.1.1 F.1.2.1 hd ht (k H locs ls h1 h2 h3)
theorem g_dup (F : FX p s m args c cc nL own G A) {v : Value} (hd : decode cc pc = .ok (.dup, 1)) (hv : v.category = 1) (k : GG p l e R s m args below meth c G A nL ce sl Q I pm L (pc + 1) (v :: v :: rest)) : GG p l e R s m args below meth c G A nL ce sl Q I pm L pc (v :: rest) := fun H locs ls h1 h2 h3 => lv_dup F.1.1 F.1.2.1 hd hv (k H locs ls h1 h2 h3)
theorem g_dup2 (F : FX p s m args c cc nL own G A) {v w : Value} (hd : decode cc pc = .ok (.dup2, 1)) (hv : v.category = 1) (hw : w.category = 1) (k : GG p l e R s m args below meth c G A nL ce sl Q I pm L (pc + 1) (v :: w :: v :: w :: rest)) : GG p l e R s m args below meth c G A nL ce sl Q I pm L pc (v :: w :: rest) := fun H locs ls h1 h2 h3 => lv_dup2_11 F.1.1 F.1.2.1 hd hv hw (k H locs ls h1 h2 h3)
theorem g_pop (F : FX p s m args c cc nL own G A) {v : Value} (hd : decode cc pc = .ok (.pop, 1)) (hv : v.category = 1) (k : GG p l e R s m args below meth c G A nL ce sl Q I pm L (pc + 1) rest) : GG p l e R s m args below meth c G A nL ce sl Q I pm L pc (v :: rest) := fun H locs ls h1 h2 h3 => lv_pop F.1.1 F.1.2.1 hd hv (k H locs ls h1 h2 h3)
theorem g_null (F : FX p s m args c cc nL own G A) (hd : decode cc pc = .ok (.aconst_null, 1)) (k : GG p l e R s m args below meth c G A nL ce sl Q I pm L (pc + 1) (.null :: st)) : GG p l e R s m args below meth c G A nL ce sl Q I pm L pc st := fun H locs ls h1 h2 h3 => lv_null F.1.1 F.1.2.1 hd (k H locs ls h1 h2 h3)
theorem g_ifnull (F : FX p s m args c cc nL own G A) {x : Nat} {off : Int} (hd : decode cc pc = .ok (.ifnull off, 3)) (k : GG p l e R s m args below meth c G A nL ce sl Q I pm L (pc + 3) rest) : GG p l e R s m args below meth c G A nL ce sl Q I pm L pc (.ref x :: rest) := fun H locs ls h1 h2 h3 => lv_ifnull F.1.1 F.1.2.1 hd (k H locs ls h1 h2 h3)
theorem g_ifnullN (F : FX p s m args c cc nL own G A) {off : Int} (tgt : Nat) (hd : decode cc pc = .ok (.ifnull off, 3)) (ht : (pc : Int) + off = (tgt : Int)) (k : GG p l e R s m args below meth c G A nL ce sl Q I pm L tgt rest) : GG p l e R s m args below meth c G A nL ce sl Q I pm L pc (.null :: rest) := fun H locs ls h1 h2 h3 => lv_ifnullN F.1.1 F.1.2.1 hd ht (k H locs ls h1 h2 h3)
theorem g_ifnonnull (F : FX p s m args c cc nL own G A) {x : Nat} {off : Int} (tgt : Nat) (hd : decode cc pc = .ok (.ifnonnull off, 3)) (ht : (pc : Int) + off = (tgt : Int)) (k : GG p l e R s m args below meth c G A nL ce sl Q I pm L tgt rest) : GG p l e R s m args below meth c G A nL ce sl Q I pm L pc (.ref x :: rest) := fun H locs ls h1 h2 h3 => lv_ifnonnull F.1.1 F.1.2.1 hd ht (k H locs ls h1 h2 h3)
theorem g_ifnonnullN (F : FX p s m args c cc nL own G A) {off : Int} (hd : decode cc pc = .ok (.ifnonnull off, 3)) (k : GG p l e R s m args below meth c G A nL ce sl Q I pm L (pc + 3) rest) : GG p l e R s m args below meth c G A nL ce sl Q I pm L pc (.null :: rest) := fun H locs ls h1 h2 h3 => lv_ifnonnullN F.1.1 F.1.2.1 hd (k H locs ls h1 h2 h3)
theorem g_iadd (F : FX p s m args c cc nL own G A) {x y : Int32} (hd : decode cc pc = .ok (.iadd, 1)) (k : GG p l e R s m args below meth c G A nL ce sl Q I pm L (pc + 1) (.int (x + y) :: rest)) : GG p l e R s m args below meth c G A nL ce sl Q I pm L pc (.int y :: .int x :: rest) := fun H locs ls h1 h2 h3 => lv_iadd F.1.1 F.1.2.1 hd (k H locs ls h1 h2 h3)
theorem g_isub (F : FX p s m args c cc nL own G A) {x y : Int32} (hd : decode cc pc = .ok (.isub, 1)) (k : GG p l e R s m args below meth c G A nL ce sl Q I pm L (pc + 1) (.int (x - y) :: rest)) : GG p l e R s m args below meth c G A nL ce sl Q I pm L pc (.int y :: .int x :: rest) := fun H locs ls h1 h2 h3 => lv_isub F.1.1 F.1.2.1 hd (k H locs ls h1 h2 h3)
theorem g_imul (F : FX p s m args c cc nL own G A) {x y : Int32} (hd : decode cc pc = .ok (.imul, 1)) (k : GG p l e R s m args below meth c G A nL ce sl Q I pm L (pc + 1) (.int (x * y) :: rest)) : GG p l e R s m args below meth c G A nL ce sl Q I pm L pc (.int y :: .int x :: rest) := fun H locs ls h1 h2 h3 => lv_imul F.1.1 F.1.2.1 hd (k H locs ls h1 h2 h3)
theorem g_iand (F : FX p s m args c cc nL own G A) {x y : Int32} (hd : decode cc pc = .ok (.iand, 1)) (k : GG p l e R s m args below meth c G A nL ce sl Q I pm L (pc + 1) (.int (x &&& y) :: rest)) : GG p l e R s m args below meth c G A nL ce sl Q I pm L pc (.int y :: .int x :: rest) := fun H locs ls h1 h2 h3 => lv_iand F.1.1 F.1.2.1 hd (k H locs ls h1 h2 h3)
theorem g_ior (F : FX p s m args c cc nL own G A) {x y : Int32} (hd : decode cc pc = .ok (.ior, 1)) (k : GG p l e R s m args below meth c G A nL ce sl Q I pm L (pc + 1) (.int (x ||| y) :: rest)) : GG p l e R s m args below meth c G A nL ce sl Q I pm L pc (.int y :: .int x :: rest) := fun H locs ls h1 h2 h3 => lv_ior F.1.1 F.1.2.1 hd (k H locs ls h1 h2 h3)
theorem g_ixor (F : FX p s m args c cc nL own G A) {x y : Int32} (hd : decode cc pc = .ok (.ixor, 1)) (k : GG p l e R s m args below meth c G A nL ce sl Q I pm L (pc + 1) (.int (x ^^^ y) :: rest)) : GG p l e R s m args below meth c G A nL ce sl Q I pm L pc (.int y :: .int x :: rest) := fun H locs ls h1 h2 h3 => lv_ixor F.1.1 F.1.2.1 hd (k H locs ls h1 h2 h3)
theorem g_idiv (F : FX p s m args c cc nL own G A) {x y : Int32} (hd : decode cc pc = .ok (.idiv, 1)) (hne : ¬ y = 0) (k : GG p l e R s m args below meth c G A nL ce sl Q I pm L (pc + 1) (.int (x / y) :: rest)) : GG p l e R s m args below meth c G A nL ce sl Q I pm L pc (.int y :: .int x :: rest) := fun H locs ls h1 h2 h3 => lv_idiv F.1.1 F.1.2.1 hd hne (k H locs ls h1 h2 h3)
theorem irem_eq (x y : Int32) : x - x / y * y = x % y := by
  apply Int32.toInt_inj.mp
  have h := Int32.toInt_bmod_size (x % y)
  rw [← h, Int32.toInt_sub, Int32.toInt_mul, Int32.toInt_div, Int32.toInt_mod, Int.bmod_mul_bmod, Int.sub_bmod_bmod, Int.tmod_def, Int.mul_comm]
theorem g_irem (F : FX p s m args c cc nL own G A) {x y : Int32} (hd : decode cc pc = .ok (.irem, 1)) (hne : ¬ y = 0) (k : GG p l e R s m args below meth c G A nL ce sl Q I pm L (pc + 1) (.int (x % y) :: rest)) : GG p l e R s m args below meth c G A nL ce sl Q I pm L pc (.int y :: .int x :: rest) := fun H locs ls h1 h2 h3 => lv_irem F.1.1 F.1.2.1 hd hne (by rw [irem_eq]; exact k H locs ls h1 h2 h3)
theorem g_ineg (F : FX p s m args c cc nL own G A) {x : Int32} (hd : decode cc pc = .ok (.ineg, 1)) (k : GG p l e R s m args below meth c G A nL ce sl Q I pm L (pc + 1) (.int (-x) :: rest)) : GG p l e R s m args below meth c G A nL ce sl Q I pm L pc (.int x :: rest) := fun H locs ls h1 h2 h3 => lv_ineg F.1.1 F.1.2.1 hd (k H locs ls h1 h2 h3)
theorem g_i2l (F : FX p s m args c cc nL own G A) {x : Int32} (hd : decode cc pc = .ok (.i2l, 1)) (k : GG p l e R s m args below meth c G A nL ce sl Q I pm L (pc + 1) (.long x.toInt64 :: rest)) : GG p l e R s m args below meth c G A nL ce sl Q I pm L pc (.int x :: rest) := fun H locs ls h1 h2 h3 => lv_i2l F.1.1 F.1.2.1 hd rfl (k H locs ls h1 h2 h3)
theorem g_l2i (F : FX p s m args c cc nL own G A) {x : Int64} (hd : decode cc pc = .ok (.l2i, 1)) (k : GG p l e R s m args below meth c G A nL ce sl Q I pm L (pc + 1) (.int x.toInt32 :: rest)) : GG p l e R s m args below meth c G A nL ce sl Q I pm L pc (.long x :: rest) := fun H locs ls h1 h2 h3 => lv_l2i F.1.1 F.1.2.1 hd rfl (k H locs ls h1 h2 h3)
theorem g_i2c (F : FX p s m args c cc nL own G A) {x : Int32} (hd : decode cc pc = .ok (.i2c, 1)) (k : GG p l e R s m args below meth c G A nL ce sl Q I pm L (pc + 1) (.int (x.toUInt32 % 65536).toInt32 :: rest)) : GG p l e R s m args below meth c G A nL ce sl Q I pm L pc (.int x :: rest) := fun H locs ls h1 h2 h3 => lv_i2c F.1.1 F.1.2.1 hd rfl (k H locs ls h1 h2 h3)
theorem g_lushr (F : FX p s m args c cc nL own G A) {x : Int64} {y : Int32} (hd : decode cc pc = .ok (.lushr, 1)) (k : GG p l e R s m args below meth c G A nL ce sl Q I pm L (pc + 1) (.long (x.toUInt64 >>> (y.toInt64.toUInt64 &&& Int64.toUInt64 63)).toInt64 :: rest)) : GG p l e R s m args below meth c G A nL ce sl Q I pm L pc (.int y :: .long x :: rest) := fun H locs ls h1 h2 h3 => lv_lushr F.1.1 F.1.2.1 hd rfl (k H locs ls h1 h2 h3)
theorem g_lshl (F : FX p s m args c cc nL own G A) {x : Int64} {y : Int32} (hd : decode cc pc = .ok (.lshl, 1)) (k : GG p l e R s m args below meth c G A nL ce sl Q I pm L (pc + 1) (.long (x <<< (y.toInt64 &&& 63)) :: rest)) : GG p l e R s m args below meth c G A nL ce sl Q I pm L pc (.int y :: .long x :: rest) := fun H locs ls h1 h2 h3 => lv_lshl F.1.1 F.1.2.1 hd rfl (k H locs ls h1 h2 h3)
theorem g_land (F : FX p s m args c cc nL own G A) {x y : Int64} (hd : decode cc pc = .ok (.land, 1)) (k : GG p l e R s m args below meth c G A nL ce sl Q I pm L (pc + 1) (.long (x &&& y) :: rest)) : GG p l e R s m args below meth c G A nL ce sl Q I pm L pc (.long y :: .long x :: rest) := fun H locs ls h1 h2 h3 => lv_land F.1.1 F.1.2.1 hd (k H locs ls h1 h2 h3)
theorem g_lor (F : FX p s m args c cc nL own G A) {x y : Int64} (hd : decode cc pc = .ok (.lor, 1)) (k : GG p l e R s m args below meth c G A nL ce sl Q I pm L (pc + 1) (.long (x ||| y) :: rest)) : GG p l e R s m args below meth c G A nL ce sl Q I pm L pc (.long y :: .long x :: rest) := fun H locs ls h1 h2 h3 => lv_lor F.1.1 F.1.2.1 hd (k H locs ls h1 h2 h3)
theorem g_lcmp (F : FX p s m args c cc nL own G A) {x y : Int64} (hd : decode cc pc = .ok (.lcmp, 1)) (k : GG p l e R s m args below meth c G A nL ce sl Q I pm L (pc + 1) (.int (lg_cmp x y) :: rest)) : GG p l e R s m args below meth c G A nL ce sl Q I pm L pc (.long y :: .long x :: rest) := fun H locs ls h1 h2 h3 => W.lcmp F.1.1 F.1.2.1 hd (k H locs ls h1 h2 h3)
theorem g_if_eq (F : FX p s m args c cc nL own G A) {x : Int32} {off : Int} (tgt : Nat) (hd : decode cc pc = .ok (.ifCond .eq off, 3)) (ht : (pc : Int) + off = (tgt : Int)) (kt : x = 0 → GG p l e R s m args below meth c G A nL ce sl Q I pm L tgt rest) (kf : ¬ x = 0 → GG p l e R s m args below meth c G A nL ce sl Q I pm L (pc + 3) rest) : GG p l e R s m args below meth c G A nL ce sl Q I pm L pc (.int x :: rest) := fun H locs ls h1 h2 h3 => lv_if_eq F.1.1 F.1.2.1 hd ht (fun q => kt q H locs ls h1 h2 h3) (fun q => kf q H locs ls h1 h2 h3)
theorem g_icmp_eq (F : FX p s m args c cc nL own G A) {x y : Int32} {off : Int} (tgt : Nat) (hd : decode cc pc = .ok (.if_icmp .eq off, 3)) (ht : (pc : Int) + off = (tgt : Int)) (kt : x = y → GG p l e R s m args below meth c G A nL ce sl Q I pm L tgt rest) (kf : ¬ x = y → GG p l e R s m args below meth c G A nL ce sl Q I pm L (pc + 3) rest) : GG p l e R s m args below meth c G A nL ce sl Q I pm L pc (.int y :: .int x :: rest) := fun H locs ls h1 h2 h3 => lv_icmp_eq F.1.1 F.1.2.1 hd ht (fun q => kt q H locs ls h1 h2 h3) (fun q => kf q H locs ls h1 h2 h3)
theorem g_if_ne (F : FX p s m args c cc nL own G A) {x : Int32} {off : Int} (tgt : Nat) (hd : decode cc pc = .ok (.ifCond .ne off, 3)) (ht : (pc : Int) + off = (tgt : Int)) (kt : ¬ x = 0 → GG p l e R s m args below meth c G A nL ce sl Q I pm L tgt rest) (kf : x = 0 → GG p l e R s m args below meth c G A nL ce sl Q I pm L (pc + 3) rest) : GG p l e R s m args below meth c G A nL ce sl Q I pm L pc (.int x :: rest) := fun H locs ls h1 h2 h3 => lv_if_ne F.1.1 F.1.2.1 hd ht (fun q => kt q H locs ls h1 h2 h3) (fun q => kf q H locs ls h1 h2 h3)
theorem g_icmp_ne (F : FX p s m args c cc nL own G A) {x y : Int32} {off : Int} (tgt : Nat) (hd : decode cc pc = .ok (.if_icmp .ne off, 3)) (ht : (pc : Int) + off = (tgt : Int)) (kt : ¬ x = y → GG p l e R s m args below meth c G A nL ce sl Q I pm L tgt rest) (kf : x = y → GG p l e R s m args below meth c G A nL ce sl Q I pm L (pc + 3) rest) : GG p l e R s m args below meth c G A nL ce sl Q I pm L pc (.int y :: .int x :: rest) := fun H locs ls h1 h2 h3 => lv_icmp_ne F.1.1 F.1.2.1 hd ht (fun q => kt q H locs ls h1 h2 h3) (fun q => kf q H locs ls h1 h2 h3)
theorem g_if_lt (F : FX p s m args c cc nL own G A) {x : Int32} {off : Int} (tgt : Nat) (hd : decode cc pc = .ok (.ifCond .lt off, 3)) (ht : (pc : Int) + off = (tgt : Int)) (kt : x < 0 → GG p l e R s m args below meth c G A nL ce sl Q I pm L tgt rest) (kf : ¬ x < 0 → GG p l e R s m args below meth c G A nL ce sl Q I pm L (pc + 3) rest) : GG p l e R s m args below meth c G A nL ce sl Q I pm L pc (.int x :: rest) := fun H locs ls h1 h2 h3 => lv_if_lt F.1.1 F.1.2.1 hd ht (fun q => kt q H locs ls h1 h2 h3) (fun q => kf q H locs ls h1 h2 h3)
theorem g_icmp_lt (F : FX p s m args c cc nL own G A) {x y : Int32} {off : Int} (tgt : Nat) (hd : decode cc pc = .ok (.if_icmp .lt off, 3)) (ht : (pc : Int) + off = (tgt : Int)) (kt : x < y → GG p l e R s m args below meth c G A nL ce sl Q I pm L tgt rest) (kf : ¬ x < y → GG p l e R s m args below meth c G A nL ce sl Q I pm L (pc + 3) rest) : GG p l e R s m args below meth c G A nL ce sl Q I pm L pc (.int y :: .int x :: rest) := fun H locs ls h1 h2 h3 => lv_icmp_lt F.1.1 F.1.2.1 hd ht (fun q => kt q H locs ls h1 h2 h3) (fun q => kf q H locs ls h1 h2 h3)
theorem g_if_ge (F : FX p s m args c cc nL own G A) {x : Int32} {off : Int} (tgt : Nat) (hd : decode cc pc = .ok (.ifCond .ge off, 3)) (ht : (pc : Int) + off = (tgt : Int)) (kt : 0 ≤ x → GG p l e R s m args below meth c G A nL ce sl Q I pm L tgt rest) (kf : ¬ 0 ≤ x → GG p l e R s m args below meth c G A nL ce sl Q I pm L (pc + 3) rest) : GG p l e R s m args below meth c G A nL ce sl Q I pm L pc (.int x :: rest) := fun H locs ls h1 h2 h3 => lv_if_ge F.1.1 F.1.2.1 hd ht (fun q => kt q H locs ls h1 h2 h3) (fun q => kf q H locs ls h1 h2 h3)
theorem g_icmp_ge (F : FX p s m args c cc nL own G A) {x y : Int32} {off : Int} (tgt : Nat) (hd : decode cc pc = .ok (.if_icmp .ge off, 3)) (ht : (pc : Int) + off = (tgt : Int)) (kt : y ≤ x → GG p l e R s m args below meth c G A nL ce sl Q I pm L tgt rest) (kf : ¬ y ≤ x → GG p l e R s m args below meth c G A nL ce sl Q I pm L (pc + 3) rest) : GG p l e R s m args below meth c G A nL ce sl Q I pm L pc (.int y :: .int x :: rest) := fun H locs ls h1 h2 h3 => lv_icmp_ge F.1.1 F.1.2.1 hd ht (fun q => kt q H locs ls h1 h2 h3) (fun q => kf q H locs ls h1 h2 h3)
theorem g_if_gt (F : FX p s m args c cc nL own G A) {x : Int32} {off : Int} (tgt : Nat) (hd : decode cc pc = .ok (.ifCond .gt off, 3)) (ht : (pc : Int) + off = (tgt : Int)) (kt : 0 < x → GG p l e R s m args below meth c G A nL ce sl Q I pm L tgt rest) (kf : ¬ 0 < x → GG p l e R s m args below meth c G A nL ce sl Q I pm L (pc + 3) rest) : GG p l e R s m args below meth c G A nL ce sl Q I pm L pc (.int x :: rest) := fun H locs ls h1 h2 h3 => lv_if_gt F.1.1 F.1.2.1 hd ht (fun q => kt q H locs ls h1 h2 h3) (fun q => kf q H locs ls h1 h2 h3)
theorem g_icmp_gt (F : FX p s m args c cc nL own G A) {x y : Int32} {off : Int} (tgt : Nat) (hd : decode cc pc = .ok (.if_icmp .gt off, 3)) (ht : (pc : Int) + off = (tgt : Int)) (kt : y < x → GG p l e R s m args below meth c G A nL ce sl Q I pm L tgt rest) (kf : ¬ y < x → GG p l e R s m args below meth c G A nL ce sl Q I pm L (pc + 3) rest) : GG p l e R s m args below meth c G A nL ce sl Q I pm L pc (.int y :: .int x :: rest) := fun H locs ls h1 h2 h3 => lv_icmp_gt F.1.1 F.1.2.1 hd ht (fun q => kt q H locs ls h1 h2 h3) (fun q => kf q H locs ls h1 h2 h3)
theorem g_if_le (F : FX p s m args c cc nL own G A) {x : Int32} {off : Int} (tgt : Nat) (hd : decode cc pc = .ok (.ifCond .le off, 3)) (ht : (pc : Int) + off = (tgt : Int)) (kt : x ≤ 0 → GG p l e R s m args below meth c G A nL ce sl Q I pm L tgt rest) (kf : ¬ x ≤ 0 → GG p l e R s m args below meth c G A nL ce sl Q I pm L (pc + 3) rest) : GG p l e R s m args below meth c G A nL ce sl Q I pm L pc (.int x :: rest) := fun H locs ls h1 h2 h3 => lv_if_le F.1.1 F.1.2.1 hd ht (fun q => kt q H locs ls h1 h2 h3) (fun q => kf q H locs ls h1 h2 h3)
theorem g_icmp_le (F : FX p s m args c cc nL own G A) {x y : Int32} {off : Int} (tgt : Nat) (hd : decode cc pc = .ok (.if_icmp .le off, 3)) (ht : (pc : Int) + off = (tgt : Int)) (kt : x ≤ y → GG p l e R s m args below meth c G A nL ce sl Q I pm L tgt rest) (kf : ¬ x ≤ y → GG p l e R s m args below meth c G A nL ce sl Q I pm L (pc + 3) rest) : GG p l e R s m args below meth c G A nL ce sl Q I pm L pc (.int y :: .int x :: rest) := fun H locs ls h1 h2 h3 => lv_icmp_le F.1.1 F.1.2.1 hd ht (fun q => kt q H locs ls h1 h2 h3) (fun q => kf q H locs ls h1 h2 h3)
theorem g_tableOut (F : FX p s m args c cc nL own G A) {dflt lo hi : Int} {offs : Array Int} {len : Nat} {x : Int32} (tgt : Nat) (hd : decode cc pc = .ok (.tableswitch dflt lo hi offs, len)) (h : x.toInt < lo ∨ hi < x.toInt) (ht : (pc : Int) + dflt = (tgt : Int)) (k : GG p l e R s m args below meth c G A nL ce sl Q I pm L tgt rest) : GG p l e R s m args below meth c G A nL ce sl Q I pm L pc (.int x :: rest) := fun H locs ls h1 h2 h3 => lv_tableOut F.1.1 F.1.2.1 hd h ht (k H locs ls h1 h2 h3)
theorem g_tableIn (F : FX p s m args c cc nL own G A) {dflt lo hi : Int} {offs : Array Int} {len : Nat} {x : Int32} {off : Int} (tgt : Nat) (hd : decode cc pc = .ok (.tableswitch dflt lo hi offs, len)) (h1' : ¬ x.toInt < lo) (h2' : ¬ hi < x.toInt) (ho : offs[(x.toInt - lo).toNat]? = some off) (ht : (pc : Int) + off = (tgt : Int)) (k : GG p l e R s m args below meth c G A nL ce sl Q I pm L tgt rest) : GG p l e R s m args below meth c G A nL ce sl Q I pm L pc (.int x :: rest) := fun H locs ls h1 h2 h3 => lv_tableIn F.1.1 F.1.2.1 hd h1' h2' ho ht (k H locs ls h1 h2 h3)
theorem g_lookup (F : FX p s m args c cc nL own G A) {dflt : Int} {ps : Array (Int × Int)} {len : Nat} {x : Int32} {off : Int} (tgt : Nat) (hd : decode cc pc = .ok (.lookupswitch dflt ps, len)) (hp : (ps.toList.zip (ps.toList.drop 1)).all (fun (a, next) => a.1 < next.1) = true) (ho : Op.lookupswitch.offset ps.toList dflt x.toInt = off) (ht : (pc : Int) + off = (tgt : Int)) (k : GG p l e R s m args below meth c G A nL ce sl Q I pm L tgt rest) : GG p l e R s m args below meth c G A nL ce sl Q I pm L pc (.int x :: rest) := fun H locs ls h1 h2 h3 => lv_lookup F.1.1 F.1.2.1 hd hp ho ht (k H locs ls h1 h2 h3)
/-- a field is read: what the world has there -/
theorem g_get (F : FX p s m args c cc nL own G A) {C : String} {T : u_T} {N ci index K i : Nat} {fs : List Value} {v : Value} (hin : ∀ w ∈ u_ws C T N, w ∈ wsL_law) (hc : vwCl[ci]? = some (C, T, N)) (hi : i < cbK K) (he : cvv G.2.1 G.2.2 I pm K i = .inr (ci, fs)) (k : Nat) (hk : k < N) (hw : Cond.fieldLink own index (T k).1 (T k).2.1 (T k).2.2.1 ∈ wsL_law) (hv : fs[k]? = some v) (hd : decode cc pc = .ok (.getfield index, 3)) (kk : GG p l e R s m args below meth c G A nL ce sl Q I pm L (pc + 3) (v :: rest)) : GG p l e R s m args below meth c G A nL ce sl Q I pm L pc (.ref (G.2.2 K i) :: rest) := fun H locs ls h1 h2 h3 =>
  va_get (D := G.1) (cl := vwCl) (tys := tyz G) (ws := [(G.2.2 K i, .inr (ci, fs))]) F.1.1 F.1.2.1 F.1.2.2.2.2 hin F.1.2.2.2.1 F.2.1 (he ▸ h1.one hi) 0 rfl hc k hk (F.w hw) (fun _ h => h) hv hd (kk H locs ls h1 h2 h3)
theorem g_put (F : FX p s m args c cc nL own G A) {C : String} {T : u_T} {N ci index K i : Nat} {fs : List Value} {x : Int32} {ty : FieldType} (hin : ∀ w ∈ u_ws C T N, w ∈ wsL_law) (ty0 : Nat → FieldType) (hty : ∀ k, k < N → parseFieldDescriptor (T k).2.2.1 = some (ty0 k)) (hnm : ∀ a, a < N → ∀ b, b < N → a ≠ b → (T a).2.1 ≠ (T b).2.1) (hc : vwCl[ci]? = some (C, T, N)) (hi : i < cbK K) (he : cvv G.2.1 G.2.2 I pm K i = .inr (ci, fs)) (k : Nat) (hk : k < N) (hw : Cond.fieldLink own index (T k).1 (T k).2.1 (T k).2.2.1 ∈ wsL_law) (hfin : (T k).2.2.2 = false) (hdt : parseFieldDescriptor (T k).2.2.1 = some ty) (hn : narrow ty (.int x) = .int x) (hfit : fits ty (.int x) = true) (hl : k < fs.length)
    (he' : cvv G.2.1 G.2.2 (up3 I K i k x) pm K i = .inr (ci, fs.set k (.int x))) (hd : decode cc pc = .ok (.putfield index, 3)) (kk : GG p l e R s m args below meth c G A nL ce sl Q (up3 I K i k x) pm L (pc + 3) rest) : GG p l e R s m args below meth c G A nL ce sl Q I pm L pc (.int x :: .ref (G.2.2 K i) :: rest) := by
  intro H locs ls h1 h2 h3
  have hap := va_apart (own := own) F.1.2.2.2.2 hin ty0 hty hnm F.2.1 hc
  have h10 := h1 K i hi
  rw [he] at h10
  obtain ⟨r, g1, cell, q1, q2, q3, q4⟩ := h10
  have hr : r = (C, T, N) := Option.some.inj (g1.symm.trans hc)
  subst hr
  obtain ⟨hS, hfc, kC, hkC, hkind⟩ := F.2.1.1 ci _ hc
  obtain ⟨cf, kf, fi, f, hi2, hsl⟩ := hS k hk
  have hlay := F.1.2.2.2.2 _ (hin _ (u_in_lay hk))
  unfold u_lay at hlay
  rw [if_neg (by rw [hfin]; decide)] at hlay
  have hst := (u_facts hfc hkC (u_lays F.1.2.2.2.2 hin hk) hi2).1
  have h6 := u_store hfc hkC hkind hlay hi2 hdt hn hfit
  refine W.putK F.1.1 F.1.2.1 (f := f) ⟨F.1.2.2.2.1, F.w hw, ⟨_, _, _, hi2⟩, hst⟩ (by rw [q2]; exact h6) q1 q3 (by rw [hsl]; exact k2_hasslot (q4 k hk)) rfl rfl hd fun H' e1 e2 e3 => ?_
  rw [hsl] at e1 ⊢
  refine kk H' _ ls (h1.put F.2.2.2.1 hi ?_ e3 (fun a b hab => cvv_cong (fun j => up3_n (fun q => hab ⟨q.1, q.2.1⟩)) (fun _ _ => rfl))) (h2.put e2 e3 (F.2.2.2.2 K i hi)) h3
  rw [he']
  exact ⟨_, hc, t_OB.to (V := updV (vp_V fs) k (.int x)) ⟨_, e1, q2, q3, t_set q4 hap hk (.int x)⟩ (fun j _ => vp_updV_set hl (.int x) j)⟩
theorem g_iald (F : FX p s m args c cc nL own G A) {K i n : Nat} {f : Nat → Int32} {x : Int32} (hi : i < cbK K) (he : cvv G.2.1 G.2.2 I pm K i = .inl (G.2.1 1, n, .inl f)) (hx : vp_in x n) (hd : decode cc pc = .ok (.iaload, 1)) (kk : GG p l e R s m args below meth c G A nL ce sl Q I pm L (pc + 1) (.int (f x.toNatClampNeg) :: rest)) : GG p l e R s m args below meth c G A nL ce sl Q I pm L pc (.int x :: .ref (G.2.2 K i) :: rest) := fun H locs ls h1 h2 h3 =>
  va_iald (D := G.1) (cl := vwCl) (tys := tyz G) (ws := [(G.2.2 K i, .inl (G.2.1 1, n, .inl f))]) F.1.1 F.1.2.1 F.2.1 (he ▸ h1.one hi) 0 1 rfl rfl hx hd (kk H locs ls h1 h2 h3)
theorem g_zald (F : FX p s m args c cc nL own G A) {K i n : Nat} {f : Nat → Int32} {x : Int32} (hi : i < cbK K) (he : cvv G.2.1 G.2.2 I pm K i = .inl (G.2.1 2, n, .inl f)) (hx : vp_in x n) (hd : decode cc pc = .ok (.baload, 1)) (kk : GG p l e R s m args below meth c G A nL ce sl Q I pm L (pc + 1) (.int (f x.toNatClampNeg) :: rest)) : GG p l e R s m args below meth c G A nL ce sl Q I pm L pc (.int x :: .ref (G.2.2 K i) :: rest) := fun H locs ls h1 h2 h3 =>
  va_zald (D := G.1) (cl := vwCl) (tys := tyz G) (ws := [(G.2.2 K i, .inl (G.2.1 2, n, .inl f))]) F.1.1 F.1.2.1 F.2.1 (he ▸ h1.one hi) 0 2 rfl rfl hx hd (kk H locs ls h1 h2 h3)
theorem g_cald (F : FX p s m args c cc nL own G A) {K i n : Nat} {f : Nat → Int32} {x : Int32} (hi : i < cbK K) (he : cvv G.2.1 G.2.2 I pm K i = .inl (G.2.1 0, n, .inl f)) (hx : vp_in x n) (hd : decode cc pc = .ok (.caload, 1)) (kk : GG p l e R s m args below meth c G A nL ce sl Q I pm L (pc + 1) (.int (f x.toNatClampNeg) :: rest)) : GG p l e R s m args below meth c G A nL ce sl Q I pm L pc (.int x :: .ref (G.2.2 K i) :: rest) := fun H locs ls h1 h2 h3 =>
  va_cald (D := G.1) (cl := vwCl) (tys := tyz G) (ws := [(G.2.2 K i, .inl (G.2.1 0, n, .inl f))]) F.1.1 F.1.2.1 F.2.1 (he ▸ h1.one hi) 0 0 rfl rfl hx hd (kk H locs ls h1 h2 h3)
theorem g_aald (F : FX p s m args c cc nL own G A) {K i n : Nat} {t0 : Nat} {cA : ClassId} {C : String} {f : Nat → Option Nat} {x : Int32} {a : Nat} (hi : i < cbK K) (he : cvv G.2.1 G.2.2 I pm K i = .inl (cA, n, .inr (.inr (.inr (.inr f))))) (ht : (tyz G)[t0]? = some (cA, .object C)) (hx : vp_in x n) (hf : f x.toNatClampNeg = some a) (hd : decode cc pc = .ok (.aaload, 1)) (kk : GG p l e R s m args below meth c G A nL ce sl Q I pm L (pc + 1) (.ref a :: rest)) : GG p l e R s m args below meth c G A nL ce sl Q I pm L pc (.int x :: .ref (G.2.2 K i) :: rest) := fun H locs ls h1 h2 h3 =>
  va_aldq (D := G.1) (cl := vwCl) (tys := tyz G) (ws := [(G.2.2 K i, .inl (cA, n, .inr (.inr (.inr (.inr f)))))]) F.1.1 F.1.2.1 F.2.1 (he ▸ h1.one hi) 0 t0 rfl ht hx hd (by rw [hf]; exact kk H locs ls h1 h2 h3)
theorem g_iast (F : FX p s m args c cc nL own G A) {K i n : Nat} {f : Nat → Int32} {j x : Int32} (hi : i < cbK K) (he : cvv G.2.1 G.2.2 I pm K i = .inl (G.2.1 1, n, .inl f)) (hx : vp_in j n) (he' : cvv G.2.1 G.2.2 (up3 I K i j.toNatClampNeg x) pm K i = .inl (G.2.1 1, n, .inl (upd f j.toNatClampNeg x))) (hd : decode cc pc = .ok (.iastore, 1)) (kk : GG p l e R s m args below meth c G A nL ce sl Q (up3 I K i j.toNatClampNeg x) pm L (pc + 1) rest) : GG p l e R s m args below meth c G A nL ce sl Q I pm L pc (.int x :: .int j :: .ref (G.2.2 K i) :: rest) := by
  intro H locs ls h1 h2 h3
  have h10 := h1 K i hi
  rw [he] at h10
  refine W.iast F.1.1 F.1.2.1 (H := H) h10 ((F.2.1.2 1 _ rfl).1 n (fun j => .int (f j))) (fun q => by cases q) (by show ¬ (j < 0 ∨ (arrV _ _ _).slots.size ≤ _); rw [arrV_size]; exact hx) rfl rfl hd fun H1 e z oq => ?_
  refine kk H1 _ ls (h1.put F.2.2.2.1 hi ?_ oq (fun a b hab => cvv_cong (fun j => up3_n (fun q => hab ⟨q.1, q.2.1⟩)) (fun _ _ => rfl))) (h2.put z oq (F.2.2.2.2 K i hi)) h3
  rw [he']
  show H1[G.2.2 K i]? = some (vp_cell _ _)
  rw [e, vp_cell_i, vp_cell_i, arrV_store]
  congr 2
  funext q
  by_cases hq : q = j.toNatClampNeg
  · subst hq
    simp [updV, upd]
  · simp [updV, upd, hq]
theorem g_zast (F : FX p s m args c cc nL own G A) {K i n : Nat} {f : Nat → Int32} {j x : Int32} (hi : i < cbK K) (he : cvv G.2.1 G.2.2 I pm K i = .inl (G.2.1 2, n, .inl f)) (hx : vp_in j n) (hn : narrow .boolean (.int x) = .int x) (he' : cvv G.2.1 G.2.2 (up3 I K i j.toNatClampNeg x) pm K i = .inl (G.2.1 2, n, .inl (upd f j.toNatClampNeg x))) (hd : decode cc pc = .ok (.bastore, 1)) (kk : GG p l e R s m args below meth c G A nL ce sl Q (up3 I K i j.toNatClampNeg x) pm L (pc + 1) rest) : GG p l e R s m args below meth c G A nL ce sl Q I pm L pc (.int x :: .int j :: .ref (G.2.2 K i) :: rest) := by
  intro H locs ls h1 h2 h3
  have h10 := h1 K i hi
  rw [he] at h10
  refine W.zast F.1.1 F.1.2.1 (H := H) h10 ((F.2.1.2 2 _ rfl).1 n (fun j => .int (f j))) (fun q => by cases q) (by show ¬ (j < 0 ∨ (arrV _ _ _).slots.size ≤ _); rw [arrV_size]; exact hx) rfl rfl hd fun H1 e z oq => ?_
  refine kk H1 _ ls (h1.put F.2.2.2.1 hi ?_ oq (fun a b hab => cvv_cong (fun j => up3_n (fun q => hab ⟨q.1, q.2.1⟩)) (fun _ _ => rfl))) (h2.put z oq (F.2.2.2.2 K i hi)) h3
  rw [he']
  show H1[G.2.2 K i]? = some (vp_cell _ _)
  rw [hn] at e
  rw [e, vp_cell_i, vp_cell_i, arrV_store]
  congr 2
  funext q
  by_cases hq : q = j.toNatClampNeg
  · subst hq
    simp [updV, upd]
  · simp [updV, upd, hq]
theorem g_cast (F : FX p s m args c cc nL own G A) {K i n : Nat} {f : Nat → Int32} {j x : Int32} (hi : i < cbK K) (he : cvv G.2.1 G.2.2 I pm K i = .inl (G.2.1 0, n, .inl f)) (hx : vp_in j n) (hn : narrow .char (.int x) = .int x) (he' : cvv G.2.1 G.2.2 (up3 I K i j.toNatClampNeg x) pm K i = .inl (G.2.1 0, n, .inl (upd f j.toNatClampNeg x))) (hd : decode cc pc = .ok (.castore, 1)) (kk : GG p l e R s m args below meth c G A nL ce sl Q (up3 I K i j.toNatClampNeg x) pm L (pc + 1) rest) : GG p l e R s m args below meth c G A nL ce sl Q I pm L pc (.int x :: .int j :: .ref (G.2.2 K i) :: rest) := by
  intro H locs ls h1 h2 h3
  have h10 := h1 K i hi
  rw [he] at h10
  refine W.cast F.1.1 F.1.2.1 (H := H) h10 ((F.2.1.2 0 _ rfl).1 n (fun j => .int (f j))) (fun q => by cases q) (by show ¬ (j < 0 ∨ (arrV _ _ _).slots.size ≤ _); rw [arrV_size]; exact hx) rfl rfl hd fun H1 e z oq => ?_
  refine kk H1 _ ls (h1.put F.2.2.2.1 hi ?_ oq (fun a b hab => cvv_cong (fun j => up3_n (fun q => hab ⟨q.1, q.2.1⟩)) (fun _ _ => rfl))) (h2.put z oq (F.2.2.2.2 K i hi)) h3
  rw [he']
  show H1[G.2.2 K i]? = some (vp_cell _ _)
  rw [hn] at e
  rw [e, vp_cell_i, vp_cell_i, arrV_store]
  congr 2
  funext q
  by_cases hq : q = j.toNatClampNeg
  · subst hq
    simp [updV, upd]
  · simp [updV, upd, hq]
/-- a loco is laid into a layout's row -/
theorem g_aast (F : FX p s m args c cc nL own G A) {i v : Nat} {j : Int32} (hi : i < 11) (hv : v < 8) (hx : vp_in j 8) (hd : decode cc pc = .ok (.aastore, 1)) (kk : GG p l e R s m args below meth c G A nL ce sl Q I (upP pm i j.toNatClampNeg v) L (pc + 1) rest) : GG p l e R s m args below meth c G A nL ce sl Q I pm L pc (.ref (G.2.2 7 (8 * i + v)) :: .int j :: .ref (G.2.2 1 i) :: rest) := by
  intro H locs ls h1 h2 h3
  have h10 := h1 1 i hi
  have h7 : 8 * i + v < cbK 7 := by show _ < 88; omega
  have h70 := h1 7 (8 * i + v) h7
  obtain ⟨r', hr', cellV, g1, g2, g3, -⟩ := h70
  have hcls := (F.2.1.1 2 (RX2, TX2, 11) rfl).2
  obtain ⟨kA, comp, k1, k2, k3, -⟩ := (F.2.1.2 4 _ rfl).2
  have hcomp : comp = G.1.1 2 := Option.some.inj (k3.symm.trans hcls.1)
  subst hcomp
  obtain ⟨kC, hkC, -⟩ := hcls.2
  refine W.aast F.1.1 F.1.2.1 (H := H) h10 (fun q h => by cases h) (fun h => by cases h) k1 k2 rfl hkC ⟨fun q => hx (Or.inl q), by show _ < (arrV _ _ _).slots.size; rw [arrV_size]; exact Nat.not_le.mp fun q => hx (Or.inr q)⟩ g1 (fun q h => by rw [g3] at h; cases h) (by rw [g2]; exact hkC) (by rw [g2]; exact va_assign hcls) rfl rfl hd fun H1 e z oq => ?_
  refine kk H1 _ ls (h1.put F.2.2.2.1 hi ?_ oq (fun a b hab => cvv_cong (fun j => rfl) (fun ha r => by simp only [upP]; rw [if_neg (fun q => hab ⟨ha, q.1⟩)]))) (h2.put z oq (F.2.2.2.2 1 i hi)) h3
  show H1[G.2.2 1 i]? = some (vp_cell (G.2.1 4) (8, .inr (.inr (.inr (.inr _)))))
  rw [e]
  show some (Cell.setSlot (vp_cell (G.2.1 4) (8, .inr (.inr (.inr (.inr (fun r => some (G.2.2 7 (8 * i + pm i r)))))))) _ _) = _
  rw [vp_cell_q, vp_cell_q, arrV_store]
  congr 2
  funext q
  by_cases hq : q = j.toNatClampNeg
  · subst hq
    simp [updV, upP, va_rf]
  · simp [updV, upP, hq]
/-- System.arraycopy of a whole row of ints onto another -/
theorem g_copyi (F : FX p s m args c cc nL own G A) {index K i K' i' n : Nat} {f g : Nat → Int32} {z : Int32} (hi : i < cbK K) (hi' : i' < cbK K') (he : cvv G.2.1 G.2.2 I pm K i = .inl (G.2.1 1, n, .inl f)) (he2 : cvv G.2.1 G.2.2 I pm K' i' = .inl (G.2.1 1, n, .inl g)) (hw : Cond.methodLink own index arraycopyName ∈ wsL_law) (hw2 : Cond.native arraycopyName ∈ wsL_law) (hw3 : Cond.static arraycopyName ∈ wsL_law) (hw4 : Cond.initialized "java/lang/System" ∈ wsL_law) (hz : z = nI n) (hn : n < 2 ^ 31) (hR : 1 ≤ R.frames ∧ (rest.map fun v => v.category).sum + (nativeFrameWords "java/lang/System" "arraycopy" 5 + 11) ≤ R.locals)
    (he' : cvv G.2.1 G.2.2 (upR I K' i' (va_cpy f g 0 0 n)) pm K' i' = .inl (G.2.1 1, n, .inl (va_cpy f g 0 0 n))) (hd : decode cc pc = .ok (.invokestatic index, 3)) (kk : GG p l e R s m args below meth c G A nL ce sl Q (upR I K' i' (va_cpy f g 0 0 n)) pm L (pc + 3) rest) : GG p l e R s m args below meth c G A nL ce sl Q I pm L pc (.int z :: .int 0 :: .ref (G.2.2 K' i') :: .int 0 :: .ref (G.2.2 K i) :: rest) := by
  intro H locs ls h1 h2 h3
  have hc0 : H[G.2.2 K i]? = some (vp_cell (G.2.1 1) (n, .inl f)) := by have q := h1 K i hi; rw [he] at q; exact q
  have hc1 : H[G.2.2 K' i']? = some (vp_cell (G.2.1 1) (n, .inl g)) := by have q := h1 K' i' hi'; rw [he2] at q; exact q
  subst hz
  have hcl : (nI n).toNatClampNeg = n := nI_clamp hn
  have hn0 : ¬ nI n < 0 := nI_pos hn
  have hnt : (nI n).toInt = (n : Int) := nI_toInt hn
  have z0 : (0 : Int32).toNatClampNeg = 0 := rfl
  intro T hT X
  obtain ⟨-, k0, hk0, cm0, hkk0⟩ := (F.2.1.2 1 _ rfl).1 n (fun j => .int (f j))
  obtain ⟨-, k1, hk1, cm1, hkk1⟩ := (F.2.1.2 1 _ rfl).1 n (fun j => .int (g j))
  obtain ⟨vm', X', step⟩ := X.arraycopy F.1.1 F.1.2.2.2.1 (F.w hw) (F.w hw2) (F.w hw3) (F.w hw4) (src := G.2.2 K i) (dst := G.2.2 K' i') (cs := vp_cell (G.2.1 1) (n, .inl f)) (cd := vp_cell (G.2.1 1) (n, .inl g)) (srcPos := 0) (destPos := 0) (n := nI n) (by rw [hT]; exact hc0) (by rw [hT]; exact hc1)
    (fun _ h => by cases h) (fun _ h => by cases h) (fun h => by cases h) (fun h => by cases h) hk0 hk1 hkk0 hkk1 (by simp [refKind]) (by decide) (by decide) hn0
    (by rw [hnt]; show ¬ _ > ((arrV (G.2.1 1) n (fun j => .int (f j))).slots.size : Int); rw [arrV_size]; simp)
    (by rw [hnt]; show ¬ _ > ((arrV (G.2.1 1) n (fun j => .int (g j))).slots.size : Int); rw [arrV_size]; simp)
    (fun vm₁ _ a ha => by
      rw [hcl] at ha
      have ee : (vp_cell (G.2.1 1) (n, .inl f)).slots.getD ((0 : Int32).toNatClampNeg + a) .null = .int (f a) := by
        show (arrV (G.2.1 1) n (fun j => .int (f j))).slots.getD _ _ = _
        rw [z0, Nat.zero_add, Array.getD_eq_getD_getElem?, arrV_read _ _ ha]
        rfl
      refine ⟨?_, ?_⟩
      · rw [ee]; rfl
      · rw [ee]
        exact trivial)
    (g := F0 m pc ls (.int (nI n) :: .int 0 :: .ref (G.2.2 K' i') :: .int 0 :: .ref (G.2.2 K i) :: rest)) rfl (by rw [F.1.2.2.1]; exact h3.1) (rest := rest) rfl (by rw [F.1.2.1]; exact hd) hR.1 (by show 2 * 0 + _ + _ ≤ _; have := hR.2; omega)
  have e1 : copied (vp_cell (G.2.1 1) (n, .inl f)) (vp_cell (G.2.1 1) (n, .inl g)) 0 0 (nI n) = vp_cell (G.2.1 1) (n, .inl (va_cpy f g 0 0 n)) := by
    have q := va_copied (fun z => Value.int z) (G.2.1 1) (G.2.1 1) f g (n0 := n) (n1 := n) (sp := (0 : Int32).toNatClampNeg) (dp := (0 : Int32).toNatClampNeg) (n := (nI n).toNatClampNeg) (by rw [hcl, z0]; omega)
    have q2 : copied (vp_cell (G.2.1 1) (n, .inl f)) (vp_cell (G.2.1 1) (n, .inl g)) 0 0 (nI n) = vp_cell (G.2.1 1) (n, .inl (va_cpy f g (0 : Int32).toNatClampNeg (0 : Int32).toNatClampNeg (nI n).toNatClampNeg)) := q
    rw [hcl, z0] at q2
    exact q2
  rw [e1] at X' step
  have hl : G.2.2 K' i' < H.size := (Array.getElem?_eq_some_iff.mp hc1).1
  have hheap : ((T.setVm vm').setCell (G.2.2 K' i') (vp_cell (G.2.1 1) (n, .inl (va_cpy f g 0 0 n)))).heap = H.setIfInBounds (G.2.2 K' i') (vp_cell (G.2.1 1) (n, .inl (va_cpy f g 0 0 n))) := by rw [← hT]; rfl
  have oq : ∀ q : Nat, q ≠ G.2.2 K' i' → (H.setIfInBounds (G.2.2 K' i') (vp_cell (G.2.1 1) (n, .inl (va_cpy f g 0 0 n))))[q]? = H[q]? := fun q hq => by simp [Array.getElem?_setIfInBounds, Ne.symm hq]
  obtain ⟨t, a1, b1⟩ := kk _ _ ls (h1.put F.2.2.2.1 hi' (by rw [he']; exact (show (H.setIfInBounds (G.2.2 K' i') _)[G.2.2 K' i']? = some _ by simp [Array.getElem?_setIfInBounds, hl])) oq (fun a b hab => cvv_cong (fun j => upR_n hab) (fun _ _ => rfl))) ⟨by simp; exact h2.1, fun q g1 g2 => by
      rw [oq q (fun e => g2 (by rw [e]; exact F.2.2.2.2 K' i' hi'))]
      exact h2.2.1 q g1 g2, fun q hq => by
      rcases List.mem_append.mp hq with h | h
      · exact h2.2.2 q h
      · obtain ⟨z, -, hz⟩ := List.mem_map.mp h
        rw [← hz]
        exact F.2.2.2.2 K' i' hi'⟩ h3 _ hheap X'
  exact ⟨t, step t a1, b1⟩
theorem g_mmax (F : FX p s m args c cc nL own G A) {index : Nat} {x y : Int32} (hw : Cond.methodLink own index Lib.Math.max.name ∈ wsL_law) (hw2 : Cond.static Lib.Math.max.name ∈ wsL_law) (hw3 : Cond.initialized "java/lang/Math" ∈ wsL_law) (hw4 : Cond.code Lib.Math.max.name Lib.Math.max.code 2 (some .int) ∈ wsL_law) (hR : 1 ≤ R.frames ∧ (rest.map fun v => v.category).sum + 13 ≤ R.locals ∧ ce ≤ R.cells ∧ sl ≤ R.slots) (hd : decode cc pc = .ok (.invokestatic index, 3)) (k : GG p l e R s m args below meth c G A nL ce sl Q I pm L (pc + 3) (.int (if x < y then y else x) :: rest)) : GG p l e R s m args below meth c G A nL ce sl Q I pm L pc (.int y :: .int x :: rest) := fun H locs ls h1 h2 h3 => va_mmax F.1.1 F.1.2.1 (by rw [F.1.2.2.1]; exact h3.1.symm) F.1.2.2.2.1 (F.w hw) (F.w hw2) (F.w hw3) (F.w hw4) hR.1 hR.2.1 hR.2.2.1 hR.2.2.2 hd (k H locs ls h1 h2 h3)
theorem g_mmin (F : FX p s m args c cc nL own G A) {index : Nat} {x y : Int32} (hw : Cond.methodLink own index Lib.Math.min.name ∈ wsL_law) (hw2 : Cond.static Lib.Math.min.name ∈ wsL_law) (hw3 : Cond.initialized "java/lang/Math" ∈ wsL_law) (hw4 : Cond.code Lib.Math.min.name Lib.Math.min.code 2 (some .int) ∈ wsL_law) (hR : 1 ≤ R.frames ∧ (rest.map fun v => v.category).sum + 13 ≤ R.locals ∧ ce ≤ R.cells ∧ sl ≤ R.slots) (hd : decode cc pc = .ok (.invokestatic index, 3)) (k : GG p l e R s m args below meth c G A nL ce sl Q I pm L (pc + 3) (.int (if y < x then y else x) :: rest)) : GG p l e R s m args below meth c G A nL ce sl Q I pm L pc (.int y :: .int x :: rest) := fun H locs ls h1 h2 h3 => va_mmin F.1.1 F.1.2.1 (by rw [F.1.2.2.1]; exact h3.1.symm) F.1.2.2.2.1 (F.w hw) (F.w hw2) (F.w hw3) (F.w hw4) hR.1 hR.2.1 hR.2.2.1 hR.2.2.2 hd (k H locs ls h1 h2 h3)
theorem g_mabs (F : FX p s m args c cc nL own G A) {index : Nat} {x : Int32} (hw : Cond.methodLink own index Lib.Math.abs.name ∈ wsL_law) (hw2 : Cond.static Lib.Math.abs.name ∈ wsL_law) (hw3 : Cond.initialized "java/lang/Math" ∈ wsL_law) (hw4 : Cond.code Lib.Math.abs.name Lib.Math.abs.code 1 (some .int) ∈ wsL_law) (hR : 1 ≤ R.frames ∧ (rest.map fun v => v.category).sum + 13 ≤ R.locals ∧ ce ≤ R.cells ∧ sl ≤ R.slots) (hd : decode cc pc = .ok (.invokestatic index, 3)) (k : GG p l e R s m args below meth c G A nL ce sl Q I pm L (pc + 3) (.int (if 0 ≤ x then x else 0 - x) :: rest)) : GG p l e R s m args below meth c G A nL ce sl Q I pm L pc (.int x :: rest) := fun H locs ls h1 h2 h3 => va_mabs F.1.1 F.1.2.1 (by rw [F.1.2.2.1]; exact h3.1.symm) F.1.2.2.2.1 (F.w hw) (F.w hw2) (F.w hw3) (F.w hw4) hR.1 hR.2.1 hR.2.2.1 hR.2.2.2 hd (k H locs ls h1 h2 h3)
theorem g_callIv (F : FX p s m args c cc nL own G A) {y : MethodName} {b : ByteArray} {n na index ci : Nat} {ret : Option FieldType} {rm : Room} {As : List Value} {post : Int32 → Ii × Pm → Prop} {fs : List Value} {q : vw_C} (K i : Nat) (hM : CI l G y (wz y b n ret) rm (.ref (G.2.2 K i) :: As) I pm post) (hi : i < cbK K) (he : cvv G.2.1 G.2.2 I pm K i = .inr (ci, fs)) (hc : vwCl[ci]? = some q) (hlk : GoodIn wsL_law (wsV own index q.1 y (wz y b n ret))) (hst : st = As.reverse ++ .ref (G.2.2 K i) :: rest) (hna : As.length = na) (hdy : y.cls = q.1 ∧ y.cls ≠ "java/lang/invoke/MethodHandle" ∧ y.cls ≠ "java/lang/invoke/VarHandle" ∧ (parseMethodDescriptor y.desc).map (fun d => d.parameters.length) = some na) (hrm : rm.cells = 0 ∧ rm.slots = 0 ∧ rm.frames + 1 ≤ R.frames ∧ 8 + (n + 11) + rm.locals ≤ R.locals ∧ ce ≤ R.cells ∧ sl ≤ R.slots ∧ (rest.map fun v => v.category).sum ≤ 8) (hd : decode cc pc = .ok (.invokevirtual index, 3)) (kk : ∀ (r : Int32) (u : Ii × Pm), post r u → GG p l e R s m args below meth c G A nL ce sl Q u.1 u.2 L (pc + 3) (.int r :: rest)) : GG p l e R s m args below meth c G A nL ce sl Q I pm L pc st := fun H locs ls h1 h2 h3 => by
  subst hst
  exact va_calli (va_runV (As := As) (rest := rest) F.1 hM (cwV na F.1.2.2.2.2 hlk rfl hrm.1 hrm.2.1 hdy ⟨hrm.2.2.1, hrm.2.2.2.1⟩) ⟨PP.blind, va_recv (q0 := 0) F.2.1 (h1.one hi) hc (congrArg (fun z => some (G.2.2 K i, z)) he), fun U hU hW => ⟨rfl, by rw [hU]; exact h1, va_K.moved hW.alike F.2.1, NN.warm hW F.2.2.1⟩⟩ rfl hna h3.1 rfl (lv_room hrm.2.2.2.2.2.2) hd ⟨hrm.2.2.2.2.1, hrm.2.2.2.2.2.1⟩) h2 (fun q _ hq => by obtain ⟨a, b, hb, rfl⟩ := hq; exact F.2.2.2.2 a b hb) (fun q hq => by obtain ⟨a, b, hb, rfl⟩ := hq; exact F.2.2.2.2 a b hb) (fun r u t H1 locs1 ht hvm hw hB hz hk hS => kk r u hw H1 locs1 ls (by rw [← ht]; exact hB) hS h3)
theorem g_callIs (F : FX p s m args c cc nL own G A) {y : MethodName} {b : ByteArray} {n na index : Nat} {ret : Option FieldType} {rm : Room} {As : List Value} {post : Int32 → Ii × Pm → Prop} (hM : CI l G y (wz y b n ret) rm As I pm post) (hlk : GoodIn wsL_law (va_wsS own index y (wz y b n ret))) (hst : st = As.reverse ++ rest) (hna : As.length = na) (hdy : y.cls ≠ "java/lang/invoke/MethodHandle" ∧ y.cls ≠ "java/lang/invoke/VarHandle" ∧ (parseMethodDescriptor y.desc).map (fun d => d.parameters.length) = some na) (hrm : rm.cells = 0 ∧ rm.slots = 0 ∧ rm.frames + 1 ≤ R.frames ∧ 8 + (n + 11) + rm.locals ≤ R.locals ∧ ce ≤ R.cells ∧ sl ≤ R.slots ∧ (rest.map fun v => v.category).sum ≤ 8) (hd : decode cc pc = .ok (.invokestatic index, 3)) (kk : ∀ (r : Int32) (u : Ii × Pm), post r u → GG p l e R s m args below meth c G A nL ce sl Q u.1 u.2 L (pc + 3) (.int r :: rest)) : GG p l e R s m args below meth c G A nL ce sl Q I pm L pc st := fun H locs ls h1 h2 h3 => by
  subst hst
  exact va_calli (va_runS (As := As) (rest := rest) F.1 hM (va_cwS na F.1.2.2.2.2 hlk rfl hrm.1 hrm.2.1 hdy ⟨hrm.2.2.1, hrm.2.2.2.1⟩) ⟨PP.blind, fun U hU hW => ⟨rfl, by rw [hU]; exact h1, va_K.moved hW.alike F.2.1, NN.warm hW F.2.2.1⟩⟩ rfl hna h3.1 rfl (lv_room hrm.2.2.2.2.2.2) hd ⟨hrm.2.2.2.2.1, hrm.2.2.2.2.2.1⟩) h2 (fun q _ hq => by obtain ⟨a, b, hb, rfl⟩ := hq; exact F.2.2.2.2 a b hb) (fun q hq => by obtain ⟨a, b, hb, rfl⟩ := hq; exact F.2.2.2.2 a b hb) (fun r u t H1 locs1 ht hvm hw hB hz hk hS => kk r u hw H1 locs1 ls (by rw [← ht]; exact hB) hS h3)
theorem g_callIn (F : FX p s m args c cc nL own G A) {y : MethodName} {b : ByteArray} {n na index : Nat} {host : String} {ret : Option FieldType} {rm : Room} {As : List Value} {post : Int32 → Ii × Pm → Prop} (hM : CI l G y (wz y b n ret) rm As I pm post) (hgd : GoodIn wsL_law (wz y b n ret)) (hnest : va_Nw (.methodLinkNest own index y host) s) (hw : Cond.static y ∈ wsL_law) (hw2 : Cond.initialized y.cls ∈ wsL_law) (hst : st = As.reverse ++ rest) (hna : As.length = na) (hdy : y.cls ≠ "java/lang/invoke/MethodHandle" ∧ y.cls ≠ "java/lang/invoke/VarHandle" ∧ (parseMethodDescriptor y.desc).map (fun d => d.parameters.length) = some na) (hrm : rm.cells = 0 ∧ rm.slots = 0 ∧ rm.frames + 1 ≤ R.frames ∧ 8 + (n + 11) + rm.locals ≤ R.locals ∧ ce ≤ R.cells ∧ sl ≤ R.slots ∧ (rest.map fun v => v.category).sum ≤ 8) (hd : decode cc pc = .ok (.invokestatic index, 3)) (kk : ∀ (r : Int32) (u : Ii × Pm), post r u → GG p l e R s m args below meth c G A nL ce sl Q u.1 u.2 L (pc + 3) (.int r :: rest)) : GG p l e R s m args below meth c G A nL ce sl Q I pm L pc st := fun H locs ls h1 h2 h3 => by
  subst hst
  exact va_calli (va_runSN (As := As) (rest := rest) F.1 hM ⟨va_cnB na F.1.2.2.2.2 hgd rfl hrm.1 hrm.2.1 hnest (F.w hw2) hdy ⟨hrm.2.2.1, hrm.2.2.2.1⟩, F.w hw, trivial⟩ ⟨PP.blind, fun U hU hW => ⟨rfl, by rw [hU]; exact h1, va_K.moved hW.alike F.2.1, NN.warm hW F.2.2.1⟩⟩ rfl hna h3.1 rfl (lv_room hrm.2.2.2.2.2.2) hd ⟨hrm.2.2.2.2.1, hrm.2.2.2.2.2.1⟩) h2 (fun q _ hq => by obtain ⟨a, b, hb, rfl⟩ := hq; exact F.2.2.2.2 a b hb) (fun q hq => by obtain ⟨a, b, hb, rfl⟩ := hq; exact F.2.2.2.2 a b hb) (fun r u t H1 locs1 ht hvm hw hB hz hk hS => kk r u hw H1 locs1 ls (by rw [← ht]; exact hB) hS h3)
theorem g_callVv (F : FX p s m args c cc nL own G A) {y : MethodName} {b : ByteArray} {n na index ci : Nat} {ret : Option FieldType} {rm : Room} {As : List Value} {post : Ii × Pm → Prop} {fs : List Value} {q : vw_C} (K i : Nat) (hM : CV l G y (wz y b n ret) rm (.ref (G.2.2 K i) :: As) I pm post) (hi : i < cbK K) (he : cvv G.2.1 G.2.2 I pm K i = .inr (ci, fs)) (hc : vwCl[ci]? = some q) (hlk : GoodIn wsL_law (wsV own index q.1 y (wz y b n ret))) (hst : st = As.reverse ++ .ref (G.2.2 K i) :: rest) (hna : As.length = na) (hdy : y.cls = q.1 ∧ y.cls ≠ "java/lang/invoke/MethodHandle" ∧ y.cls ≠ "java/lang/invoke/VarHandle" ∧ (parseMethodDescriptor y.desc).map (fun d => d.parameters.length) = some na) (hrm : rm.cells = 0 ∧ rm.slots = 0 ∧ rm.frames + 1 ≤ R.frames ∧ 8 + (n + 11) + rm.locals ≤ R.locals ∧ ce ≤ R.cells ∧ sl ≤ R.slots ∧ (rest.map fun v => v.category).sum ≤ 8) (hd : decode cc pc = .ok (.invokevirtual index, 3)) (kk : ∀ (u : Ii × Pm), post u → GG p l e R s m args below meth c G A nL ce sl Q u.1 u.2 L (pc + 3) rest) : GG p l e R s m args below meth c G A nL ce sl Q I pm L pc st := fun H locs ls h1 h2 h3 => by
  subst hst
  exact va_callv (va_runV (As := As) (rest := rest) F.1 hM (cwV na F.1.2.2.2.2 hlk rfl hrm.1 hrm.2.1 hdy ⟨hrm.2.2.1, hrm.2.2.2.1⟩) ⟨PP.blind, va_recv (q0 := 0) F.2.1 (h1.one hi) hc (congrArg (fun z => some (G.2.2 K i, z)) he), fun U hU hW => ⟨rfl, by rw [hU]; exact h1, va_K.moved hW.alike F.2.1, NN.warm hW F.2.2.1⟩⟩ rfl hna h3.1 rfl (lv_room hrm.2.2.2.2.2.2) hd ⟨hrm.2.2.2.2.1, hrm.2.2.2.2.2.1⟩) h2 (fun q _ hq => by obtain ⟨a, b, hb, rfl⟩ := hq; exact F.2.2.2.2 a b hb) (fun q hq => by obtain ⟨a, b, hb, rfl⟩ := hq; exact F.2.2.2.2 a b hb) (fun u t H1 locs1 ht hvm hw hB hz hk hS => kk u hw H1 locs1 ls (by rw [← ht]; exact hB) hS h3)
theorem g_callVs (F : FX p s m args c cc nL own G A) {y : MethodName} {b : ByteArray} {n na index : Nat} {ret : Option FieldType} {rm : Room} {As : List Value} {post : Ii × Pm → Prop} (hM : CV l G y (wz y b n ret) rm As I pm post) (hlk : GoodIn wsL_law (va_wsS own index y (wz y b n ret))) (hst : st = As.reverse ++ rest) (hna : As.length = na) (hdy : y.cls ≠ "java/lang/invoke/MethodHandle" ∧ y.cls ≠ "java/lang/invoke/VarHandle" ∧ (parseMethodDescriptor y.desc).map (fun d => d.parameters.length) = some na) (hrm : rm.cells = 0 ∧ rm.slots = 0 ∧ rm.frames + 1 ≤ R.frames ∧ 8 + (n + 11) + rm.locals ≤ R.locals ∧ ce ≤ R.cells ∧ sl ≤ R.slots ∧ (rest.map fun v => v.category).sum ≤ 8) (hd : decode cc pc = .ok (.invokestatic index, 3)) (kk : ∀ (u : Ii × Pm), post u → GG p l e R s m args below meth c G A nL ce sl Q u.1 u.2 L (pc + 3) rest) : GG p l e R s m args below meth c G A nL ce sl Q I pm L pc st := fun H locs ls h1 h2 h3 => by
  subst hst
  exact va_callv (va_runS (As := As) (rest := rest) F.1 hM (va_cwS na F.1.2.2.2.2 hlk rfl hrm.1 hrm.2.1 hdy ⟨hrm.2.2.1, hrm.2.2.2.1⟩) ⟨PP.blind, fun U hU hW => ⟨rfl, by rw [hU]; exact h1, va_K.moved hW.alike F.2.1, NN.warm hW F.2.2.1⟩⟩ rfl hna h3.1 rfl (lv_room hrm.2.2.2.2.2.2) hd ⟨hrm.2.2.2.2.1, hrm.2.2.2.2.2.1⟩) h2 (fun q _ hq => by obtain ⟨a, b, hb, rfl⟩ := hq; exact F.2.2.2.2 a b hb) (fun q hq => by obtain ⟨a, b, hb, rfl⟩ := hq; exact F.2.2.2.2 a b hb) (fun u t H1 locs1 ht hvm hw hB hz hk hS => kk u hw H1 locs1 ls (by rw [← ht]; exact hB) hS h3)
theorem g_callQv (F : FX p s m args c cc nL own G A) {y : MethodName} {b : ByteArray} {n na index ci : Nat} {ret : Option FieldType} {rm : Room} {As : List Value} {post : Option Nat → Ii × Pm → Prop} {fs : List Value} {q : vw_C} (K i : Nat) (hM : CQ l G y (wz y b n ret) rm (.ref (G.2.2 K i) :: As) I pm post) (hi : i < cbK K) (he : cvv G.2.1 G.2.2 I pm K i = .inr (ci, fs)) (hc : vwCl[ci]? = some q) (hlk : GoodIn wsL_law (wsV own index q.1 y (wz y b n ret))) (hst : st = As.reverse ++ .ref (G.2.2 K i) :: rest) (hna : As.length = na) (hdy : y.cls = q.1 ∧ y.cls ≠ "java/lang/invoke/MethodHandle" ∧ y.cls ≠ "java/lang/invoke/VarHandle" ∧ (parseMethodDescriptor y.desc).map (fun d => d.parameters.length) = some na) (hrm : rm.cells = 0 ∧ rm.slots = 0 ∧ rm.frames + 1 ≤ R.frames ∧ 8 + (n + 11) + rm.locals ≤ R.locals ∧ ce ≤ R.cells ∧ sl ≤ R.slots ∧ (rest.map fun v => v.category).sum ≤ 8) (hd : decode cc pc = .ok (.invokevirtual index, 3)) (kk : ∀ (r : Option Nat) (u : Ii × Pm), post r u → GG p l e R s m args below meth c G A nL ce sl Q u.1 u.2 L (pc + 3) (va_rf r :: rest)) : GG p l e R s m args below meth c G A nL ce sl Q I pm L pc st := fun H locs ls h1 h2 h3 => by
  subst hst
  exact va_callq (va_runV (As := As) (rest := rest) F.1 hM (cwV na F.1.2.2.2.2 hlk rfl hrm.1 hrm.2.1 hdy ⟨hrm.2.2.1, hrm.2.2.2.1⟩) ⟨PP.blind, va_recv (q0 := 0) F.2.1 (h1.one hi) hc (congrArg (fun z => some (G.2.2 K i, z)) he), fun U hU hW => ⟨rfl, by rw [hU]; exact h1, va_K.moved hW.alike F.2.1, NN.warm hW F.2.2.1⟩⟩ rfl hna h3.1 rfl (lv_room hrm.2.2.2.2.2.2) hd ⟨hrm.2.2.2.2.1, hrm.2.2.2.2.2.1⟩) h2 (fun q _ hq => by obtain ⟨a, b, hb, rfl⟩ := hq; exact F.2.2.2.2 a b hb) (fun q hq => by obtain ⟨a, b, hb, rfl⟩ := hq; exact F.2.2.2.2 a b hb) (fun r u t H1 locs1 ht hvm hw hB hz hk hS => kk r u hw H1 locs1 ls (by rw [← ht]; exact hB) hS h3)
theorem g_callQs (F : FX p s m args c cc nL own G A) {y : MethodName} {b : ByteArray} {n na index : Nat} {ret : Option FieldType} {rm : Room} {As : List Value} {post : Option Nat → Ii × Pm → Prop} (hM : CQ l G y (wz y b n ret) rm As I pm post) (hlk : GoodIn wsL_law (va_wsS own index y (wz y b n ret))) (hst : st = As.reverse ++ rest) (hna : As.length = na) (hdy : y.cls ≠ "java/lang/invoke/MethodHandle" ∧ y.cls ≠ "java/lang/invoke/VarHandle" ∧ (parseMethodDescriptor y.desc).map (fun d => d.parameters.length) = some na) (hrm : rm.cells = 0 ∧ rm.slots = 0 ∧ rm.frames + 1 ≤ R.frames ∧ 8 + (n + 11) + rm.locals ≤ R.locals ∧ ce ≤ R.cells ∧ sl ≤ R.slots ∧ (rest.map fun v => v.category).sum ≤ 8) (hd : decode cc pc = .ok (.invokestatic index, 3)) (kk : ∀ (r : Option Nat) (u : Ii × Pm), post r u → GG p l e R s m args below meth c G A nL ce sl Q u.1 u.2 L (pc + 3) (va_rf r :: rest)) : GG p l e R s m args below meth c G A nL ce sl Q I pm L pc st := fun H locs ls h1 h2 h3 => by
  subst hst
  exact va_callq (va_runS (As := As) (rest := rest) F.1 hM (va_cwS na F.1.2.2.2.2 hlk rfl hrm.1 hrm.2.1 hdy ⟨hrm.2.2.1, hrm.2.2.2.1⟩) ⟨PP.blind, fun U hU hW => ⟨rfl, by rw [hU]; exact h1, va_K.moved hW.alike F.2.1, NN.warm hW F.2.2.1⟩⟩ rfl hna h3.1 rfl (lv_room hrm.2.2.2.2.2.2) hd ⟨hrm.2.2.2.2.1, hrm.2.2.2.2.2.1⟩) h2 (fun q _ hq => by obtain ⟨a, b, hb, rfl⟩ := hq; exact F.2.2.2.2 a b hb) (fun q hq => by obtain ⟨a, b, hb, rfl⟩ := hq; exact F.2.2.2.2 a b hb) (fun r u t H1 locs1 ht hvm hw hB hz hk hS => kk r u hw H1 locs1 ls (by rw [← ht]; exact hB) hS h3)
end BASE
section RETS
variable {p : Program} {l : Launch} {e : Env} {R : Room} {s : State} {m : MethodId} {args : Array Value} {below : List Frame} {meth : Method} {c : Code} {G : Gm} {nL : Nat} {I : Ii} {pm : Pm} {L : List (Nat × Value)} {pc : Nat} {cc : ByteArray} {own : String}
theorem g_iret (F : FX p s m args c cc nL own G (AA G)) {post : Int32 → Ii × Pm → Prop} {v : Int32} {ty : FieldType} (hr : meth.sig.returnType = some ty) (hlocks : meth.locks = false) (hn : narrow ty (.int v) = .int v) (hd : decode cc pc = .ok (.ireturn, 1)) (hq : post v (I, pm)) : GG p l e R s m args below meth c G (AA G) nL 0 0 (MQ below (va_Qi post (fun u t => Wd G u.1 u.2 t.heap) (AA G)) args s 0 0 (AA G)) I pm L pc [.int v] := fun H locs ls h1 h2 h3 =>
  W.zret F.1.1 F.1.2.1 hr hn (fun t ht hW => ⟨⟨v, (I, pm), rfl, hq, (show Wd G I pm t.heap by rw [ht]; exact h1)⟩, h2.F ht⟩) h2.2.2 hd hlocks
theorem g_vret (F : FX p s m args c cc nL own G (AA G)) {post : Ii × Pm → Prop} (hr : meth.sig.returnType = none) (hlocks : meth.locks = false) (hd : decode cc pc = .ok (.return_, 1)) (hq : post (I, pm)) : GG p l e R s m args below meth c G (AA G) nL 0 0 (MQ below (va_Qv post (fun u t => Wd G u.1 u.2 t.heap) (AA G)) args s 0 0 (AA G)) I pm L pc [] := fun H locs ls h1 h2 h3 =>
  W.vret F.1.1 F.1.2.1 hr (fun t ht hW => ⟨⟨(I, pm), rfl, hq, (show Wd G I pm t.heap by rw [ht]; exact h1)⟩, h2.F ht⟩) h2.2.2 hd hlocks
theorem g_aret (F : FX p s m args c cc nL own G (AA G)) {post : Option Nat → Ii × Pm → Prop} {v : Value} {r : Option Nat} {C : String} (hv : v = va_rf r) (hr : meth.sig.returnType = some (.object C)) (hlocks : meth.locks = false) (hd : decode cc pc = .ok (.areturn, 1)) (hq : post r (I, pm)) : GG p l e R s m args below meth c G (AA G) nL 0 0 (MQ below (va_Qq post (fun u t => Wd G u.1 u.2 t.heap) (AA G)) args s 0 0 (AA G)) I pm L pc [v] := fun H locs ls h1 h2 h3 => by
  subst hv
  exact W.aret F.1.1 F.1.2.1 hr (Or.inl ⟨_, rfl⟩) (va_rf_or r) (fun t ht hW => ⟨⟨r, (I, pm), rfl, hq, (show Wd G I pm t.heap by rw [ht]; exact h1)⟩, h2.F ht⟩) h2.2.2 hd hlocks
end RETS
section WALK
variable {l : Launch} {G : Gm} {y : MethodName} {b : ByteArray} {n : Nat} {ret : Option FieldType} {rm : Room} {av : List Value} {I : Ii} {pm : Pm}
theorem walk_any {Qc : Array Value → State → Outcome → State → Prop} (hj : Aj G) (hy : plainName y.cls = true) (hn : (lg_sl av).length ≤ n)
    (body : ∀ (p : Program) (e : Env) (s : State) (m : MethodId) (args : Array Value) (below : List Frame) (meth : Method) (c : Code), FX p s m args c b n y.cls G (AA G) → meth.sig.returnType = ret → meth.locks = false → GG p l e rm s m args below meth c G (AA G) n 0 0 (MQ below Qc args s 0 0 (AA G)) I pm (lv_args 0 av) 0 []) : Met l y (wz y b n ret) rm (va_Pc av (PP G I pm)) Qc 0 0 (AA G) := by
  refine Met.ofW (cc := b) (maxL := n) (ret := ret) hy rfl ?_
  intro p e s m args below meth c s₁ B hml hv
  obtain ⟨rfl, hW, hK, hN⟩ := hv
  have hts := atoms_spec (ws := wz y b n ret) B.pre
  have hl := lv_entry av (n := n) hn
  have hg := body p e s m av.toArray below meth c ⟨⟨B.exec, B.bytes, hml, findClass_of_methodNamed B.named, fun w hw => hts w (List.mem_cons_of_mem _ hw)⟩, hK, hN, hj, fun K i h => ⟨K, i, h, rfl⟩⟩ B.returns B.notSynchronized s.heap [] _ hW va_S.rf hl
  rw [lg_entry_eq]
  exact hg
theorem CI.walk {post : Int32 → Ii × Pm → Prop} (hj : Aj G) (hy : plainName y.cls = true) (hn : (lg_sl av).length ≤ n)
    (body : ∀ (p : Program) (e : Env) (s : State) (m : MethodId) (args : Array Value) (below : List Frame) (meth : Method) (c : Code), FX p s m args c b n y.cls G (AA G) → meth.sig.returnType = ret → meth.locks = false → GG p l e rm s m args below meth c G (AA G) n 0 0 (MQ below (va_Qi post (fun u t => Wd G u.1 u.2 t.heap) (AA G)) args s 0 0 (AA G)) I pm (lv_args 0 av) 0 []) : CI l G y (wz y b n ret) rm av I pm post := walk_any hj hy hn body
theorem CV.walk {post : Ii × Pm → Prop} (hj : Aj G) (hy : plainName y.cls = true) (hn : (lg_sl av).length ≤ n)
    (body : ∀ (p : Program) (e : Env) (s : State) (m : MethodId) (args : Array Value) (below : List Frame) (meth : Method) (c : Code), FX p s m args c b n y.cls G (AA G) → meth.sig.returnType = ret → meth.locks = false → GG p l e rm s m args below meth c G (AA G) n 0 0 (MQ below (va_Qv post (fun u t => Wd G u.1 u.2 t.heap) (AA G)) args s 0 0 (AA G)) I pm (lv_args 0 av) 0 []) : CV l G y (wz y b n ret) rm av I pm post := walk_any hj hy hn body
theorem CQ.walk {post : Option Nat → Ii × Pm → Prop} (hj : Aj G) (hy : plainName y.cls = true) (hn : (lg_sl av).length ≤ n)
    (body : ∀ (p : Program) (e : Env) (s : State) (m : MethodId) (args : Array Value) (below : List Frame) (meth : Method) (c : Code), FX p s m args c b n y.cls G (AA G) → meth.sig.returnType = ret → meth.locks = false → GG p l e rm s m args below meth c G (AA G) n 0 0 (MQ below (va_Qq post (fun u t => Wd G u.1 u.2 t.heap) (AA G)) args s 0 0 (AA G)) I pm (lv_args 0 av) 0 []) : CQ l G y (wz y b n ret) rm av I pm post := walk_any hj hy hn body
end WALK
end
section
theorem mCL_L_7 : Cond.classLink RL 7 RX5 ∈ wsL_law := List.mem_of_getElem? (i := 0) (by decide +kernel)
theorem mIS_RX5 : Cond.instantiable RX5 6 ∈ wsL_law := List.mem_of_getElem? (i := 1) (by decide +kernel)
theorem mIN_RX5 : Cond.initialized RX5 ∈ wsL_law := List.mem_of_getElem? (i := 2) (by decide +kernel)
theorem mCL_L_10 : Cond.classLink RL 10 RX6 ∈ wsL_law := List.mem_of_getElem? (i := 3) (by decide +kernel)
theorem mIS_RX6 : Cond.instantiable RX6 13 ∈ wsL_law := List.mem_of_getElem? (i := 4) (by decide +kernel)
theorem mIN_RX6 : Cond.initialized RX6 ∈ wsL_law := List.mem_of_getElem? (i := 5) (by decide +kernel)
theorem mCN_L_81 : Cond.constantLong RL 81 (4294967295) ∈ wsL_law := List.mem_of_getElem? (i := 6) (by decide +kernel)
theorem mML_L_9 : Cond.methodLink RL 9 yX5_init ∈ wsL_law := List.mem_of_getElem? (i := 7) (by decide +kernel)
theorem mIM_yX5_init : Cond.instanceMethod yX5_init ∈ wsL_law := List.mem_of_getElem? (i := 8) (by decide +kernel)
theorem mCO_yX5_init : Cond.code yX5_init cX5_init 2 none ∈ wsL_law := List.mem_of_getElem? (i := 9) (by decide +kernel)
theorem mML_X5_3 : Cond.methodLink RX5 3 objectInit ∈ wsL_law := List.mem_of_getElem? (i := 10) (by decide +kernel)
theorem mIM_objectInit : Cond.instanceMethod objectInit ∈ wsL_law := List.mem_of_getElem? (i := 11) (by decide +kernel)
theorem mCO_objectInit : Cond.code objectInit ⟨#[0xb1]⟩ 1 none ∈ wsL_law := List.mem_of_getElem? (i := 12) (by decide +kernel)
theorem mCL_X5_9 : Cond.classLink RX5 9 RX1 ∈ wsL_law := List.mem_of_getElem? (i := 13) (by decide +kernel)
theorem mIS_RX1 : Cond.instantiable RX1 10 ∈ wsL_law := List.mem_of_getElem? (i := 14) (by decide +kernel)
theorem mIN_RX1 : Cond.initialized RX1 ∈ wsL_law := List.mem_of_getElem? (i := 15) (by decide +kernel)
theorem mFL_X5_12 : Cond.fieldLink RX5 12 "LocoFrames" "now" "LLocoFrames$Layout;" ∈ wsL_law := List.mem_of_getElem? (i := 16) (by decide +kernel)
theorem mFL_X5_16 : Cond.fieldLink RX5 16 "LocoFrames" "foreseen" "LLocoFrames$Layout;" ∈ wsL_law := List.mem_of_getElem? (i := 17) (by decide +kernel)
theorem mCL_X5_19 : Cond.classLink RX5 19 RX0 ∈ wsL_law := List.mem_of_getElem? (i := 18) (by decide +kernel)
theorem mIS_RX0 : Cond.instantiable RX0 3 ∈ wsL_law := List.mem_of_getElem? (i := 19) (by decide +kernel)
theorem mIN_RX0 : Cond.initialized RX0 ∈ wsL_law := List.mem_of_getElem? (i := 20) (by decide +kernel)
theorem mFL_X5_22 : Cond.fieldLink RX5 22 "LocoFrames" "history" "LLocoFrames$History;" ∈ wsL_law := List.mem_of_getElem? (i := 21) (by decide +kernel)
theorem mFL_X5_26 : Cond.fieldLink RX5 26 "LocoFrames" "slots" "[LLocoFrames$Layout;" ∈ wsL_law := List.mem_of_getElem? (i := 22) (by decide +kernel)
theorem mAC_boolean : Cond.arrayClass .boolean ∈ wsL_law := List.mem_of_getElem? (i := 23) (by decide +kernel)
theorem mFL_X5_30 : Cond.fieldLink RX5 30 "LocoFrames" "saved" "[Z" ∈ wsL_law := List.mem_of_getElem? (i := 24) (by decide +kernel)
theorem mCL_X5_34 : Cond.classLink RX5 34 RX3 ∈ wsL_law := List.mem_of_getElem? (i := 25) (by decide +kernel)
theorem mIS_RX3 : Cond.instantiable RX3 6 ∈ wsL_law := List.mem_of_getElem? (i := 26) (by decide +kernel)
theorem mIN_RX3 : Cond.initialized RX3 ∈ wsL_law := List.mem_of_getElem? (i := 27) (by decide +kernel)
theorem mFL_X5_37 : Cond.fieldLink RX5 37 "LocoFrames" "pad" "LLocoFrames$Pad;" ∈ wsL_law := List.mem_of_getElem? (i := 28) (by decide +kernel)
theorem mML_X5_11 : Cond.methodLink RX5 11 yX1_init ∈ wsL_law := List.mem_of_getElem? (i := 29) (by decide +kernel)
theorem mIM_yX1_init : Cond.instanceMethod yX1_init ∈ wsL_law := List.mem_of_getElem? (i := 30) (by decide +kernel)
theorem mCO_yX1_init : Cond.code yX1_init cX1_init 2 none ∈ wsL_law := List.mem_of_getElem? (i := 31) (by decide +kernel)
theorem mML_X1_3 : Cond.methodLink RX1 3 objectInit ∈ wsL_law := List.mem_of_getElem? (i := 32) (by decide +kernel)
theorem mCL_X1_9 : Cond.classLink RX1 9 RX2 ∈ wsL_law := List.mem_of_getElem? (i := 33) (by decide +kernel)
theorem mFL_X1_11 : Cond.fieldLink RX1 11 "LocoFrames$Layout" "locos" "[LLocoFrames$Loco;" ∈ wsL_law := List.mem_of_getElem? (i := 34) (by decide +kernel)
theorem mCL_X1_17 : Cond.classLink RX1 17 RX4 ∈ wsL_law := List.mem_of_getElem? (i := 35) (by decide +kernel)
theorem mIS_RX4 : Cond.instantiable RX4 4 ∈ wsL_law := List.mem_of_getElem? (i := 36) (by decide +kernel)
theorem mIN_RX4 : Cond.initialized RX4 ∈ wsL_law := List.mem_of_getElem? (i := 37) (by decide +kernel)
theorem mFL_X1_20 : Cond.fieldLink RX1 20 "LocoFrames$Layout" "station" "LLocoFrames$Station;" ∈ wsL_law := List.mem_of_getElem? (i := 38) (by decide +kernel)
theorem mAC_int : Cond.arrayClass .int ∈ wsL_law := List.mem_of_getElem? (i := 39) (by decide +kernel)
theorem mFL_X1_24 : Cond.fieldLink RX1 24 "LocoFrames$Layout" "shortTicks" "[I" ∈ wsL_law := List.mem_of_getElem? (i := 40) (by decide +kernel)
theorem mIS_RX2 : Cond.instantiable RX2 11 ∈ wsL_law := List.mem_of_getElem? (i := 41) (by decide +kernel)
theorem mIN_RX2 : Cond.initialized RX2 ∈ wsL_law := List.mem_of_getElem? (i := 42) (by decide +kernel)
theorem mIM_yX4_init : Cond.instanceMethod yX4_init ∈ wsL_law := List.mem_of_getElem? (i := 43) (by decide +kernel)
theorem mCO_yX4_init : Cond.code yX4_init cX4_init 1 none ∈ wsL_law := List.mem_of_getElem? (i := 44) (by decide +kernel)
theorem mML_X4_3 : Cond.methodLink RX4 3 objectInit ∈ wsL_law := List.mem_of_getElem? (i := 45) (by decide +kernel)
theorem mFL_X4_9 : Cond.fieldLink RX4 9 "LocoFrames$Station" "addresses" "[I" ∈ wsL_law := List.mem_of_getElem? (i := 46) (by decide +kernel)
theorem mFL_X4_15 : Cond.fieldLink RX4 15 "LocoFrames$Station" "data" "[I" ∈ wsL_law := List.mem_of_getElem? (i := 47) (by decide +kernel)
theorem mFL_X4_18 : Cond.fieldLink RX4 18 "LocoFrames$Station" "urgencies" "[I" ∈ wsL_law := List.mem_of_getElem? (i := 48) (by decide +kernel)
theorem mIM_yX2_init : Cond.instanceMethod yX2_init ∈ wsL_law := List.mem_of_getElem? (i := 49) (by decide +kernel)
theorem mCO_yX2_init : Cond.code yX2_init cX2_init 1 none ∈ wsL_law := List.mem_of_getElem? (i := 50) (by decide +kernel)
theorem mML_X2_3 : Cond.methodLink RX2 3 objectInit ∈ wsL_law := List.mem_of_getElem? (i := 51) (by decide +kernel)
theorem mML_X5_21 : Cond.methodLink RX5 21 yX0_init ∈ wsL_law := List.mem_of_getElem? (i := 52) (by decide +kernel)
theorem mIM_yX0_init : Cond.instanceMethod yX0_init ∈ wsL_law := List.mem_of_getElem? (i := 53) (by decide +kernel)
theorem mCO_yX0_init : Cond.code yX0_init cX0_init 2 none ∈ wsL_law := List.mem_of_getElem? (i := 54) (by decide +kernel)
theorem mML_X0_3 : Cond.methodLink RX0 3 objectInit ∈ wsL_law := List.mem_of_getElem? (i := 55) (by decide +kernel)
theorem mCL_X0_9 : Cond.classLink RX0 9 RX1 ∈ wsL_law := List.mem_of_getElem? (i := 56) (by decide +kernel)
theorem mFL_X0_11 : Cond.fieldLink RX0 11 "LocoFrames$History" "states" "[LLocoFrames$Layout;" ∈ wsL_law := List.mem_of_getElem? (i := 57) (by decide +kernel)
theorem mML_X0_17 : Cond.methodLink RX0 17 yX1_init ∈ wsL_law := List.mem_of_getElem? (i := 58) (by decide +kernel)
theorem mIM_yX3_init : Cond.instanceMethod yX3_init ∈ wsL_law := List.mem_of_getElem? (i := 59) (by decide +kernel)
theorem mCO_yX3_init : Cond.code yX3_init cX3_init 1 none ∈ wsL_law := List.mem_of_getElem? (i := 60) (by decide +kernel)
theorem mML_X3_3 : Cond.methodLink RX3 3 objectInit ∈ wsL_law := List.mem_of_getElem? (i := 61) (by decide +kernel)
theorem mAC_char : Cond.arrayClass .char ∈ wsL_law := List.mem_of_getElem? (i := 62) (by decide +kernel)
theorem mFL_X3_9 : Cond.fieldLink RX3 9 "LocoFrames$Pad" "text" "[C" ∈ wsL_law := List.mem_of_getElem? (i := 63) (by decide +kernel)
theorem mFL_X3_15 : Cond.fieldLink RX3 15 "LocoFrames$Pad" "numbers" "[I" ∈ wsL_law := List.mem_of_getElem? (i := 64) (by decide +kernel)
theorem mML_L_12 : Cond.methodLink RL 12 yX6_init ∈ wsL_law := List.mem_of_getElem? (i := 65) (by decide +kernel)
theorem mIM_yX6_init : Cond.instanceMethod yX6_init ∈ wsL_law := List.mem_of_getElem? (i := 66) (by decide +kernel)
theorem mCO_yX6_init : Cond.code yX6_init cX6_init 1 none ∈ wsL_law := List.mem_of_getElem? (i := 67) (by decide +kernel)
theorem mML_X6_1 : Cond.methodLink RX6 1 objectInit ∈ wsL_law := List.mem_of_getElem? (i := 68) (by decide +kernel)
theorem mFL_X6_7 : Cond.fieldLink RX6 7 "LocoFramesModel" "s" "[I" ∈ wsL_law := List.mem_of_getElem? (i := 69) (by decide +kernel)
theorem mFL_X6_13 : Cond.fieldLink RX6 13 "LocoFramesModel" "aside" "[I" ∈ wsL_law := List.mem_of_getElem? (i := 70) (by decide +kernel)
theorem mFL_X6_16 : Cond.fieldLink RX6 16 "LocoFramesModel" "undos" "[I" ∈ wsL_law := List.mem_of_getElem? (i := 71) (by decide +kernel)
theorem mFL_X6_19 : Cond.fieldLink RX6 19 "LocoFramesModel" "slots" "[I" ∈ wsL_law := List.mem_of_getElem? (i := 72) (by decide +kernel)
theorem mFL_X6_22 : Cond.fieldLink RX6 22 "LocoFramesModel" "hasSlot" "[Z" ∈ wsL_law := List.mem_of_getElem? (i := 73) (by decide +kernel)
theorem mFL_X6_26 : Cond.fieldLink RX6 26 "LocoFramesModel" "pad" "[I" ∈ wsL_law := List.mem_of_getElem? (i := 74) (by decide +kernel)
theorem mFL_X6_29 : Cond.fieldLink RX6 29 "LocoFramesModel" "told" "[I" ∈ wsL_law := List.mem_of_getElem? (i := 75) (by decide +kernel)
theorem mFL_X6_32 : Cond.fieldLink RX6 32 "LocoFramesModel" "thrown" "I" ∈ wsL_law := List.mem_of_getElem? (i := 76) (by decide +kernel)
theorem mML_L_13 : Cond.methodLink RL 13 yX5_loco ∈ wsL_law := List.mem_of_getElem? (i := 77) (by decide +kernel)
theorem mIM_yX5_loco : Cond.instanceMethod yX5_loco ∈ wsL_law := List.mem_of_getElem? (i := 78) (by decide +kernel)
theorem mSE_yX5_loco : Cond.selects RX5 yX5_loco yX5_loco ∈ wsL_law := List.mem_of_getElem? (i := 79) (by decide +kernel)
theorem mCO_yX5_loco : Cond.code yX5_loco cX5_loco 5 (some .int) ∈ wsL_law := List.mem_of_getElem? (i := 80) (by decide +kernel)
theorem mML_X5_41 : Cond.methodLink RX5 41 yX0_draft ∈ wsL_law := List.mem_of_getElem? (i := 81) (by decide +kernel)
theorem mIM_yX0_draft : Cond.instanceMethod yX0_draft ∈ wsL_law := List.mem_of_getElem? (i := 82) (by decide +kernel)
theorem mSE_yX0_draft : Cond.selects RX0 yX0_draft yX0_draft ∈ wsL_law := List.mem_of_getElem? (i := 83) (by decide +kernel)
theorem mCO_yX0_draft : Cond.code yX0_draft cX0_draft 2 none ∈ wsL_law := List.mem_of_getElem? (i := 84) (by decide +kernel)
theorem mFL_X0_18 : Cond.fieldLink RX0 18 "LocoFrames$History" "first" "I" ∈ wsL_law := List.mem_of_getElem? (i := 85) (by decide +kernel)
theorem mFL_X0_22 : Cond.fieldLink RX0 22 "LocoFrames$History" "held" "I" ∈ wsL_law := List.mem_of_getElem? (i := 86) (by decide +kernel)
theorem mML_X0_25 : Cond.methodLink RX0 25 yX1_copyFrom ∈ wsL_law := List.mem_of_getElem? (i := 87) (by decide +kernel)
theorem mIM_yX1_copyFrom : Cond.instanceMethod yX1_copyFrom ∈ wsL_law := List.mem_of_getElem? (i := 88) (by decide +kernel)
theorem mSE_yX1_copyFrom : Cond.selects RX1 yX1_copyFrom yX1_copyFrom ∈ wsL_law := List.mem_of_getElem? (i := 89) (by decide +kernel)
theorem mCO_yX1_copyFrom : Cond.code yX1_copyFrom cX1_copyFrom 3 none ∈ wsL_law := List.mem_of_getElem? (i := 90) (by decide +kernel)
theorem mFL_X1_29 : Cond.fieldLink RX1 29 "LocoFrames$Layout" "locoCount" "I" ∈ wsL_law := List.mem_of_getElem? (i := 91) (by decide +kernel)
theorem mML_X1_40 : Cond.methodLink RX1 40 arraycopyName ∈ wsL_law := List.mem_of_getElem? (i := 92) (by decide +kernel)
theorem mNA_arraycopyName : Cond.native arraycopyName ∈ wsL_law := List.mem_of_getElem? (i := 93) (by decide +kernel)
theorem mST_arraycopyName : Cond.static arraycopyName ∈ wsL_law := List.mem_of_getElem? (i := 94) (by decide +kernel)
theorem mIN_java_lang_System : Cond.initialized "java/lang/System" ∈ wsL_law := List.mem_of_getElem? (i := 95) (by decide +kernel)
theorem mFL_X1_46 : Cond.fieldLink RX1 46 "LocoFrames$Layout" "ticks" "I" ∈ wsL_law := List.mem_of_getElem? (i := 96) (by decide +kernel)
theorem mFL_X1_49 : Cond.fieldLink RX1 49 "LocoFrames$Layout" "noiseTicks" "I" ∈ wsL_law := List.mem_of_getElem? (i := 97) (by decide +kernel)
theorem mFL_X1_52 : Cond.fieldLink RX1 52 "LocoFrames$Layout" "spoiledAt" "I" ∈ wsL_law := List.mem_of_getElem? (i := 98) (by decide +kernel)
theorem mFL_X1_55 : Cond.fieldLink RX1 55 "LocoFrames$Layout" "frames" "I" ∈ wsL_law := List.mem_of_getElem? (i := 99) (by decide +kernel)
theorem mFL_X1_58 : Cond.fieldLink RX1 58 "LocoFrames$Layout" "broken" "I" ∈ wsL_law := List.mem_of_getElem? (i := 100) (by decide +kernel)
theorem mFL_X1_61 : Cond.fieldLink RX1 61 "LocoFrames$Layout" "spoiled" "I" ∈ wsL_law := List.mem_of_getElem? (i := 101) (by decide +kernel)
theorem mML_X1_33 : Cond.methodLink RX1 33 yX2_copyFrom ∈ wsL_law := List.mem_of_getElem? (i := 102) (by decide +kernel)
theorem mIM_yX2_copyFrom : Cond.instanceMethod yX2_copyFrom ∈ wsL_law := List.mem_of_getElem? (i := 103) (by decide +kernel)
theorem mSE_yX2_copyFrom : Cond.selects RX2 yX2_copyFrom yX2_copyFrom ∈ wsL_law := List.mem_of_getElem? (i := 104) (by decide +kernel)
theorem mCO_yX2_copyFrom : Cond.code yX2_copyFrom cX2_copyFrom 2 none ∈ wsL_law := List.mem_of_getElem? (i := 105) (by decide +kernel)
theorem mFL_X2_9 : Cond.fieldLink RX2 9 "LocoFrames$Loco" "address" "I" ∈ wsL_law := List.mem_of_getElem? (i := 106) (by decide +kernel)
theorem mFL_X2_15 : Cond.fieldLink RX2 15 "LocoFrames$Loco" "mass" "I" ∈ wsL_law := List.mem_of_getElem? (i := 107) (by decide +kernel)
theorem mFL_X2_18 : Cond.fieldLink RX2 18 "LocoFrames$Loco" "curve" "I" ∈ wsL_law := List.mem_of_getElem? (i := 108) (by decide +kernel)
theorem mFL_X2_21 : Cond.fieldLink RX2 21 "LocoFrames$Loco" "place" "I" ∈ wsL_law := List.mem_of_getElem? (i := 109) (by decide +kernel)
theorem mFL_X2_24 : Cond.fieldLink RX2 24 "LocoFrames$Loco" "tenths" "I" ∈ wsL_law := List.mem_of_getElem? (i := 110) (by decide +kernel)
theorem mFL_X2_27 : Cond.fieldLink RX2 27 "LocoFrames$Loco" "speed" "I" ∈ wsL_law := List.mem_of_getElem? (i := 111) (by decide +kernel)
theorem mFL_X2_30 : Cond.fieldLink RX2 30 "LocoFrames$Loco" "rounds" "I" ∈ wsL_law := List.mem_of_getElem? (i := 112) (by decide +kernel)
theorem mFL_X2_33 : Cond.fieldLink RX2 33 "LocoFrames$Loco" "step" "I" ∈ wsL_law := List.mem_of_getElem? (i := 113) (by decide +kernel)
theorem mFL_X2_36 : Cond.fieldLink RX2 36 "LocoFrames$Loco" "way" "I" ∈ wsL_law := List.mem_of_getElem? (i := 114) (by decide +kernel)
theorem mFL_X2_39 : Cond.fieldLink RX2 39 "LocoFrames$Loco" "lights" "I" ∈ wsL_law := List.mem_of_getElem? (i := 115) (by decide +kernel)
theorem mFL_X2_42 : Cond.fieldLink RX2 42 "LocoFrames$Loco" "heard" "I" ∈ wsL_law := List.mem_of_getElem? (i := 116) (by decide +kernel)
theorem mML_X1_37 : Cond.methodLink RX1 37 yX4_copyFrom ∈ wsL_law := List.mem_of_getElem? (i := 117) (by decide +kernel)
theorem mIM_yX4_copyFrom : Cond.instanceMethod yX4_copyFrom ∈ wsL_law := List.mem_of_getElem? (i := 118) (by decide +kernel)
theorem mSE_yX4_copyFrom : Cond.selects RX4 yX4_copyFrom yX4_copyFrom ∈ wsL_law := List.mem_of_getElem? (i := 119) (by decide +kernel)
theorem mCO_yX4_copyFrom : Cond.code yX4_copyFrom cX4_copyFrom 2 none ∈ wsL_law := List.mem_of_getElem? (i := 120) (by decide +kernel)
theorem mML_X4_21 : Cond.methodLink RX4 21 arraycopyName ∈ wsL_law := List.mem_of_getElem? (i := 121) (by decide +kernel)
theorem mFL_X4_27 : Cond.fieldLink RX4 27 "LocoFrames$Station" "held" "I" ∈ wsL_law := List.mem_of_getElem? (i := 122) (by decide +kernel)
theorem mML_X5_45 : Cond.methodLink RX5 45 yX1_addLoco ∈ wsL_law := List.mem_of_getElem? (i := 123) (by decide +kernel)
theorem mIM_yX1_addLoco : Cond.instanceMethod yX1_addLoco ∈ wsL_law := List.mem_of_getElem? (i := 124) (by decide +kernel)
theorem mSE_yX1_addLoco : Cond.selects RX1 yX1_addLoco yX1_addLoco ∈ wsL_law := List.mem_of_getElem? (i := 125) (by decide +kernel)
theorem mCO_yX1_addLoco : Cond.code yX1_addLoco cX1_addLoco 7 (some .int) ∈ wsL_law := List.mem_of_getElem? (i := 126) (by decide +kernel)
theorem mFL_X1_76 : Cond.fieldLink RX1 76 "LocoFrames$Loco" "address" "I" ∈ wsL_law := List.mem_of_getElem? (i := 127) (by decide +kernel)
theorem mST_yX5_within : Cond.static yX5_within ∈ wsL_law := List.mem_of_getElem? (i := 128) (by decide +kernel)
theorem mCO_yX5_within : Cond.code yX5_within cX5_within 3 (some .boolean) ∈ wsL_law := List.mem_of_getElem? (i := 129) (by decide +kernel)
theorem mML_X1_68 : Cond.methodLink RX1 68 yX1_rankOf ∈ wsL_law := List.mem_of_getElem? (i := 130) (by decide +kernel)
theorem mIM_yX1_rankOf : Cond.instanceMethod yX1_rankOf ∈ wsL_law := List.mem_of_getElem? (i := 131) (by decide +kernel)
theorem mSE_yX1_rankOf : Cond.selects RX1 yX1_rankOf yX1_rankOf ∈ wsL_law := List.mem_of_getElem? (i := 132) (by decide +kernel)
theorem mCO_yX1_rankOf : Cond.code yX1_rankOf cX1_rankOf 3 (some .int) ∈ wsL_law := List.mem_of_getElem? (i := 133) (by decide +kernel)
theorem mML_X1_79 : Cond.methodLink RX1 79 yX2_begin ∈ wsL_law := List.mem_of_getElem? (i := 134) (by decide +kernel)
theorem mIM_yX2_begin : Cond.instanceMethod yX2_begin ∈ wsL_law := List.mem_of_getElem? (i := 135) (by decide +kernel)
theorem mSE_yX2_begin : Cond.selects RX2 yX2_begin yX2_begin ∈ wsL_law := List.mem_of_getElem? (i := 136) (by decide +kernel)
theorem mCO_yX2_begin : Cond.code yX2_begin cX2_begin 5 none ∈ wsL_law := List.mem_of_getElem? (i := 137) (by decide +kernel)
theorem mML_X5_49 : Cond.methodLink RX5 49 yX0_kept ∈ wsL_law := List.mem_of_getElem? (i := 138) (by decide +kernel)
theorem mIM_yX0_kept : Cond.instanceMethod yX0_kept ∈ wsL_law := List.mem_of_getElem? (i := 139) (by decide +kernel)
theorem mSE_yX0_kept : Cond.selects RX0 yX0_kept yX0_kept ∈ wsL_law := List.mem_of_getElem? (i := 140) (by decide +kernel)
theorem mCO_yX0_kept : Cond.code yX0_kept cX0_kept 2 (some .int) ∈ wsL_law := List.mem_of_getElem? (i := 141) (by decide +kernel)
theorem mML_L_17 : Cond.methodLink RL 17 yX6_loco ∈ wsL_law := List.mem_of_getElem? (i := 142) (by decide +kernel)
theorem mIM_yX6_loco : Cond.instanceMethod yX6_loco ∈ wsL_law := List.mem_of_getElem? (i := 143) (by decide +kernel)
theorem mSE_yX6_loco : Cond.selects RX6 yX6_loco yX6_loco ∈ wsL_law := List.mem_of_getElem? (i := 144) (by decide +kernel)
theorem mCO_yX6_loco : Cond.code yX6_loco cX6_loco 7 (some .int) ∈ wsL_law := List.mem_of_getElem? (i := 145) (by decide +kernel)
theorem mML_X6_54 : Cond.methodLink RX6 54 yX6_in ∈ wsL_law := List.mem_of_getElem? (i := 146) (by decide +kernel)
theorem mST_yX6_in : Cond.static yX6_in ∈ wsL_law := List.mem_of_getElem? (i := 147) (by decide +kernel)
theorem mCO_yX6_in : Cond.code yX6_in cX6_in 3 (some .boolean) ∈ wsL_law := List.mem_of_getElem? (i := 148) (by decide +kernel)
theorem mML_X6_87 : Cond.methodLink RX6 87 yX6_locoOf ∈ wsL_law := List.mem_of_getElem? (i := 149) (by decide +kernel)
theorem mIM_yX6_locoOf : Cond.instanceMethod yX6_locoOf ∈ wsL_law := List.mem_of_getElem? (i := 150) (by decide +kernel)
theorem mSE_yX6_locoOf : Cond.selects RX6 yX6_locoOf yX6_locoOf ∈ wsL_law := List.mem_of_getElem? (i := 151) (by decide +kernel)
theorem mCO_yX6_locoOf : Cond.code yX6_locoOf cX6_locoOf 3 (some .int) ∈ wsL_law := List.mem_of_getElem? (i := 152) (by decide +kernel)
theorem mML_X6_36 : Cond.methodLink RX6 36 yX6_get ∈ wsL_law := List.mem_of_getElem? (i := 153) (by decide +kernel)
theorem mIM_yX6_get : Cond.instanceMethod yX6_get ∈ wsL_law := List.mem_of_getElem? (i := 154) (by decide +kernel)
theorem mSE_yX6_get : Cond.selects RX6 yX6_get yX6_get ∈ wsL_law := List.mem_of_getElem? (i := 155) (by decide +kernel)
theorem mCO_yX6_get : Cond.code yX6_get cX6_get 3 (some .int) ∈ wsL_law := List.mem_of_getElem? (i := 156) (by decide +kernel)
theorem mML_X6_90 : Cond.methodLink RX6 90 yX6_records ∈ wsL_law := List.mem_of_getElem? (i := 157) (by decide +kernel)
theorem mIM_yX6_records : Cond.instanceMethod yX6_records ∈ wsL_law := List.mem_of_getElem? (i := 158) (by decide +kernel)
theorem mSE_yX6_records : Cond.selects RX6 yX6_records yX6_records ∈ wsL_law := List.mem_of_getElem? (i := 159) (by decide +kernel)
theorem mCO_yX6_records : Cond.code yX6_records cX6_records 2 none ∈ wsL_law := List.mem_of_getElem? (i := 160) (by decide +kernel)
theorem mFL_X6_40 : Cond.fieldLink RX6 40 "LocoFramesModel" "undoMany" "I" ∈ wsL_law := List.mem_of_getElem? (i := 161) (by decide +kernel)
theorem mML_X6_50 : Cond.methodLink RX6 50 yX6_lay ∈ wsL_law := List.mem_of_getElem? (i := 162) (by decide +kernel)
theorem mIM_yX6_lay : Cond.instanceMethod yX6_lay ∈ wsL_law := List.mem_of_getElem? (i := 163) (by decide +kernel)
theorem mSE_yX6_lay : Cond.selects RX6 yX6_lay yX6_lay ∈ wsL_law := List.mem_of_getElem? (i := 164) (by decide +kernel)
theorem mCO_yX6_lay : Cond.code yX6_lay cX6_lay 4 none ∈ wsL_law := List.mem_of_getElem? (i := 165) (by decide +kernel)
theorem mML_L_18 : Cond.methodLink RL 18 yX5_lift ∈ wsL_law := List.mem_of_getElem? (i := 166) (by decide +kernel)
theorem mIM_yX5_lift : Cond.instanceMethod yX5_lift ∈ wsL_law := List.mem_of_getElem? (i := 167) (by decide +kernel)
theorem mSE_yX5_lift : Cond.selects RX5 yX5_lift yX5_lift ∈ wsL_law := List.mem_of_getElem? (i := 168) (by decide +kernel)
theorem mCO_yX5_lift : Cond.code yX5_lift cX5_lift 2 (some .int) ∈ wsL_law := List.mem_of_getElem? (i := 169) (by decide +kernel)
theorem mML_X5_53 : Cond.methodLink RX5 53 yX1_removeLoco ∈ wsL_law := List.mem_of_getElem? (i := 170) (by decide +kernel)
theorem mIM_yX1_removeLoco : Cond.instanceMethod yX1_removeLoco ∈ wsL_law := List.mem_of_getElem? (i := 171) (by decide +kernel)
theorem mSE_yX1_removeLoco : Cond.selects RX1 yX1_removeLoco yX1_removeLoco ∈ wsL_law := List.mem_of_getElem? (i := 172) (by decide +kernel)
theorem mCO_yX1_removeLoco : Cond.code yX1_removeLoco cX1_removeLoco 5 (some .int) ∈ wsL_law := List.mem_of_getElem? (i := 173) (by decide +kernel)
theorem mML_L_22 : Cond.methodLink RL 22 yX6_lift ∈ wsL_law := List.mem_of_getElem? (i := 174) (by decide +kernel)
theorem mIM_yX6_lift : Cond.instanceMethod yX6_lift ∈ wsL_law := List.mem_of_getElem? (i := 175) (by decide +kernel)
theorem mSE_yX6_lift : Cond.selects RX6 yX6_lift yX6_lift ∈ wsL_law := List.mem_of_getElem? (i := 176) (by decide +kernel)
theorem mCO_yX6_lift : Cond.code yX6_lift cX6_lift 4 (some .int) ∈ wsL_law := List.mem_of_getElem? (i := 177) (by decide +kernel)
theorem mML_L_23 : Cond.methodLink RL 23 yX5_noise ∈ wsL_law := List.mem_of_getElem? (i := 178) (by decide +kernel)
theorem mIM_yX5_noise : Cond.instanceMethod yX5_noise ∈ wsL_law := List.mem_of_getElem? (i := 179) (by decide +kernel)
theorem mSE_yX5_noise : Cond.selects RX5 yX5_noise yX5_noise ∈ wsL_law := List.mem_of_getElem? (i := 180) (by decide +kernel)
theorem mCO_yX5_noise : Cond.code yX5_noise cX5_noise 2 (some .int) ∈ wsL_law := List.mem_of_getElem? (i := 181) (by decide +kernel)
theorem mML_X5_56 : Cond.methodLink RX5 56 yX1_changeNoise ∈ wsL_law := List.mem_of_getElem? (i := 182) (by decide +kernel)
theorem mIM_yX1_changeNoise : Cond.instanceMethod yX1_changeNoise ∈ wsL_law := List.mem_of_getElem? (i := 183) (by decide +kernel)
theorem mSE_yX1_changeNoise : Cond.selects RX1 yX1_changeNoise yX1_changeNoise ∈ wsL_law := List.mem_of_getElem? (i := 184) (by decide +kernel)
theorem mCO_yX1_changeNoise : Cond.code yX1_changeNoise cX1_changeNoise 3 (some .int) ∈ wsL_law := List.mem_of_getElem? (i := 185) (by decide +kernel)
theorem mML_L_26 : Cond.methodLink RL 26 yX6_noise ∈ wsL_law := List.mem_of_getElem? (i := 186) (by decide +kernel)
theorem mIM_yX6_noise : Cond.instanceMethod yX6_noise ∈ wsL_law := List.mem_of_getElem? (i := 187) (by decide +kernel)
theorem mSE_yX6_noise : Cond.selects RX6 yX6_noise yX6_noise ∈ wsL_law := List.mem_of_getElem? (i := 188) (by decide +kernel)
theorem mCO_yX6_noise : Cond.code yX6_noise cX6_noise 3 (some .int) ∈ wsL_law := List.mem_of_getElem? (i := 189) (by decide +kernel)
theorem mML_L_27 : Cond.methodLink RL 27 yX5_order ∈ wsL_law := List.mem_of_getElem? (i := 190) (by decide +kernel)
theorem mIM_yX5_order : Cond.instanceMethod yX5_order ∈ wsL_law := List.mem_of_getElem? (i := 191) (by decide +kernel)
theorem mSE_yX5_order : Cond.selects RX5 yX5_order yX5_order ∈ wsL_law := List.mem_of_getElem? (i := 192) (by decide +kernel)
theorem mCO_yX5_order : Cond.code yX5_order cX5_order 4 (some .int) ∈ wsL_law := List.mem_of_getElem? (i := 193) (by decide +kernel)
theorem mFL_X5_59 : Cond.fieldLink RX5 59 "LocoFrames$Layout" "station" "LLocoFrames$Station;" ∈ wsL_law := List.mem_of_getElem? (i := 194) (by decide +kernel)
theorem mML_X5_63 : Cond.methodLink RX5 63 yX4_take ∈ wsL_law := List.mem_of_getElem? (i := 195) (by decide +kernel)
theorem mIM_yX4_take : Cond.instanceMethod yX4_take ∈ wsL_law := List.mem_of_getElem? (i := 196) (by decide +kernel)
theorem mSE_yX4_take : Cond.selects RX4 yX4_take yX4_take ∈ wsL_law := List.mem_of_getElem? (i := 197) (by decide +kernel)
theorem mCO_yX4_take : Cond.code yX4_take cX4_take 5 (some .int) ∈ wsL_law := List.mem_of_getElem? (i := 198) (by decide +kernel)
theorem mML_X4_35 : Cond.methodLink RX4 35 yX4_setRow ∈ wsL_law := List.mem_of_getElem? (i := 199) (by decide +kernel)
theorem mIM_yX4_setRow : Cond.instanceMethod yX4_setRow ∈ wsL_law := List.mem_of_getElem? (i := 200) (by decide +kernel)
theorem mSE_yX4_setRow : Cond.selects RX4 yX4_setRow yX4_setRow ∈ wsL_law := List.mem_of_getElem? (i := 201) (by decide +kernel)
theorem mCO_yX4_setRow : Cond.code yX4_setRow cX4_setRow 5 none ∈ wsL_law := List.mem_of_getElem? (i := 202) (by decide +kernel)
theorem mML_L_31 : Cond.methodLink RL 31 yX6_order ∈ wsL_law := List.mem_of_getElem? (i := 203) (by decide +kernel)
theorem mIM_yX6_order : Cond.instanceMethod yX6_order ∈ wsL_law := List.mem_of_getElem? (i := 204) (by decide +kernel)
theorem mSE_yX6_order : Cond.selects RX6 yX6_order yX6_order ∈ wsL_law := List.mem_of_getElem? (i := 205) (by decide +kernel)
theorem mCO_yX6_order : Cond.code yX6_order cX6_order 5 (some .int) ∈ wsL_law := List.mem_of_getElem? (i := 206) (by decide +kernel)
theorem mML_X6_93 : Cond.methodLink RX6 93 yX6_refusesOrder ∈ wsL_law := List.mem_of_getElem? (i := 207) (by decide +kernel)
theorem mIM_yX6_refusesOrder : Cond.instanceMethod yX6_refusesOrder ∈ wsL_law := List.mem_of_getElem? (i := 208) (by decide +kernel)
theorem mSE_yX6_refusesOrder : Cond.selects RX6 yX6_refusesOrder yX6_refusesOrder ∈ wsL_law := List.mem_of_getElem? (i := 209) (by decide +kernel)
theorem mCO_yX6_refusesOrder : Cond.code yX6_refusesOrder cX6_refusesOrder 4 (some .int) ∈ wsL_law := List.mem_of_getElem? (i := 210) (by decide +kernel)
theorem mML_X6_96 : Cond.methodLink RX6 96 yX6_laysOrder ∈ wsL_law := List.mem_of_getElem? (i := 211) (by decide +kernel)
theorem mIM_yX6_laysOrder : Cond.instanceMethod yX6_laysOrder ∈ wsL_law := List.mem_of_getElem? (i := 212) (by decide +kernel)
theorem mSE_yX6_laysOrder : Cond.selects RX6 yX6_laysOrder yX6_laysOrder ∈ wsL_law := List.mem_of_getElem? (i := 213) (by decide +kernel)
theorem mCO_yX6_laysOrder : Cond.code yX6_laysOrder cX6_laysOrder 6 (some .int) ∈ wsL_law := List.mem_of_getElem? (i := 214) (by decide +kernel)
theorem mML_L_32 : Cond.methodLink RL 32 yX5_frame ∈ wsL_law := List.mem_of_getElem? (i := 215) (by decide +kernel)
theorem mIM_yX5_frame : Cond.instanceMethod yX5_frame ∈ wsL_law := List.mem_of_getElem? (i := 216) (by decide +kernel)
theorem mSE_yX5_frame : Cond.selects RX5 yX5_frame yX5_frame ∈ wsL_law := List.mem_of_getElem? (i := 217) (by decide +kernel)
theorem mCO_yX5_frame : Cond.code yX5_frame cX5_frame 4 (some .int) ∈ wsL_law := List.mem_of_getElem? (i := 218) (by decide +kernel)
theorem mML_X5_69 : Cond.methodLink RX5 69 yX1_takeFrame ∈ wsL_law := List.mem_of_getElem? (i := 219) (by decide +kernel)
theorem mIM_yX1_takeFrame : Cond.instanceMethod yX1_takeFrame ∈ wsL_law := List.mem_of_getElem? (i := 220) (by decide +kernel)
theorem mSE_yX1_takeFrame : Cond.selects RX1 yX1_takeFrame yX1_takeFrame ∈ wsL_law := List.mem_of_getElem? (i := 221) (by decide +kernel)
theorem mCO_yX1_takeFrame : Cond.code yX1_takeFrame cX1_takeFrame 7 (some .int) ∈ wsL_law := List.mem_of_getElem? (i := 222) (by decide +kernel)
theorem mML_X1_87 : Cond.methodLink RX1 87 yX2_blockNumber ∈ wsL_law := List.mem_of_getElem? (i := 223) (by decide +kernel)
theorem mIM_yX2_blockNumber : Cond.instanceMethod yX2_blockNumber ∈ wsL_law := List.mem_of_getElem? (i := 224) (by decide +kernel)
theorem mSE_yX2_blockNumber : Cond.selects RX2 yX2_blockNumber yX2_blockNumber ∈ wsL_law := List.mem_of_getElem? (i := 225) (by decide +kernel)
theorem mCO_yX2_blockNumber : Cond.code yX2_blockNumber cX2_blockNumber 1 (some .int) ∈ wsL_law := List.mem_of_getElem? (i := 226) (by decide +kernel)
theorem mML_X1_91 : Cond.methodLink RX1 91 yX1_isShorted ∈ wsL_law := List.mem_of_getElem? (i := 227) (by decide +kernel)
theorem mIM_yX1_isShorted : Cond.instanceMethod yX1_isShorted ∈ wsL_law := List.mem_of_getElem? (i := 228) (by decide +kernel)
theorem mSE_yX1_isShorted : Cond.selects RX1 yX1_isShorted yX1_isShorted ∈ wsL_law := List.mem_of_getElem? (i := 229) (by decide +kernel)
theorem mCO_yX1_isShorted : Cond.code yX1_isShorted cX1_isShorted 2 (some .boolean) ∈ wsL_law := List.mem_of_getElem? (i := 230) (by decide +kernel)
theorem mML_X1_94 : Cond.methodLink RX1 94 yX2_hear ∈ wsL_law := List.mem_of_getElem? (i := 231) (by decide +kernel)
theorem mIM_yX2_hear : Cond.instanceMethod yX2_hear ∈ wsL_law := List.mem_of_getElem? (i := 232) (by decide +kernel)
theorem mSE_yX2_hear : Cond.selects RX2 yX2_hear yX2_hear ∈ wsL_law := List.mem_of_getElem? (i := 233) (by decide +kernel)
theorem mCO_yX2_hear : Cond.code yX2_hear cX2_hear 3 none ∈ wsL_law := List.mem_of_getElem? (i := 234) (by decide +kernel)
theorem mML_L_35 : Cond.methodLink RL 35 yX6_frame ∈ wsL_law := List.mem_of_getElem? (i := 235) (by decide +kernel)
theorem mIM_yX6_frame : Cond.instanceMethod yX6_frame ∈ wsL_law := List.mem_of_getElem? (i := 236) (by decide +kernel)
theorem mSE_yX6_frame : Cond.selects RX6 yX6_frame yX6_frame ∈ wsL_law := List.mem_of_getElem? (i := 237) (by decide +kernel)
theorem mCO_yX6_frame : Cond.code yX6_frame cX6_frame 5 (some .int) ∈ wsL_law := List.mem_of_getElem? (i := 238) (by decide +kernel)
theorem mML_X6_99 : Cond.methodLink RX6 99 yX6_refusesFrame ∈ wsL_law := List.mem_of_getElem? (i := 239) (by decide +kernel)
theorem mST_yX6_refusesFrame : Cond.static yX6_refusesFrame ∈ wsL_law := List.mem_of_getElem? (i := 240) (by decide +kernel)
theorem mCO_yX6_refusesFrame : Cond.code yX6_refusesFrame cX6_refusesFrame 3 (some .int) ∈ wsL_law := List.mem_of_getElem? (i := 241) (by decide +kernel)
theorem mML_X6_66 : Cond.methodLink RX6 66 yX6_comes ∈ wsL_law := List.mem_of_getElem? (i := 242) (by decide +kernel)
theorem mIM_yX6_comes : Cond.instanceMethod yX6_comes ∈ wsL_law := List.mem_of_getElem? (i := 243) (by decide +kernel)
theorem mSE_yX6_comes : Cond.selects RX6 yX6_comes yX6_comes ∈ wsL_law := List.mem_of_getElem? (i := 244) (by decide +kernel)
theorem mCO_yX6_comes : Cond.code yX6_comes cX6_comes 6 (some .int) ∈ wsL_law := List.mem_of_getElem? (i := 245) (by decide +kernel)
theorem mML_X6_58 : Cond.methodLink RX6 58 yX6_isShort ∈ wsL_law := List.mem_of_getElem? (i := 246) (by decide +kernel)
theorem mIM_yX6_isShort : Cond.instanceMethod yX6_isShort ∈ wsL_law := List.mem_of_getElem? (i := 247) (by decide +kernel)
theorem mSE_yX6_isShort : Cond.selects RX6 yX6_isShort yX6_isShort ∈ wsL_law := List.mem_of_getElem? (i := 248) (by decide +kernel)
theorem mCO_yX6_isShort : Cond.code yX6_isShort cX6_isShort 2 (some .boolean) ∈ wsL_law := List.mem_of_getElem? (i := 249) (by decide +kernel)
theorem mML_X6_43 : Cond.methodLink RX6 43 yX6_blockOf ∈ wsL_law := List.mem_of_getElem? (i := 250) (by decide +kernel)
theorem mIM_yX6_blockOf : Cond.instanceMethod yX6_blockOf ∈ wsL_law := List.mem_of_getElem? (i := 251) (by decide +kernel)
theorem mSE_yX6_blockOf : Cond.selects RX6 yX6_blockOf yX6_blockOf ∈ wsL_law := List.mem_of_getElem? (i := 252) (by decide +kernel)
theorem mCO_yX6_blockOf : Cond.code yX6_blockOf cX6_blockOf 2 (some .int) ∈ wsL_law := List.mem_of_getElem? (i := 253) (by decide +kernel)
theorem mML_X6_62 : Cond.methodLink RX6 62 yX6_hears ∈ wsL_law := List.mem_of_getElem? (i := 254) (by decide +kernel)
theorem mIM_yX6_hears : Cond.instanceMethod yX6_hears ∈ wsL_law := List.mem_of_getElem? (i := 255) (by decide +kernel)
theorem mSE_yX6_hears : Cond.selects RX6 yX6_hears yX6_hears ∈ wsL_law := List.mem_of_getElem? (i := 256) (by decide +kernel)
theorem mCO_yX6_hears : Cond.code yX6_hears cX6_hears 3 none ∈ wsL_law := List.mem_of_getElem? (i := 257) (by decide +kernel)
theorem mML_L_36 : Cond.methodLink RL 36 yX5_shorts ∈ wsL_law := List.mem_of_getElem? (i := 258) (by decide +kernel)
theorem mIM_yX5_shorts : Cond.instanceMethod yX5_shorts ∈ wsL_law := List.mem_of_getElem? (i := 259) (by decide +kernel)
theorem mSE_yX5_shorts : Cond.selects RX5 yX5_shorts yX5_shorts ∈ wsL_law := List.mem_of_getElem? (i := 260) (by decide +kernel)
theorem mCO_yX5_shorts : Cond.code yX5_shorts cX5_shorts 3 (some .int) ∈ wsL_law := List.mem_of_getElem? (i := 261) (by decide +kernel)
theorem mML_X5_72 : Cond.methodLink RX5 72 yX1_changeShort ∈ wsL_law := List.mem_of_getElem? (i := 262) (by decide +kernel)
theorem mIM_yX1_changeShort : Cond.instanceMethod yX1_changeShort ∈ wsL_law := List.mem_of_getElem? (i := 263) (by decide +kernel)
theorem mSE_yX1_changeShort : Cond.selects RX1 yX1_changeShort yX1_changeShort ∈ wsL_law := List.mem_of_getElem? (i := 264) (by decide +kernel)
theorem mCO_yX1_changeShort : Cond.code yX1_changeShort cX1_changeShort 4 (some .int) ∈ wsL_law := List.mem_of_getElem? (i := 265) (by decide +kernel)
theorem mST_yX5_isBlock : Cond.static yX5_isBlock ∈ wsL_law := List.mem_of_getElem? (i := 266) (by decide +kernel)
theorem mCO_yX5_isBlock : Cond.code yX5_isBlock cX5_isBlock 1 (some .boolean) ∈ wsL_law := List.mem_of_getElem? (i := 267) (by decide +kernel)
theorem mML_X5_155 : Cond.methodLink RX5 155 yX5_within ∈ wsL_law := List.mem_of_getElem? (i := 268) (by decide +kernel)
theorem mML_L_40 : Cond.methodLink RL 40 yX6_shorts ∈ wsL_law := List.mem_of_getElem? (i := 269) (by decide +kernel)
theorem mIM_yX6_shorts : Cond.instanceMethod yX6_shorts ∈ wsL_law := List.mem_of_getElem? (i := 270) (by decide +kernel)
theorem mSE_yX6_shorts : Cond.selects RX6 yX6_shorts yX6_shorts ∈ wsL_law := List.mem_of_getElem? (i := 271) (by decide +kernel)
theorem mCO_yX6_shorts : Cond.code yX6_shorts cX6_shorts 5 (some .int) ∈ wsL_law := List.mem_of_getElem? (i := 272) (by decide +kernel)
theorem mML_X6_102 : Cond.methodLink RX6 102 yX6_refusesShorts ∈ wsL_law := List.mem_of_getElem? (i := 273) (by decide +kernel)
theorem mST_yX6_refusesShorts : Cond.static yX6_refusesShorts ∈ wsL_law := List.mem_of_getElem? (i := 274) (by decide +kernel)
theorem mCO_yX6_refusesShorts : Cond.code yX6_refusesShorts cX6_refusesShorts 2 (some .int) ∈ wsL_law := List.mem_of_getElem? (i := 275) (by decide +kernel)
theorem mML_L_41 : Cond.methodLink RL 41 yX5_pass ∈ wsL_law := List.mem_of_getElem? (i := 276) (by decide +kernel)
theorem mIM_yX5_pass : Cond.instanceMethod yX5_pass ∈ wsL_law := List.mem_of_getElem? (i := 277) (by decide +kernel)
theorem mSE_yX5_pass : Cond.selects RX5 yX5_pass yX5_pass ∈ wsL_law := List.mem_of_getElem? (i := 278) (by decide +kernel)
theorem mCO_yX5_pass : Cond.code yX5_pass cX5_pass 2 (some .int) ∈ wsL_law := List.mem_of_getElem? (i := 279) (by decide +kernel)
theorem mML_X5_76 : Cond.methodLink RX5 76 yX1_takeTicks ∈ wsL_law := List.mem_of_getElem? (i := 280) (by decide +kernel)
theorem mIM_yX1_takeTicks : Cond.instanceMethod yX1_takeTicks ∈ wsL_law := List.mem_of_getElem? (i := 281) (by decide +kernel)
theorem mSE_yX1_takeTicks : Cond.selects RX1 yX1_takeTicks yX1_takeTicks ∈ wsL_law := List.mem_of_getElem? (i := 282) (by decide +kernel)
theorem mCO_yX1_takeTicks : Cond.code yX1_takeTicks cX1_takeTicks 4 (some .int) ∈ wsL_law := List.mem_of_getElem? (i := 283) (by decide +kernel)
theorem mCN_X1_98 : Cond.constant RX1 98 (99999) ∈ wsL_law := List.mem_of_getElem? (i := 284) (by decide +kernel)
theorem mML_X1_99 : Cond.methodLink RX1 99 yX1_tick ∈ wsL_law := List.mem_of_getElem? (i := 285) (by decide +kernel)
theorem mIM_yX1_tick : Cond.instanceMethod yX1_tick ∈ wsL_law := List.mem_of_getElem? (i := 286) (by decide +kernel)
theorem mSE_yX1_tick : Cond.selects RX1 yX1_tick yX1_tick ∈ wsL_law := List.mem_of_getElem? (i := 287) (by decide +kernel)
theorem mCO_yX1_tick : Cond.code yX1_tick cX1_tick 4 (some .int) ∈ wsL_law := List.mem_of_getElem? (i := 288) (by decide +kernel)
theorem mFL_X1_105 : Cond.fieldLink RX1 105 "LocoFrames$Loco" "speed" "I" ∈ wsL_law := List.mem_of_getElem? (i := 289) (by decide +kernel)
theorem mML_X1_114 : Cond.methodLink RX1 114 Lib.Math.max.name ∈ wsL_law := List.mem_of_getElem? (i := 290) (by decide +kernel)
theorem mST_LMmax : Cond.static Lib.Math.max.name ∈ wsL_law := List.mem_of_getElem? (i := 291) (by decide +kernel)
theorem mIN_java_lang_Math : Cond.initialized "java/lang/Math" ∈ wsL_law := List.mem_of_getElem? (i := 292) (by decide +kernel)
theorem mCO_LMmax : Cond.code Lib.Math.max.name Lib.Math.max.code 2 (some .int) ∈ wsL_law := List.mem_of_getElem? (i := 293) (by decide +kernel)
theorem mML_X1_102 : Cond.methodLink RX1 102 yX1_sendFirst ∈ wsL_law := List.mem_of_getElem? (i := 294) (by decide +kernel)
theorem mIM_yX1_sendFirst : Cond.instanceMethod yX1_sendFirst ∈ wsL_law := List.mem_of_getElem? (i := 295) (by decide +kernel)
theorem mSE_yX1_sendFirst : Cond.selects RX1 yX1_sendFirst yX1_sendFirst ∈ wsL_law := List.mem_of_getElem? (i := 296) (by decide +kernel)
theorem mCO_yX1_sendFirst : Cond.code yX1_sendFirst cX1_sendFirst 4 (some .int) ∈ wsL_law := List.mem_of_getElem? (i := 297) (by decide +kernel)
theorem mFL_X1_120 : Cond.fieldLink RX1 120 "LocoFrames$Station" "held" "I" ∈ wsL_law := List.mem_of_getElem? (i := 298) (by decide +kernel)
theorem mFL_X1_123 : Cond.fieldLink RX1 123 "LocoFrames$Station" "addresses" "[I" ∈ wsL_law := List.mem_of_getElem? (i := 299) (by decide +kernel)
theorem mFL_X1_126 : Cond.fieldLink RX1 126 "LocoFrames$Station" "data" "[I" ∈ wsL_law := List.mem_of_getElem? (i := 300) (by decide +kernel)
theorem mML_X1_129 : Cond.methodLink RX1 129 yX4_dropFirst ∈ wsL_law := List.mem_of_getElem? (i := 301) (by decide +kernel)
theorem mIM_yX4_dropFirst : Cond.instanceMethod yX4_dropFirst ∈ wsL_law := List.mem_of_getElem? (i := 302) (by decide +kernel)
theorem mSE_yX4_dropFirst : Cond.selects RX4 yX4_dropFirst yX4_dropFirst ∈ wsL_law := List.mem_of_getElem? (i := 303) (by decide +kernel)
theorem mCO_yX4_dropFirst : Cond.code yX4_dropFirst cX4_dropFirst 2 none ∈ wsL_law := List.mem_of_getElem? (i := 304) (by decide +kernel)
theorem mML_X4_39 : Cond.methodLink RX4 39 Lib.Math.max.name ∈ wsL_law := List.mem_of_getElem? (i := 305) (by decide +kernel)
theorem mML_X1_132 : Cond.methodLink RX1 132 yX1_takeFrame ∈ wsL_law := List.mem_of_getElem? (i := 306) (by decide +kernel)
theorem mML_X1_108 : Cond.methodLink RX1 108 yX2_changeSpeed ∈ wsL_law := List.mem_of_getElem? (i := 307) (by decide +kernel)
theorem mIM_yX2_changeSpeed : Cond.instanceMethod yX2_changeSpeed ∈ wsL_law := List.mem_of_getElem? (i := 308) (by decide +kernel)
theorem mSE_yX2_changeSpeed : Cond.selects RX2 yX2_changeSpeed yX2_changeSpeed ∈ wsL_law := List.mem_of_getElem? (i := 309) (by decide +kernel)
theorem mCO_yX2_changeSpeed : Cond.code yX2_changeSpeed cX2_changeSpeed 2 none ∈ wsL_law := List.mem_of_getElem? (i := 310) (by decide +kernel)
theorem mML_X2_62 : Cond.methodLink RX2 62 Lib.Math.min.name ∈ wsL_law := List.mem_of_getElem? (i := 311) (by decide +kernel)
theorem mST_LMmin : Cond.static Lib.Math.min.name ∈ wsL_law := List.mem_of_getElem? (i := 312) (by decide +kernel)
theorem mCO_LMmin : Cond.code Lib.Math.min.name Lib.Math.min.code 2 (some .int) ∈ wsL_law := List.mem_of_getElem? (i := 313) (by decide +kernel)
theorem mML_X2_65 : Cond.methodLink RX2 65 Lib.Math.max.name ∈ wsL_law := List.mem_of_getElem? (i := 314) (by decide +kernel)
theorem mML_X2_49 : Cond.methodLink RX2 49 yX2_mostGain ∈ wsL_law := List.mem_of_getElem? (i := 315) (by decide +kernel)
theorem mIM_yX2_mostGain : Cond.instanceMethod yX2_mostGain ∈ wsL_law := List.mem_of_getElem? (i := 316) (by decide +kernel)
theorem mSE_yX2_mostGain : Cond.selects RX2 yX2_mostGain yX2_mostGain ∈ wsL_law := List.mem_of_getElem? (i := 317) (by decide +kernel)
theorem mCO_yX2_mostGain : Cond.code yX2_mostGain cX2_mostGain 1 (some .int) ∈ wsL_law := List.mem_of_getElem? (i := 318) (by decide +kernel)
theorem mML_X2_53 : Cond.methodLink RX2 53 yX2_goal ∈ wsL_law := List.mem_of_getElem? (i := 319) (by decide +kernel)
theorem mIM_yX2_goal : Cond.instanceMethod yX2_goal ∈ wsL_law := List.mem_of_getElem? (i := 320) (by decide +kernel)
theorem mSE_yX2_goal : Cond.selects RX2 yX2_goal yX2_goal ∈ wsL_law := List.mem_of_getElem? (i := 321) (by decide +kernel)
theorem mCO_yX2_goal : Cond.code yX2_goal cX2_goal 2 (some .int) ∈ wsL_law := List.mem_of_getElem? (i := 322) (by decide +kernel)
theorem mST_yX5_curveSpeed : Cond.static yX5_curveSpeed ∈ wsL_law := List.mem_of_getElem? (i := 323) (by decide +kernel)
theorem mCO_yX5_curveSpeed : Cond.code yX5_curveSpeed cX5_curveSpeed 3 (some .int) ∈ wsL_law := List.mem_of_getElem? (i := 324) (by decide +kernel)
theorem mML_X1_111 : Cond.methodLink RX1 111 yX2_roll ∈ wsL_law := List.mem_of_getElem? (i := 325) (by decide +kernel)
theorem mIM_yX2_roll : Cond.instanceMethod yX2_roll ∈ wsL_law := List.mem_of_getElem? (i := 326) (by decide +kernel)
theorem mSE_yX2_roll : Cond.selects RX2 yX2_roll yX2_roll ∈ wsL_law := List.mem_of_getElem? (i := 327) (by decide +kernel)
theorem mCO_yX2_roll : Cond.code yX2_roll cX2_roll 3 none ∈ wsL_law := List.mem_of_getElem? (i := 328) (by decide +kernel)
theorem mML_X2_68 : Cond.methodLink RX2 68 yJ9_floorDiv_7cf53 ∈ wsL_law := List.mem_of_getElem? (i := 329) (by decide +kernel)
theorem mST_yJ9_floorDiv_7cf53 : Cond.static yJ9_floorDiv_7cf53 ∈ wsL_law := List.mem_of_getElem? (i := 330) (by decide +kernel)
theorem mIN_RJ9 : Cond.initialized RJ9 ∈ wsL_law := List.mem_of_getElem? (i := 331) (by decide +kernel)
theorem mCO_yJ9_floorDiv_7cf53 : Cond.code yJ9_floorDiv_7cf53 cJ9_floorDiv_7cf53 3 (some .int) ∈ wsL_law := List.mem_of_getElem? (i := 332) (by decide +kernel)
theorem mML_X2_71 : Cond.methodLink RX2 71 yJ9_floorMod_7cf53 ∈ wsL_law := List.mem_of_getElem? (i := 333) (by decide +kernel)
theorem mST_yJ9_floorMod_7cf53 : Cond.static yJ9_floorMod_7cf53 ∈ wsL_law := List.mem_of_getElem? (i := 334) (by decide +kernel)
theorem mCO_yJ9_floorMod_7cf53 : Cond.code yJ9_floorMod_7cf53 cJ9_floorMod_7cf53 3 (some .int) ∈ wsL_law := List.mem_of_getElem? (i := 335) (by decide +kernel)
theorem mML_L_44 : Cond.methodLink RL 44 yX6_pass ∈ wsL_law := List.mem_of_getElem? (i := 336) (by decide +kernel)
theorem mIM_yX6_pass : Cond.instanceMethod yX6_pass ∈ wsL_law := List.mem_of_getElem? (i := 337) (by decide +kernel)
theorem mSE_yX6_pass : Cond.selects RX6 yX6_pass yX6_pass ∈ wsL_law := List.mem_of_getElem? (i := 338) (by decide +kernel)
theorem mCO_yX6_pass : Cond.code yX6_pass cX6_pass 3 (some .int) ∈ wsL_law := List.mem_of_getElem? (i := 339) (by decide +kernel)
theorem mML_X6_106 : Cond.methodLink RX6 106 yX6_refusesPass ∈ wsL_law := List.mem_of_getElem? (i := 340) (by decide +kernel)
theorem mIM_yX6_refusesPass : Cond.instanceMethod yX6_refusesPass ∈ wsL_law := List.mem_of_getElem? (i := 341) (by decide +kernel)
theorem mSE_yX6_refusesPass : Cond.selects RX6 yX6_refusesPass yX6_refusesPass ∈ wsL_law := List.mem_of_getElem? (i := 342) (by decide +kernel)
theorem mCO_yX6_refusesPass : Cond.code yX6_refusesPass cX6_refusesPass 2 (some .int) ∈ wsL_law := List.mem_of_getElem? (i := 343) (by decide +kernel)
theorem mCN_X6_105 : Cond.constant RX6 105 (99999) ∈ wsL_law := List.mem_of_getElem? (i := 344) (by decide +kernel)
theorem mML_X6_109 : Cond.methodLink RX6 109 yX6_ticks ∈ wsL_law := List.mem_of_getElem? (i := 345) (by decide +kernel)
theorem mIM_yX6_ticks : Cond.instanceMethod yX6_ticks ∈ wsL_law := List.mem_of_getElem? (i := 346) (by decide +kernel)
theorem mSE_yX6_ticks : Cond.selects RX6 yX6_ticks yX6_ticks ∈ wsL_law := List.mem_of_getElem? (i := 347) (by decide +kernel)
theorem mCO_yX6_ticks : Cond.code yX6_ticks cX6_ticks 4 (some .int) ∈ wsL_law := List.mem_of_getElem? (i := 348) (by decide +kernel)
theorem mML_X6_84 : Cond.methodLink RX6 84 yX6_tick ∈ wsL_law := List.mem_of_getElem? (i := 349) (by decide +kernel)
theorem mIM_yX6_tick : Cond.instanceMethod yX6_tick ∈ wsL_law := List.mem_of_getElem? (i := 350) (by decide +kernel)
theorem mSE_yX6_tick : Cond.selects RX6 yX6_tick yX6_tick ∈ wsL_law := List.mem_of_getElem? (i := 351) (by decide +kernel)
theorem mCO_yX6_tick : Cond.code yX6_tick cX6_tick 3 (some .int) ∈ wsL_law := List.mem_of_getElem? (i := 352) (by decide +kernel)
theorem mML_X6_73 : Cond.methodLink RX6 73 yX6_sends ∈ wsL_law := List.mem_of_getElem? (i := 353) (by decide +kernel)
theorem mIM_yX6_sends : Cond.instanceMethod yX6_sends ∈ wsL_law := List.mem_of_getElem? (i := 354) (by decide +kernel)
theorem mSE_yX6_sends : Cond.selects RX6 yX6_sends yX6_sends ∈ wsL_law := List.mem_of_getElem? (i := 355) (by decide +kernel)
theorem mCO_yX6_sends : Cond.code yX6_sends cX6_sends 5 (some .int) ∈ wsL_law := List.mem_of_getElem? (i := 356) (by decide +kernel)
theorem mML_X6_77 : Cond.methodLink RX6 77 yX6_speeds ∈ wsL_law := List.mem_of_getElem? (i := 357) (by decide +kernel)
theorem mIM_yX6_speeds : Cond.instanceMethod yX6_speeds ∈ wsL_law := List.mem_of_getElem? (i := 358) (by decide +kernel)
theorem mSE_yX6_speeds : Cond.selects RX6 yX6_speeds yX6_speeds ∈ wsL_law := List.mem_of_getElem? (i := 359) (by decide +kernel)
theorem mCO_yX6_speeds : Cond.code yX6_speeds cX6_speeds 6 none ∈ wsL_law := List.mem_of_getElem? (i := 360) (by decide +kernel)
theorem mML_X6_70 : Cond.methodLink RX6 70 yX6_due ∈ wsL_law := List.mem_of_getElem? (i := 361) (by decide +kernel)
theorem mIM_yX6_due : Cond.instanceMethod yX6_due ∈ wsL_law := List.mem_of_getElem? (i := 362) (by decide +kernel)
theorem mSE_yX6_due : Cond.selects RX6 yX6_due yX6_due ∈ wsL_law := List.mem_of_getElem? (i := 363) (by decide +kernel)
theorem mCO_yX6_due : Cond.code yX6_due cX6_due 3 (some .int) ∈ wsL_law := List.mem_of_getElem? (i := 364) (by decide +kernel)
theorem mML_X6_47 : Cond.methodLink RX6 47 yX6_byCurve ∈ wsL_law := List.mem_of_getElem? (i := 365) (by decide +kernel)
theorem mST_yX6_byCurve : Cond.static yX6_byCurve ∈ wsL_law := List.mem_of_getElem? (i := 366) (by decide +kernel)
theorem mCO_yX6_byCurve : Cond.code yX6_byCurve cX6_byCurve 3 (some .int) ∈ wsL_law := List.mem_of_getElem? (i := 367) (by decide +kernel)
theorem mML_X6_81 : Cond.methodLink RX6 81 yX6_goes ∈ wsL_law := List.mem_of_getElem? (i := 368) (by decide +kernel)
theorem mIM_yX6_goes : Cond.instanceMethod yX6_goes ∈ wsL_law := List.mem_of_getElem? (i := 369) (by decide +kernel)
theorem mSE_yX6_goes : Cond.selects RX6 yX6_goes yX6_goes ∈ wsL_law := List.mem_of_getElem? (i := 370) (by decide +kernel)
theorem mCO_yX6_goes : Cond.code yX6_goes cX6_goes 4 none ∈ wsL_law := List.mem_of_getElem? (i := 371) (by decide +kernel)
theorem mML_L_45 : Cond.methodLink RL 45 yX5_of ∈ wsL_law := List.mem_of_getElem? (i := 372) (by decide +kernel)
theorem mIM_yX5_of : Cond.instanceMethod yX5_of ∈ wsL_law := List.mem_of_getElem? (i := 373) (by decide +kernel)
theorem mSE_yX5_of : Cond.selects RX5 yX5_of yX5_of ∈ wsL_law := List.mem_of_getElem? (i := 374) (by decide +kernel)
theorem mCO_yX5_of : Cond.code yX5_of cX5_of 4 (some .int) ∈ wsL_law := List.mem_of_getElem? (i := 375) (by decide +kernel)
theorem mML_X5_79 : Cond.methodLink RX5 79 yX1_locoWith ∈ wsL_law := List.mem_of_getElem? (i := 376) (by decide +kernel)
theorem mIM_yX1_locoWith : Cond.instanceMethod yX1_locoWith ∈ wsL_law := List.mem_of_getElem? (i := 377) (by decide +kernel)
theorem mSE_yX1_locoWith : Cond.selects RX1 yX1_locoWith yX1_locoWith ∈ wsL_law := List.mem_of_getElem? (i := 378) (by decide +kernel)
theorem mCO_yX1_locoWith : Cond.code yX1_locoWith cX1_locoWith 2 (some (.object "LocoFrames$Loco")) ∈ wsL_law := List.mem_of_getElem? (i := 379) (by decide +kernel)
theorem mML_X1_72 : Cond.methodLink RX1 72 yX1_locoAt ∈ wsL_law := List.mem_of_getElem? (i := 380) (by decide +kernel)
theorem mIM_yX1_locoAt : Cond.instanceMethod yX1_locoAt ∈ wsL_law := List.mem_of_getElem? (i := 381) (by decide +kernel)
theorem mSE_yX1_locoAt : Cond.selects RX1 yX1_locoAt yX1_locoAt ∈ wsL_law := List.mem_of_getElem? (i := 382) (by decide +kernel)
theorem mCO_yX1_locoAt : Cond.code yX1_locoAt cX1_locoAt 2 (some (.object "LocoFrames$Loco")) ∈ wsL_law := List.mem_of_getElem? (i := 383) (by decide +kernel)
theorem mML_X5_83 : Cond.methodLink RX5 83 yX2_told ∈ wsL_law := List.mem_of_getElem? (i := 384) (by decide +kernel)
theorem mIM_yX2_told : Cond.instanceMethod yX2_told ∈ wsL_law := List.mem_of_getElem? (i := 385) (by decide +kernel)
theorem mSE_yX2_told : Cond.selects RX2 yX2_told yX2_told ∈ wsL_law := List.mem_of_getElem? (i := 386) (by decide +kernel)
theorem mCO_yX2_told : Cond.code yX2_told cX2_told 2 (some .int) ∈ wsL_law := List.mem_of_getElem? (i := 387) (by decide +kernel)
theorem mML_X2_74 : Cond.methodLink RX2 74 yX2_blockNumber ∈ wsL_law := List.mem_of_getElem? (i := 388) (by decide +kernel)
theorem mML_L_48 : Cond.methodLink RL 48 yX6_of ∈ wsL_law := List.mem_of_getElem? (i := 389) (by decide +kernel)
theorem mIM_yX6_of : Cond.instanceMethod yX6_of ∈ wsL_law := List.mem_of_getElem? (i := 390) (by decide +kernel)
theorem mSE_yX6_of : Cond.selects RX6 yX6_of yX6_of ∈ wsL_law := List.mem_of_getElem? (i := 391) (by decide +kernel)
theorem mCO_yX6_of : Cond.code yX6_of cX6_of 4 (some .int) ∈ wsL_law := List.mem_of_getElem? (i := 392) (by decide +kernel)
theorem mML_L_49 : Cond.methodLink RL 49 yX5_address ∈ wsL_law := List.mem_of_getElem? (i := 393) (by decide +kernel)
theorem mIM_yX5_address : Cond.instanceMethod yX5_address ∈ wsL_law := List.mem_of_getElem? (i := 394) (by decide +kernel)
theorem mSE_yX5_address : Cond.selects RX5 yX5_address yX5_address ∈ wsL_law := List.mem_of_getElem? (i := 395) (by decide +kernel)
theorem mCO_yX5_address : Cond.code yX5_address cX5_address 3 (some .int) ∈ wsL_law := List.mem_of_getElem? (i := 396) (by decide +kernel)
theorem mFL_X5_91 : Cond.fieldLink RX5 91 "LocoFrames$Loco" "address" "I" ∈ wsL_law := List.mem_of_getElem? (i := 397) (by decide +kernel)
theorem mML_X5_88 : Cond.methodLink RX5 88 yX1_locoAt ∈ wsL_law := List.mem_of_getElem? (i := 398) (by decide +kernel)
theorem mML_L_52 : Cond.methodLink RL 52 yX6_address ∈ wsL_law := List.mem_of_getElem? (i := 399) (by decide +kernel)
theorem mIM_yX6_address : Cond.instanceMethod yX6_address ∈ wsL_law := List.mem_of_getElem? (i := 400) (by decide +kernel)
theorem mSE_yX6_address : Cond.selects RX6 yX6_address yX6_address ∈ wsL_law := List.mem_of_getElem? (i := 401) (by decide +kernel)
theorem mCO_yX6_address : Cond.code yX6_address cX6_address 2 (some .int) ∈ wsL_law := List.mem_of_getElem? (i := 402) (by decide +kernel)
theorem mML_L_53 : Cond.methodLink RL 53 yX5_waiting ∈ wsL_law := List.mem_of_getElem? (i := 403) (by decide +kernel)
theorem mIM_yX5_waiting : Cond.instanceMethod yX5_waiting ∈ wsL_law := List.mem_of_getElem? (i := 404) (by decide +kernel)
theorem mSE_yX5_waiting : Cond.selects RX5 yX5_waiting yX5_waiting ∈ wsL_law := List.mem_of_getElem? (i := 405) (by decide +kernel)
theorem mCO_yX5_waiting : Cond.code yX5_waiting cX5_waiting 3 (some .int) ∈ wsL_law := List.mem_of_getElem? (i := 406) (by decide +kernel)
theorem mML_X5_95 : Cond.methodLink RX5 95 yX4_told ∈ wsL_law := List.mem_of_getElem? (i := 407) (by decide +kernel)
theorem mIM_yX4_told : Cond.instanceMethod yX4_told ∈ wsL_law := List.mem_of_getElem? (i := 408) (by decide +kernel)
theorem mSE_yX4_told : Cond.selects RX4 yX4_told yX4_told ∈ wsL_law := List.mem_of_getElem? (i := 409) (by decide +kernel)
theorem mCO_yX4_told : Cond.code yX4_told cX4_told 3 (some .int) ∈ wsL_law := List.mem_of_getElem? (i := 410) (by decide +kernel)
theorem mML_L_56 : Cond.methodLink RL 56 yX6_waiting ∈ wsL_law := List.mem_of_getElem? (i := 411) (by decide +kernel)
theorem mIM_yX6_waiting : Cond.instanceMethod yX6_waiting ∈ wsL_law := List.mem_of_getElem? (i := 412) (by decide +kernel)
theorem mSE_yX6_waiting : Cond.selects RX6 yX6_waiting yX6_waiting ∈ wsL_law := List.mem_of_getElem? (i := 413) (by decide +kernel)
theorem mCO_yX6_waiting : Cond.code yX6_waiting cX6_waiting 3 (some .int) ∈ wsL_law := List.mem_of_getElem? (i := 414) (by decide +kernel)
theorem mML_L_57 : Cond.methodLink RL 57 yX5_block ∈ wsL_law := List.mem_of_getElem? (i := 415) (by decide +kernel)
theorem mIM_yX5_block : Cond.instanceMethod yX5_block ∈ wsL_law := List.mem_of_getElem? (i := 416) (by decide +kernel)
theorem mSE_yX5_block : Cond.selects RX5 yX5_block yX5_block ∈ wsL_law := List.mem_of_getElem? (i := 417) (by decide +kernel)
theorem mCO_yX5_block : Cond.code yX5_block cX5_block 3 (some .int) ∈ wsL_law := List.mem_of_getElem? (i := 418) (by decide +kernel)
theorem mFL_X5_101 : Cond.fieldLink RX5 101 "LocoFrames$Layout" "shortTicks" "[I" ∈ wsL_law := List.mem_of_getElem? (i := 419) (by decide +kernel)
theorem mML_X5_97 : Cond.methodLink RX5 97 yX5_isBlock ∈ wsL_law := List.mem_of_getElem? (i := 420) (by decide +kernel)
theorem mML_X5_105 : Cond.methodLink RX5 105 yX1_locosIn ∈ wsL_law := List.mem_of_getElem? (i := 421) (by decide +kernel)
theorem mIM_yX1_locosIn : Cond.instanceMethod yX1_locosIn ∈ wsL_law := List.mem_of_getElem? (i := 422) (by decide +kernel)
theorem mSE_yX1_locosIn : Cond.selects RX1 yX1_locosIn yX1_locosIn ∈ wsL_law := List.mem_of_getElem? (i := 423) (by decide +kernel)
theorem mCO_yX1_locosIn : Cond.code yX1_locosIn cX1_locosIn 4 (some .int) ∈ wsL_law := List.mem_of_getElem? (i := 424) (by decide +kernel)
theorem mML_L_60 : Cond.methodLink RL 60 yX6_block ∈ wsL_law := List.mem_of_getElem? (i := 425) (by decide +kernel)
theorem mIM_yX6_block : Cond.instanceMethod yX6_block ∈ wsL_law := List.mem_of_getElem? (i := 426) (by decide +kernel)
theorem mSE_yX6_block : Cond.selects RX6 yX6_block yX6_block ∈ wsL_law := List.mem_of_getElem? (i := 427) (by decide +kernel)
theorem mCO_yX6_block : Cond.code yX6_block cX6_block 3 (some .int) ∈ wsL_law := List.mem_of_getElem? (i := 428) (by decide +kernel)
theorem mML_X6_112 : Cond.methodLink RX6 112 yX6_locosIn ∈ wsL_law := List.mem_of_getElem? (i := 429) (by decide +kernel)
theorem mIM_yX6_locosIn : Cond.instanceMethod yX6_locosIn ∈ wsL_law := List.mem_of_getElem? (i := 430) (by decide +kernel)
theorem mSE_yX6_locosIn : Cond.selects RX6 yX6_locosIn yX6_locosIn ∈ wsL_law := List.mem_of_getElem? (i := 431) (by decide +kernel)
theorem mCO_yX6_locosIn : Cond.code yX6_locosIn cX6_locosIn 4 (some .int) ∈ wsL_law := List.mem_of_getElem? (i := 432) (by decide +kernel)
theorem mML_L_61 : Cond.methodLink RL 61 yX5_count ∈ wsL_law := List.mem_of_getElem? (i := 433) (by decide +kernel)
theorem mIM_yX5_count : Cond.instanceMethod yX5_count ∈ wsL_law := List.mem_of_getElem? (i := 434) (by decide +kernel)
theorem mSE_yX5_count : Cond.selects RX5 yX5_count yX5_count ∈ wsL_law := List.mem_of_getElem? (i := 435) (by decide +kernel)
theorem mCO_yX5_count : Cond.code yX5_count cX5_count 2 (some .int) ∈ wsL_law := List.mem_of_getElem? (i := 436) (by decide +kernel)
theorem mFL_X5_108 : Cond.fieldLink RX5 108 "LocoFrames$Layout" "ticks" "I" ∈ wsL_law := List.mem_of_getElem? (i := 437) (by decide +kernel)
theorem mFL_X5_111 : Cond.fieldLink RX5 111 "LocoFrames$Layout" "locoCount" "I" ∈ wsL_law := List.mem_of_getElem? (i := 438) (by decide +kernel)
theorem mFL_X5_114 : Cond.fieldLink RX5 114 "LocoFrames$Station" "held" "I" ∈ wsL_law := List.mem_of_getElem? (i := 439) (by decide +kernel)
theorem mFL_X5_117 : Cond.fieldLink RX5 117 "LocoFrames$Layout" "noiseTicks" "I" ∈ wsL_law := List.mem_of_getElem? (i := 440) (by decide +kernel)
theorem mFL_X5_120 : Cond.fieldLink RX5 120 "LocoFrames$Layout" "frames" "I" ∈ wsL_law := List.mem_of_getElem? (i := 441) (by decide +kernel)
theorem mFL_X5_123 : Cond.fieldLink RX5 123 "LocoFrames$Layout" "broken" "I" ∈ wsL_law := List.mem_of_getElem? (i := 442) (by decide +kernel)
theorem mFL_X5_126 : Cond.fieldLink RX5 126 "LocoFrames$Layout" "spoiled" "I" ∈ wsL_law := List.mem_of_getElem? (i := 443) (by decide +kernel)
theorem mFL_X5_139 : Cond.fieldLink RX5 139 "LocoFrames$Pad" "length" "I" ∈ wsL_law := List.mem_of_getElem? (i := 444) (by decide +kernel)
theorem mFL_X5_142 : Cond.fieldLink RX5 142 "LocoFrames$History" "held" "I" ∈ wsL_law := List.mem_of_getElem? (i := 445) (by decide +kernel)
theorem mML_X5_129 : Cond.methodLink RX5 129 yX1_blocksWithShort ∈ wsL_law := List.mem_of_getElem? (i := 446) (by decide +kernel)
theorem mIM_yX1_blocksWithShort : Cond.instanceMethod yX1_blocksWithShort ∈ wsL_law := List.mem_of_getElem? (i := 447) (by decide +kernel)
theorem mSE_yX1_blocksWithShort : Cond.selects RX1 yX1_blocksWithShort yX1_blocksWithShort ∈ wsL_law := List.mem_of_getElem? (i := 448) (by decide +kernel)
theorem mCO_yX1_blocksWithShort : Cond.code yX1_blocksWithShort cX1_blocksWithShort 3 (some .int) ∈ wsL_law := List.mem_of_getElem? (i := 449) (by decide +kernel)
theorem mML_X5_133 : Cond.methodLink RX5 133 yX1_crowdedBlocks ∈ wsL_law := List.mem_of_getElem? (i := 450) (by decide +kernel)
theorem mIM_yX1_crowdedBlocks : Cond.instanceMethod yX1_crowdedBlocks ∈ wsL_law := List.mem_of_getElem? (i := 451) (by decide +kernel)
theorem mSE_yX1_crowdedBlocks : Cond.selects RX1 yX1_crowdedBlocks yX1_crowdedBlocks ∈ wsL_law := List.mem_of_getElem? (i := 452) (by decide +kernel)
theorem mCO_yX1_crowdedBlocks : Cond.code yX1_crowdedBlocks cX1_crowdedBlocks 3 (some .int) ∈ wsL_law := List.mem_of_getElem? (i := 453) (by decide +kernel)
theorem mML_X1_136 : Cond.methodLink RX1 136 yX1_locosIn ∈ wsL_law := List.mem_of_getElem? (i := 454) (by decide +kernel)
theorem mML_X5_136 : Cond.methodLink RX5 136 yX1_speedSum ∈ wsL_law := List.mem_of_getElem? (i := 455) (by decide +kernel)
theorem mIM_yX1_speedSum : Cond.instanceMethod yX1_speedSum ∈ wsL_law := List.mem_of_getElem? (i := 456) (by decide +kernel)
theorem mSE_yX1_speedSum : Cond.selects RX1 yX1_speedSum yX1_speedSum ∈ wsL_law := List.mem_of_getElem? (i := 457) (by decide +kernel)
theorem mCO_yX1_speedSum : Cond.code yX1_speedSum cX1_speedSum 3 (some .int) ∈ wsL_law := List.mem_of_getElem? (i := 458) (by decide +kernel)
theorem mML_L_64 : Cond.methodLink RL 64 yX6_count ∈ wsL_law := List.mem_of_getElem? (i := 459) (by decide +kernel)
theorem mIM_yX6_count : Cond.instanceMethod yX6_count ∈ wsL_law := List.mem_of_getElem? (i := 460) (by decide +kernel)
theorem mSE_yX6_count : Cond.selects RX6 yX6_count yX6_count ∈ wsL_law := List.mem_of_getElem? (i := 461) (by decide +kernel)
theorem mCO_yX6_count : Cond.code yX6_count cX6_count 2 (some .int) ∈ wsL_law := List.mem_of_getElem? (i := 462) (by decide +kernel)
theorem mFL_X6_121 : Cond.fieldLink RX6 121 "LocoFramesModel" "length" "I" ∈ wsL_law := List.mem_of_getElem? (i := 463) (by decide +kernel)
theorem mML_X6_115 : Cond.methodLink RX6 115 yX6_overBlocks ∈ wsL_law := List.mem_of_getElem? (i := 464) (by decide +kernel)
theorem mIM_yX6_overBlocks : Cond.instanceMethod yX6_overBlocks ∈ wsL_law := List.mem_of_getElem? (i := 465) (by decide +kernel)
theorem mSE_yX6_overBlocks : Cond.selects RX6 yX6_overBlocks yX6_overBlocks ∈ wsL_law := List.mem_of_getElem? (i := 466) (by decide +kernel)
theorem mCO_yX6_overBlocks : Cond.code yX6_overBlocks cX6_overBlocks 4 (some .int) ∈ wsL_law := List.mem_of_getElem? (i := 467) (by decide +kernel)
theorem mML_X6_118 : Cond.methodLink RX6 118 yX6_allSpeeds ∈ wsL_law := List.mem_of_getElem? (i := 468) (by decide +kernel)
theorem mIM_yX6_allSpeeds : Cond.instanceMethod yX6_allSpeeds ∈ wsL_law := List.mem_of_getElem? (i := 469) (by decide +kernel)
theorem mSE_yX6_allSpeeds : Cond.selects RX6 yX6_allSpeeds yX6_allSpeeds ∈ wsL_law := List.mem_of_getElem? (i := 470) (by decide +kernel)
theorem mCO_yX6_allSpeeds : Cond.code yX6_allSpeeds cX6_allSpeeds 3 (some .int) ∈ wsL_law := List.mem_of_getElem? (i := 471) (by decide +kernel)
theorem mML_L_65 : Cond.methodLink RL 65 yX5_reaches ∈ wsL_law := List.mem_of_getElem? (i := 472) (by decide +kernel)
theorem mIM_yX5_reaches : Cond.instanceMethod yX5_reaches ∈ wsL_law := List.mem_of_getElem? (i := 473) (by decide +kernel)
theorem mSE_yX5_reaches : Cond.selects RX5 yX5_reaches yX5_reaches ∈ wsL_law := List.mem_of_getElem? (i := 474) (by decide +kernel)
theorem mCO_yX5_reaches : Cond.code yX5_reaches cX5_reaches 5 (some .int) ∈ wsL_law := List.mem_of_getElem? (i := 475) (by decide +kernel)
theorem mML_X5_143 : Cond.methodLink RX5 143 yX1_copyFrom ∈ wsL_law := List.mem_of_getElem? (i := 476) (by decide +kernel)
theorem mML_X5_146 : Cond.methodLink RX5 146 yX2_blockNumber ∈ wsL_law := List.mem_of_getElem? (i := 477) (by decide +kernel)
theorem mML_X5_149 : Cond.methodLink RX5 149 yX1_tick ∈ wsL_law := List.mem_of_getElem? (i := 478) (by decide +kernel)
theorem mML_L_68 : Cond.methodLink RL 68 yX6_reaches ∈ wsL_law := List.mem_of_getElem? (i := 479) (by decide +kernel)
theorem mIM_yX6_reaches : Cond.instanceMethod yX6_reaches ∈ wsL_law := List.mem_of_getElem? (i := 480) (by decide +kernel)
theorem mSE_yX6_reaches : Cond.selects RX6 yX6_reaches yX6_reaches ∈ wsL_law := List.mem_of_getElem? (i := 481) (by decide +kernel)
theorem mCO_yX6_reaches : Cond.code yX6_reaches cX6_reaches 5 (some .int) ∈ wsL_law := List.mem_of_getElem? (i := 482) (by decide +kernel)
theorem mML_X6_124 : Cond.methodLink RX6 124 yX6_putAside ∈ wsL_law := List.mem_of_getElem? (i := 483) (by decide +kernel)
theorem mIM_yX6_putAside : Cond.instanceMethod yX6_putAside ∈ wsL_law := List.mem_of_getElem? (i := 484) (by decide +kernel)
theorem mSE_yX6_putAside : Cond.selects RX6 yX6_putAside yX6_putAside ∈ wsL_law := List.mem_of_getElem? (i := 485) (by decide +kernel)
theorem mCO_yX6_putAside : Cond.code yX6_putAside cX6_putAside 2 none ∈ wsL_law := List.mem_of_getElem? (i := 486) (by decide +kernel)
theorem mML_X6_127 : Cond.methodLink RX6 127 yX6_takeBack ∈ wsL_law := List.mem_of_getElem? (i := 487) (by decide +kernel)
theorem mIM_yX6_takeBack : Cond.instanceMethod yX6_takeBack ∈ wsL_law := List.mem_of_getElem? (i := 488) (by decide +kernel)
theorem mSE_yX6_takeBack : Cond.selects RX6 yX6_takeBack yX6_takeBack ∈ wsL_law := List.mem_of_getElem? (i := 489) (by decide +kernel)
theorem mCO_yX6_takeBack : Cond.code yX6_takeBack cX6_takeBack 2 none ∈ wsL_law := List.mem_of_getElem? (i := 490) (by decide +kernel)
theorem mML_L_69 : Cond.methodLink RL 69 yX5_settles ∈ wsL_law := List.mem_of_getElem? (i := 491) (by decide +kernel)
theorem mIM_yX5_settles : Cond.instanceMethod yX5_settles ∈ wsL_law := List.mem_of_getElem? (i := 492) (by decide +kernel)
theorem mSE_yX5_settles : Cond.selects RX5 yX5_settles yX5_settles ∈ wsL_law := List.mem_of_getElem? (i := 493) (by decide +kernel)
theorem mCO_yX5_settles : Cond.code yX5_settles cX5_settles 3 (some .int) ∈ wsL_law := List.mem_of_getElem? (i := 494) (by decide +kernel)
theorem mML_X5_152 : Cond.methodLink RX5 152 yX2_ticksToGoal ∈ wsL_law := List.mem_of_getElem? (i := 495) (by decide +kernel)
theorem mIM_yX2_ticksToGoal : Cond.instanceMethod yX2_ticksToGoal ∈ wsL_law := List.mem_of_getElem? (i := 496) (by decide +kernel)
theorem mSE_yX2_ticksToGoal : Cond.selects RX2 yX2_ticksToGoal yX2_ticksToGoal ∈ wsL_law := List.mem_of_getElem? (i := 497) (by decide +kernel)
theorem mCO_yX2_ticksToGoal : Cond.code yX2_ticksToGoal cX2_ticksToGoal 3 (some .int) ∈ wsL_law := List.mem_of_getElem? (i := 498) (by decide +kernel)
theorem mML_X2_56 : Cond.methodLink RX2 56 Lib.Math.abs.name ∈ wsL_law := List.mem_of_getElem? (i := 499) (by decide +kernel)
theorem mST_LMabs : Cond.static Lib.Math.abs.name ∈ wsL_law := List.mem_of_getElem? (i := 500) (by decide +kernel)
theorem mCO_LMabs : Cond.code Lib.Math.abs.name Lib.Math.abs.code 1 (some .int) ∈ wsL_law := List.mem_of_getElem? (i := 501) (by decide +kernel)
theorem mML_L_72 : Cond.methodLink RL 72 yX6_settles ∈ wsL_law := List.mem_of_getElem? (i := 502) (by decide +kernel)
theorem mIM_yX6_settles : Cond.instanceMethod yX6_settles ∈ wsL_law := List.mem_of_getElem? (i := 503) (by decide +kernel)
theorem mSE_yX6_settles : Cond.selects RX6 yX6_settles yX6_settles ∈ wsL_law := List.mem_of_getElem? (i := 504) (by decide +kernel)
theorem mCO_yX6_settles : Cond.code yX6_settles cX6_settles 5 (some .int) ∈ wsL_law := List.mem_of_getElem? (i := 505) (by decide +kernel)
theorem mML_L_73 : Cond.methodLink RL 73 yX5_meets ∈ wsL_law := List.mem_of_getElem? (i := 506) (by decide +kernel)
theorem mIM_yX5_meets : Cond.instanceMethod yX5_meets ∈ wsL_law := List.mem_of_getElem? (i := 507) (by decide +kernel)
theorem mSE_yX5_meets : Cond.selects RX5 yX5_meets yX5_meets ∈ wsL_law := List.mem_of_getElem? (i := 508) (by decide +kernel)
theorem mCO_yX5_meets : Cond.code yX5_meets cX5_meets 6 (some .int) ∈ wsL_law := List.mem_of_getElem? (i := 509) (by decide +kernel)
theorem mML_L_76 : Cond.methodLink RL 76 yX6_meets ∈ wsL_law := List.mem_of_getElem? (i := 510) (by decide +kernel)
theorem mIM_yX6_meets : Cond.instanceMethod yX6_meets ∈ wsL_law := List.mem_of_getElem? (i := 511) (by decide +kernel)
theorem mSE_yX6_meets : Cond.selects RX6 yX6_meets yX6_meets ∈ wsL_law := List.mem_of_getElem? (i := 512) (by decide +kernel)
theorem mCO_yX6_meets : Cond.code yX6_meets cX6_meets 6 (some .int) ∈ wsL_law := List.mem_of_getElem? (i := 513) (by decide +kernel)
theorem mML_L_77 : Cond.methodLink RL 77 yX5_stepFor ∈ wsL_law := List.mem_of_getElem? (i := 514) (by decide +kernel)
theorem mIM_yX5_stepFor : Cond.instanceMethod yX5_stepFor ∈ wsL_law := List.mem_of_getElem? (i := 515) (by decide +kernel)
theorem mSE_yX5_stepFor : Cond.selects RX5 yX5_stepFor yX5_stepFor ∈ wsL_law := List.mem_of_getElem? (i := 516) (by decide +kernel)
theorem mCO_yX5_stepFor : Cond.code yX5_stepFor cX5_stepFor 5 (some .int) ∈ wsL_law := List.mem_of_getElem? (i := 517) (by decide +kernel)
theorem mFL_X5_159 : Cond.fieldLink RX5 159 "LocoFrames$Loco" "curve" "I" ∈ wsL_law := List.mem_of_getElem? (i := 518) (by decide +kernel)
theorem mML_X5_162 : Cond.methodLink RX5 162 yX5_curveSpeed ∈ wsL_law := List.mem_of_getElem? (i := 519) (by decide +kernel)
theorem mML_L_80 : Cond.methodLink RL 80 yX6_stepFor ∈ wsL_law := List.mem_of_getElem? (i := 520) (by decide +kernel)
theorem mIM_yX6_stepFor : Cond.instanceMethod yX6_stepFor ∈ wsL_law := List.mem_of_getElem? (i := 521) (by decide +kernel)
theorem mSE_yX6_stepFor : Cond.selects RX6 yX6_stepFor yX6_stepFor ∈ wsL_law := List.mem_of_getElem? (i := 522) (by decide +kernel)
theorem mCO_yX6_stepFor : Cond.code yX6_stepFor cX6_stepFor 5 (some .int) ∈ wsL_law := List.mem_of_getElem? (i := 523) (by decide +kernel)
theorem mML_L_83 : Cond.methodLink RL 83 yX5_put ∈ wsL_law := List.mem_of_getElem? (i := 524) (by decide +kernel)
theorem mIM_yX5_put : Cond.instanceMethod yX5_put ∈ wsL_law := List.mem_of_getElem? (i := 525) (by decide +kernel)
theorem mSE_yX5_put : Cond.selects RX5 yX5_put yX5_put ∈ wsL_law := List.mem_of_getElem? (i := 526) (by decide +kernel)
theorem mCO_yX5_put : Cond.code yX5_put cX5_put 3 (some .int) ∈ wsL_law := List.mem_of_getElem? (i := 527) (by decide +kernel)
theorem mML_X5_165 : Cond.methodLink RX5 165 yX3_append ∈ wsL_law := List.mem_of_getElem? (i := 528) (by decide +kernel)
theorem mIM_yX3_append : Cond.instanceMethod yX3_append ∈ wsL_law := List.mem_of_getElem? (i := 529) (by decide +kernel)
theorem mSE_yX3_append : Cond.selects RX3 yX3_append yX3_append ∈ wsL_law := List.mem_of_getElem? (i := 530) (by decide +kernel)
theorem mCO_yX3_append : Cond.code yX3_append cX3_append 5 (some .int) ∈ wsL_law := List.mem_of_getElem? (i := 531) (by decide +kernel)
theorem mFL_X3_23 : Cond.fieldLink RX3 23 "LocoFrames$Pad" "length" "I" ∈ wsL_law := List.mem_of_getElem? (i := 532) (by decide +kernel)
theorem mML_X3_19 : Cond.methodLink RX3 19 yX3_countOf ∈ wsL_law := List.mem_of_getElem? (i := 533) (by decide +kernel)
theorem mST_yX3_countOf : Cond.static yX3_countOf ∈ wsL_law := List.mem_of_getElem? (i := 534) (by decide +kernel)
theorem mCO_yX3_countOf : Cond.code yX3_countOf cX3_countOf 4 (some .int) ∈ wsL_law := List.mem_of_getElem? (i := 535) (by decide +kernel)
theorem mML_X3_27 : Cond.methodLink RX3 27 yX3_codeAt ∈ wsL_law := List.mem_of_getElem? (i := 536) (by decide +kernel)
theorem mST_yX3_codeAt : Cond.static yX3_codeAt ∈ wsL_law := List.mem_of_getElem? (i := 537) (by decide +kernel)
theorem mCO_yX3_codeAt : Cond.code yX3_codeAt cX3_codeAt 3 (some .int) ∈ wsL_law := List.mem_of_getElem? (i := 538) (by decide +kernel)
theorem mML_L_87 : Cond.methodLink RL 87 yX6_put ∈ wsL_law := List.mem_of_getElem? (i := 539) (by decide +kernel)
theorem mIM_yX6_put : Cond.instanceMethod yX6_put ∈ wsL_law := List.mem_of_getElem? (i := 540) (by decide +kernel)
theorem mSE_yX6_put : Cond.selects RX6 yX6_put yX6_put ∈ wsL_law := List.mem_of_getElem? (i := 541) (by decide +kernel)
theorem mCO_yX6_put : Cond.code yX6_put cX6_put 8 (some .int) ∈ wsL_law := List.mem_of_getElem? (i := 542) (by decide +kernel)
theorem mCN_X6_130 : Cond.constantLong RX6 130 (255) ∈ wsL_law := List.mem_of_getElem? (i := 543) (by decide +kernel)
theorem mML_L_88 : Cond.methodLink RL 88 yX5_wipe ∈ wsL_law := List.mem_of_getElem? (i := 544) (by decide +kernel)
theorem mIM_yX5_wipe : Cond.instanceMethod yX5_wipe ∈ wsL_law := List.mem_of_getElem? (i := 545) (by decide +kernel)
theorem mSE_yX5_wipe : Cond.selects RX5 yX5_wipe yX5_wipe ∈ wsL_law := List.mem_of_getElem? (i := 546) (by decide +kernel)
theorem mCO_yX5_wipe : Cond.code yX5_wipe cX5_wipe 1 (some .int) ∈ wsL_law := List.mem_of_getElem? (i := 547) (by decide +kernel)
theorem mML_X5_169 : Cond.methodLink RX5 169 yX3_clear ∈ wsL_law := List.mem_of_getElem? (i := 548) (by decide +kernel)
theorem mIM_yX3_clear : Cond.instanceMethod yX3_clear ∈ wsL_law := List.mem_of_getElem? (i := 549) (by decide +kernel)
theorem mSE_yX3_clear : Cond.selects RX3 yX3_clear yX3_clear ∈ wsL_law := List.mem_of_getElem? (i := 550) (by decide +kernel)
theorem mCO_yX3_clear : Cond.code yX3_clear cX3_clear 2 (some .int) ∈ wsL_law := List.mem_of_getElem? (i := 551) (by decide +kernel)
theorem mML_L_92 : Cond.methodLink RL 92 yX6_wipe ∈ wsL_law := List.mem_of_getElem? (i := 552) (by decide +kernel)
theorem mIM_yX6_wipe : Cond.instanceMethod yX6_wipe ∈ wsL_law := List.mem_of_getElem? (i := 553) (by decide +kernel)
theorem mSE_yX6_wipe : Cond.selects RX6 yX6_wipe yX6_wipe ∈ wsL_law := List.mem_of_getElem? (i := 554) (by decide +kernel)
theorem mCO_yX6_wipe : Cond.code yX6_wipe cX6_wipe 2 (some .int) ∈ wsL_law := List.mem_of_getElem? (i := 555) (by decide +kernel)
theorem mML_L_93 : Cond.methodLink RL 93 yX5_fault ∈ wsL_law := List.mem_of_getElem? (i := 556) (by decide +kernel)
theorem mIM_yX5_fault : Cond.instanceMethod yX5_fault ∈ wsL_law := List.mem_of_getElem? (i := 557) (by decide +kernel)
theorem mSE_yX5_fault : Cond.selects RX5 yX5_fault yX5_fault ∈ wsL_law := List.mem_of_getElem? (i := 558) (by decide +kernel)
theorem mCO_yX5_fault : Cond.code yX5_fault cX5_fault 1 (some .int) ∈ wsL_law := List.mem_of_getElem? (i := 559) (by decide +kernel)
theorem mML_X5_172 : Cond.methodLink RX5 172 yX3_firstFault ∈ wsL_law := List.mem_of_getElem? (i := 560) (by decide +kernel)
theorem mIM_yX3_firstFault : Cond.instanceMethod yX3_firstFault ∈ wsL_law := List.mem_of_getElem? (i := 561) (by decide +kernel)
theorem mSE_yX3_firstFault : Cond.selects RX3 yX3_firstFault yX3_firstFault ∈ wsL_law := List.mem_of_getElem? (i := 562) (by decide +kernel)
theorem mCO_yX3_firstFault : Cond.code yX3_firstFault cX3_firstFault 2 (some .int) ∈ wsL_law := List.mem_of_getElem? (i := 563) (by decide +kernel)
theorem mFL_X3_35 : Cond.fieldLink RX3 35 "LocoFrames$Pad" "at" "I" ∈ wsL_law := List.mem_of_getElem? (i := 564) (by decide +kernel)
theorem mML_X3_38 : Cond.methodLink RX3 38 yX3_rewind ∈ wsL_law := List.mem_of_getElem? (i := 565) (by decide +kernel)
theorem mIM_yX3_rewind : Cond.instanceMethod yX3_rewind ∈ wsL_law := List.mem_of_getElem? (i := 566) (by decide +kernel)
theorem mSE_yX3_rewind : Cond.selects RX3 yX3_rewind yX3_rewind ∈ wsL_law := List.mem_of_getElem? (i := 567) (by decide +kernel)
theorem mCO_yX3_rewind : Cond.code yX3_rewind cX3_rewind 1 none ∈ wsL_law := List.mem_of_getElem? (i := 568) (by decide +kernel)
theorem mML_X3_41 : Cond.methodLink RX3 41 yX3_readsOrder ∈ wsL_law := List.mem_of_getElem? (i := 569) (by decide +kernel)
theorem mIM_yX3_readsOrder : Cond.instanceMethod yX3_readsOrder ∈ wsL_law := List.mem_of_getElem? (i := 570) (by decide +kernel)
theorem mSE_yX3_readsOrder : Cond.selects RX3 yX3_readsOrder yX3_readsOrder ∈ wsL_law := List.mem_of_getElem? (i := 571) (by decide +kernel)
theorem mCO_yX3_readsOrder : Cond.code yX3_readsOrder cX3_readsOrder 1 (some .boolean) ∈ wsL_law := List.mem_of_getElem? (i := 572) (by decide +kernel)
theorem mFL_X3_53 : Cond.fieldLink RX3 53 "LocoFrames$Pad" "kind" "I" ∈ wsL_law := List.mem_of_getElem? (i := 573) (by decide +kernel)
theorem mFL_X3_56 : Cond.fieldLink RX3 56 "LocoFrames$Pad" "numbersRead" "I" ∈ wsL_law := List.mem_of_getElem? (i := 574) (by decide +kernel)
theorem mML_X3_49 : Cond.methodLink RX3 49 yX3_here ∈ wsL_law := List.mem_of_getElem? (i := 575) (by decide +kernel)
theorem mIM_yX3_here : Cond.instanceMethod yX3_here ∈ wsL_law := List.mem_of_getElem? (i := 576) (by decide +kernel)
theorem mSE_yX3_here : Cond.selects RX3 yX3_here yX3_here ∈ wsL_law := List.mem_of_getElem? (i := 577) (by decide +kernel)
theorem mCO_yX3_here : Cond.code yX3_here cX3_here 1 (some .int) ∈ wsL_law := List.mem_of_getElem? (i := 578) (by decide +kernel)
theorem mML_X3_59 : Cond.methodLink RX3 59 yX3_readsNumber ∈ wsL_law := List.mem_of_getElem? (i := 579) (by decide +kernel)
theorem mIM_yX3_readsNumber : Cond.instanceMethod yX3_readsNumber ∈ wsL_law := List.mem_of_getElem? (i := 580) (by decide +kernel)
theorem mSE_yX3_readsNumber : Cond.selects RX3 yX3_readsNumber yX3_readsNumber ∈ wsL_law := List.mem_of_getElem? (i := 581) (by decide +kernel)
theorem mCO_yX3_readsNumber : Cond.code yX3_readsNumber cX3_readsNumber 3 (some .boolean) ∈ wsL_law := List.mem_of_getElem? (i := 582) (by decide +kernel)
theorem mML_X3_65 : Cond.methodLink RX3 65 yX3_hold ∈ wsL_law := List.mem_of_getElem? (i := 583) (by decide +kernel)
theorem mIM_yX3_hold : Cond.instanceMethod yX3_hold ∈ wsL_law := List.mem_of_getElem? (i := 584) (by decide +kernel)
theorem mSE_yX3_hold : Cond.selects RX3 yX3_hold yX3_hold ∈ wsL_law := List.mem_of_getElem? (i := 585) (by decide +kernel)
theorem mCO_yX3_hold : Cond.code yX3_hold cX3_hold 2 none ∈ wsL_law := List.mem_of_getElem? (i := 586) (by decide +kernel)
theorem mML_X3_45 : Cond.methodLink RX3 45 yX3_reads ∈ wsL_law := List.mem_of_getElem? (i := 587) (by decide +kernel)
theorem mIM_yX3_reads : Cond.instanceMethod yX3_reads ∈ wsL_law := List.mem_of_getElem? (i := 588) (by decide +kernel)
theorem mSE_yX3_reads : Cond.selects RX3 yX3_reads yX3_reads ∈ wsL_law := List.mem_of_getElem? (i := 589) (by decide +kernel)
theorem mCO_yX3_reads : Cond.code yX3_reads cX3_reads 2 (some .boolean) ∈ wsL_law := List.mem_of_getElem? (i := 590) (by decide +kernel)
theorem mML_X3_62 : Cond.methodLink RX3 62 yX3_readsDigit ∈ wsL_law := List.mem_of_getElem? (i := 591) (by decide +kernel)
theorem mIM_yX3_readsDigit : Cond.instanceMethod yX3_readsDigit ∈ wsL_law := List.mem_of_getElem? (i := 592) (by decide +kernel)
theorem mSE_yX3_readsDigit : Cond.selects RX3 yX3_readsDigit yX3_readsDigit ∈ wsL_law := List.mem_of_getElem? (i := 593) (by decide +kernel)
theorem mCO_yX3_readsDigit : Cond.code yX3_readsDigit cX3_readsDigit 2 (some .boolean) ∈ wsL_law := List.mem_of_getElem? (i := 594) (by decide +kernel)
theorem mML_L_96 : Cond.methodLink RL 96 yX6_fault ∈ wsL_law := List.mem_of_getElem? (i := 595) (by decide +kernel)
theorem mIM_yX6_fault : Cond.instanceMethod yX6_fault ∈ wsL_law := List.mem_of_getElem? (i := 596) (by decide +kernel)
theorem mSE_yX6_fault : Cond.selects RX6 yX6_fault yX6_fault ∈ wsL_law := List.mem_of_getElem? (i := 597) (by decide +kernel)
theorem mCO_yX6_fault : Cond.code yX6_fault cX6_fault 1 (some .int) ∈ wsL_law := List.mem_of_getElem? (i := 598) (by decide +kernel)
theorem mML_X6_157 : Cond.methodLink RX6 157 yX6_reads ∈ wsL_law := List.mem_of_getElem? (i := 599) (by decide +kernel)
theorem mIM_yX6_reads : Cond.instanceMethod yX6_reads ∈ wsL_law := List.mem_of_getElem? (i := 600) (by decide +kernel)
theorem mSE_yX6_reads : Cond.selects RX6 yX6_reads yX6_reads ∈ wsL_law := List.mem_of_getElem? (i := 601) (by decide +kernel)
theorem mCO_yX6_reads : Cond.code yX6_reads cX6_reads 1 (some .int) ∈ wsL_law := List.mem_of_getElem? (i := 602) (by decide +kernel)
theorem mFL_X6_132 : Cond.fieldLink RX6 132 "LocoFramesModel" "at" "I" ∈ wsL_law := List.mem_of_getElem? (i := 603) (by decide +kernel)
theorem mFL_X6_135 : Cond.fieldLink RX6 135 "LocoFramesModel" "isWell" "Z" ∈ wsL_law := List.mem_of_getElem? (i := 604) (by decide +kernel)
theorem mFL_X6_145 : Cond.fieldLink RX6 145 "LocoFramesModel" "toldMany" "I" ∈ wsL_law := List.mem_of_getElem? (i := 605) (by decide +kernel)
theorem mML_X6_154 : Cond.methodLink RX6 154 yX6_readsOrder ∈ wsL_law := List.mem_of_getElem? (i := 606) (by decide +kernel)
theorem mIM_yX6_readsOrder : Cond.instanceMethod yX6_readsOrder ∈ wsL_law := List.mem_of_getElem? (i := 607) (by decide +kernel)
theorem mSE_yX6_readsOrder : Cond.selects RX6 yX6_readsOrder yX6_readsOrder ∈ wsL_law := List.mem_of_getElem? (i := 608) (by decide +kernel)
theorem mCO_yX6_readsOrder : Cond.code yX6_readsOrder cX6_readsOrder 3 none ∈ wsL_law := List.mem_of_getElem? (i := 609) (by decide +kernel)
theorem mML_X6_139 : Cond.methodLink RX6 139 yX6_sign ∈ wsL_law := List.mem_of_getElem? (i := 610) (by decide +kernel)
theorem mIM_yX6_sign : Cond.instanceMethod yX6_sign ∈ wsL_law := List.mem_of_getElem? (i := 611) (by decide +kernel)
theorem mSE_yX6_sign : Cond.selects RX6 yX6_sign yX6_sign ∈ wsL_law := List.mem_of_getElem? (i := 612) (by decide +kernel)
theorem mCO_yX6_sign : Cond.code yX6_sign cX6_sign 1 (some .int) ∈ wsL_law := List.mem_of_getElem? (i := 613) (by decide +kernel)
theorem mML_X6_142 : Cond.methodLink RX6 142 yX6_digit ∈ wsL_law := List.mem_of_getElem? (i := 614) (by decide +kernel)
theorem mIM_yX6_digit : Cond.instanceMethod yX6_digit ∈ wsL_law := List.mem_of_getElem? (i := 615) (by decide +kernel)
theorem mSE_yX6_digit : Cond.selects RX6 yX6_digit yX6_digit ∈ wsL_law := List.mem_of_getElem? (i := 616) (by decide +kernel)
theorem mCO_yX6_digit : Cond.code yX6_digit cX6_digit 3 (some .int) ∈ wsL_law := List.mem_of_getElem? (i := 617) (by decide +kernel)
theorem mML_X6_148 : Cond.methodLink RX6 148 yX6_number ∈ wsL_law := List.mem_of_getElem? (i := 618) (by decide +kernel)
theorem mIM_yX6_number : Cond.instanceMethod yX6_number ∈ wsL_law := List.mem_of_getElem? (i := 619) (by decide +kernel)
theorem mSE_yX6_number : Cond.selects RX6 yX6_number yX6_number ∈ wsL_law := List.mem_of_getElem? (i := 620) (by decide +kernel)
theorem mCO_yX6_number : Cond.code yX6_number cX6_number 3 (some .int) ∈ wsL_law := List.mem_of_getElem? (i := 621) (by decide +kernel)
theorem mML_X6_151 : Cond.methodLink RX6 151 yX6_wants ∈ wsL_law := List.mem_of_getElem? (i := 622) (by decide +kernel)
theorem mIM_yX6_wants : Cond.instanceMethod yX6_wants ∈ wsL_law := List.mem_of_getElem? (i := 623) (by decide +kernel)
theorem mSE_yX6_wants : Cond.selects RX6 yX6_wants yX6_wants ∈ wsL_law := List.mem_of_getElem? (i := 624) (by decide +kernel)
theorem mCO_yX6_wants : Cond.code yX6_wants cX6_wants 2 none ∈ wsL_law := List.mem_of_getElem? (i := 625) (by decide +kernel)
theorem mML_L_97 : Cond.methodLink RL 97 yX5_carryOut ∈ wsL_law := List.mem_of_getElem? (i := 626) (by decide +kernel)
theorem mIM_yX5_carryOut : Cond.instanceMethod yX5_carryOut ∈ wsL_law := List.mem_of_getElem? (i := 627) (by decide +kernel)
theorem mSE_yX5_carryOut : Cond.selects RX5 yX5_carryOut yX5_carryOut ∈ wsL_law := List.mem_of_getElem? (i := 628) (by decide +kernel)
theorem mCO_yX5_carryOut : Cond.code yX5_carryOut cX5_carryOut 3 (some .int) ∈ wsL_law := List.mem_of_getElem? (i := 629) (by decide +kernel)
theorem mML_X5_175 : Cond.methodLink RX5 175 yX3_rewind ∈ wsL_law := List.mem_of_getElem? (i := 630) (by decide +kernel)
theorem mML_X5_178 : Cond.methodLink RX5 178 yX3_readsOrder ∈ wsL_law := List.mem_of_getElem? (i := 631) (by decide +kernel)
theorem mML_X5_182 : Cond.methodLink RX5 182 yX5_carriesOne ∈ wsL_law := List.mem_of_getElem? (i := 632) (by decide +kernel)
theorem mIM_yX5_carriesOne : Cond.instanceMethod yX5_carriesOne ∈ wsL_law := List.mem_of_getElem? (i := 633) (by decide +kernel)
theorem mSE_yX5_carriesOne : Cond.selects RX5 yX5_carriesOne yX5_carriesOne ∈ wsL_law := List.mem_of_getElem? (i := 634) (by decide +kernel)
theorem mCO_yX5_carriesOne : Cond.code yX5_carriesOne cX5_carriesOne 2 (some .boolean) ∈ wsL_law := List.mem_of_getElem? (i := 635) (by decide +kernel)
theorem mFL_X5_192 : Cond.fieldLink RX5 192 "LocoFrames$Pad" "kind" "I" ∈ wsL_law := List.mem_of_getElem? (i := 636) (by decide +kernel)
theorem mFL_X5_195 : Cond.fieldLink RX5 195 "LocoFrames$Pad" "numbers" "[I" ∈ wsL_law := List.mem_of_getElem? (i := 637) (by decide +kernel)
theorem mML_X5_185 : Cond.methodLink RX5 185 yX3_reads ∈ wsL_law := List.mem_of_getElem? (i := 638) (by decide +kernel)
theorem mML_L_100 : Cond.methodLink RL 100 yX6_carryOut ∈ wsL_law := List.mem_of_getElem? (i := 639) (by decide +kernel)
theorem mIM_yX6_carryOut : Cond.instanceMethod yX6_carryOut ∈ wsL_law := List.mem_of_getElem? (i := 640) (by decide +kernel)
theorem mSE_yX6_carryOut : Cond.selects RX6 yX6_carryOut yX6_carryOut ∈ wsL_law := List.mem_of_getElem? (i := 641) (by decide +kernel)
theorem mCO_yX6_carryOut : Cond.code yX6_carryOut cX6_carryOut 2 (some .int) ∈ wsL_law := List.mem_of_getElem? (i := 642) (by decide +kernel)
theorem mML_X6_160 : Cond.methodLink RX6 160 yX6_refuses ∈ wsL_law := List.mem_of_getElem? (i := 643) (by decide +kernel)
theorem mIM_yX6_refuses : Cond.instanceMethod yX6_refuses ∈ wsL_law := List.mem_of_getElem? (i := 644) (by decide +kernel)
theorem mSE_yX6_refuses : Cond.selects RX6 yX6_refuses yX6_refuses ∈ wsL_law := List.mem_of_getElem? (i := 645) (by decide +kernel)
theorem mCO_yX6_refuses : Cond.code yX6_refuses cX6_refuses 2 (some .int) ∈ wsL_law := List.mem_of_getElem? (i := 646) (by decide +kernel)
theorem mML_X6_163 : Cond.methodLink RX6 163 yX6_does ∈ wsL_law := List.mem_of_getElem? (i := 647) (by decide +kernel)
theorem mIM_yX6_does : Cond.instanceMethod yX6_does ∈ wsL_law := List.mem_of_getElem? (i := 648) (by decide +kernel)
theorem mSE_yX6_does : Cond.selects RX6 yX6_does yX6_does ∈ wsL_law := List.mem_of_getElem? (i := 649) (by decide +kernel)
theorem mCO_yX6_does : Cond.code yX6_does cX6_does 2 none ∈ wsL_law := List.mem_of_getElem? (i := 650) (by decide +kernel)
theorem mML_L_101 : Cond.methodLink RL 101 yX5_undo ∈ wsL_law := List.mem_of_getElem? (i := 651) (by decide +kernel)
theorem mIM_yX5_undo : Cond.instanceMethod yX5_undo ∈ wsL_law := List.mem_of_getElem? (i := 652) (by decide +kernel)
theorem mSE_yX5_undo : Cond.selects RX5 yX5_undo yX5_undo ∈ wsL_law := List.mem_of_getElem? (i := 653) (by decide +kernel)
theorem mCO_yX5_undo : Cond.code yX5_undo cX5_undo 1 (some .int) ∈ wsL_law := List.mem_of_getElem? (i := 654) (by decide +kernel)
theorem mML_X5_188 : Cond.methodLink RX5 188 yX0_takeBack ∈ wsL_law := List.mem_of_getElem? (i := 655) (by decide +kernel)
theorem mIM_yX0_takeBack : Cond.instanceMethod yX0_takeBack ∈ wsL_law := List.mem_of_getElem? (i := 656) (by decide +kernel)
theorem mSE_yX0_takeBack : Cond.selects RX0 yX0_takeBack yX0_takeBack ∈ wsL_law := List.mem_of_getElem? (i := 657) (by decide +kernel)
theorem mCO_yX0_takeBack : Cond.code yX0_takeBack cX0_takeBack 2 (some .int) ∈ wsL_law := List.mem_of_getElem? (i := 658) (by decide +kernel)
theorem mML_L_104 : Cond.methodLink RL 104 yX6_undo ∈ wsL_law := List.mem_of_getElem? (i := 659) (by decide +kernel)
theorem mIM_yX6_undo : Cond.instanceMethod yX6_undo ∈ wsL_law := List.mem_of_getElem? (i := 660) (by decide +kernel)
theorem mSE_yX6_undo : Cond.selects RX6 yX6_undo yX6_undo ∈ wsL_law := List.mem_of_getElem? (i := 661) (by decide +kernel)
theorem mCO_yX6_undo : Cond.code yX6_undo cX6_undo 2 (some .int) ∈ wsL_law := List.mem_of_getElem? (i := 662) (by decide +kernel)
theorem mML_L_105 : Cond.methodLink RL 105 yX5_save ∈ wsL_law := List.mem_of_getElem? (i := 663) (by decide +kernel)
theorem mIM_yX5_save : Cond.instanceMethod yX5_save ∈ wsL_law := List.mem_of_getElem? (i := 664) (by decide +kernel)
theorem mSE_yX5_save : Cond.selects RX5 yX5_save yX5_save ∈ wsL_law := List.mem_of_getElem? (i := 665) (by decide +kernel)
theorem mCO_yX5_save : Cond.code yX5_save cX5_save 2 (some .int) ∈ wsL_law := List.mem_of_getElem? (i := 666) (by decide +kernel)
theorem mML_L_108 : Cond.methodLink RL 108 yX6_save ∈ wsL_law := List.mem_of_getElem? (i := 667) (by decide +kernel)
theorem mIM_yX6_save : Cond.instanceMethod yX6_save ∈ wsL_law := List.mem_of_getElem? (i := 668) (by decide +kernel)
theorem mSE_yX6_save : Cond.selects RX6 yX6_save yX6_save ∈ wsL_law := List.mem_of_getElem? (i := 669) (by decide +kernel)
theorem mCO_yX6_save : Cond.code yX6_save cX6_save 3 (some .int) ∈ wsL_law := List.mem_of_getElem? (i := 670) (by decide +kernel)
theorem mML_L_109 : Cond.methodLink RL 109 yX5_restore ∈ wsL_law := List.mem_of_getElem? (i := 671) (by decide +kernel)
theorem mIM_yX5_restore : Cond.instanceMethod yX5_restore ∈ wsL_law := List.mem_of_getElem? (i := 672) (by decide +kernel)
theorem mSE_yX5_restore : Cond.selects RX5 yX5_restore yX5_restore ∈ wsL_law := List.mem_of_getElem? (i := 673) (by decide +kernel)
theorem mCO_yX5_restore : Cond.code yX5_restore cX5_restore 2 (some .int) ∈ wsL_law := List.mem_of_getElem? (i := 674) (by decide +kernel)
theorem mML_L_112 : Cond.methodLink RL 112 yX6_restore ∈ wsL_law := List.mem_of_getElem? (i := 675) (by decide +kernel)
theorem mIM_yX6_restore : Cond.instanceMethod yX6_restore ∈ wsL_law := List.mem_of_getElem? (i := 676) (by decide +kernel)
theorem mSE_yX6_restore : Cond.selects RX6 yX6_restore yX6_restore ∈ wsL_law := List.mem_of_getElem? (i := 677) (by decide +kernel)
theorem mCO_yX6_restore : Cond.code yX6_restore cX6_restore 3 (some .int) ∈ wsL_law := List.mem_of_getElem? (i := 678) (by decide +kernel)
set_option maxRecDepth 100000 in
theorem gAll : GoodIn wsL_law wsL_law := goodIn_sub (fun _ h => h) (by decide +kernel)
theorem gw {y : MethodName} {b : ByteArray} {n : Nat} {r : Option FieldType} (hc : Cond.code y b n r ∈ wsL_law) : GoodIn wsL_law (wz y b n r) := fun w h => by
  rcases List.mem_cons.mp h with rfl | h
  · exact gAll _ hc
  · exact gAll w h
theorem gV {own C : String} {idx : Nat} {y : MethodName} {b : ByteArray} {n : Nat} {r : Option FieldType} (h1 : Cond.methodLink own idx y ∈ wsL_law) (h2 : Cond.instanceMethod y ∈ wsL_law) (h3 : Cond.selects C y y ∈ wsL_law) (h4 : Cond.initialized C ∈ wsL_law) (hc : Cond.code y b n r ∈ wsL_law) : GoodIn wsL_law (wsV own idx C y (wz y b n r)) := fun w h => by
  rcases List.mem_append.mp h with h | h
  · simp only [List.mem_cons, List.not_mem_nil, or_false] at h
    rcases h with rfl | rfl | rfl | rfl
    · exact gAll _ h1
    · exact gAll _ h2
    · exact gAll _ h3
    · exact gAll _ h4
  · exact gw hc w h
theorem gS {own : String} {idx : Nat} {y : MethodName} {b : ByteArray} {n : Nat} {r : Option FieldType} (h1 : Cond.methodLink own idx y ∈ wsL_law) (h2 : Cond.static y ∈ wsL_law) (h4 : Cond.initialized y.cls ∈ wsL_law) (hc : Cond.code y b n r ∈ wsL_law) : GoodIn wsL_law (va_wsS own idx y (wz y b n r)) := fun w h => by
  rcases List.mem_append.mp h with h | h
  · simp only [List.mem_cons, List.not_mem_nil, or_false] at h
    rcases h with rfl | rfl | rfl
    · exact gAll _ h1
    · exact gAll _ h2
    · exact gAll _ h4
  · exact gw hc w h
theorem lk_L_100 : GoodIn wsL_law (wsV RL 100 RX6 yX6_carryOut (wz yX6_carryOut cX6_carryOut 2 (some .int))) := gV mML_L_100 mIM_yX6_carryOut mSE_yX6_carryOut mIN_RX6 mCO_yX6_carryOut
theorem lk_L_101 : GoodIn wsL_law (wsV RL 101 RX5 yX5_undo (wz yX5_undo cX5_undo 1 (some .int))) := gV mML_L_101 mIM_yX5_undo mSE_yX5_undo mIN_RX5 mCO_yX5_undo
theorem lk_L_104 : GoodIn wsL_law (wsV RL 104 RX6 yX6_undo (wz yX6_undo cX6_undo 2 (some .int))) := gV mML_L_104 mIM_yX6_undo mSE_yX6_undo mIN_RX6 mCO_yX6_undo
theorem lk_L_105 : GoodIn wsL_law (wsV RL 105 RX5 yX5_save (wz yX5_save cX5_save 2 (some .int))) := gV mML_L_105 mIM_yX5_save mSE_yX5_save mIN_RX5 mCO_yX5_save
theorem lk_L_108 : GoodIn wsL_law (wsV RL 108 RX6 yX6_save (wz yX6_save cX6_save 3 (some .int))) := gV mML_L_108 mIM_yX6_save mSE_yX6_save mIN_RX6 mCO_yX6_save
theorem lk_L_109 : GoodIn wsL_law (wsV RL 109 RX5 yX5_restore (wz yX5_restore cX5_restore 2 (some .int))) := gV mML_L_109 mIM_yX5_restore mSE_yX5_restore mIN_RX5 mCO_yX5_restore
theorem lk_L_112 : GoodIn wsL_law (wsV RL 112 RX6 yX6_restore (wz yX6_restore cX6_restore 3 (some .int))) := gV mML_L_112 mIM_yX6_restore mSE_yX6_restore mIN_RX6 mCO_yX6_restore
theorem lk_L_13 : GoodIn wsL_law (wsV RL 13 RX5 yX5_loco (wz yX5_loco cX5_loco 5 (some .int))) := gV mML_L_13 mIM_yX5_loco mSE_yX5_loco mIN_RX5 mCO_yX5_loco
theorem lk_L_17 : GoodIn wsL_law (wsV RL 17 RX6 yX6_loco (wz yX6_loco cX6_loco 7 (some .int))) := gV mML_L_17 mIM_yX6_loco mSE_yX6_loco mIN_RX6 mCO_yX6_loco
theorem lk_L_18 : GoodIn wsL_law (wsV RL 18 RX5 yX5_lift (wz yX5_lift cX5_lift 2 (some .int))) := gV mML_L_18 mIM_yX5_lift mSE_yX5_lift mIN_RX5 mCO_yX5_lift
theorem lk_L_22 : GoodIn wsL_law (wsV RL 22 RX6 yX6_lift (wz yX6_lift cX6_lift 4 (some .int))) := gV mML_L_22 mIM_yX6_lift mSE_yX6_lift mIN_RX6 mCO_yX6_lift
theorem lk_L_23 : GoodIn wsL_law (wsV RL 23 RX5 yX5_noise (wz yX5_noise cX5_noise 2 (some .int))) := gV mML_L_23 mIM_yX5_noise mSE_yX5_noise mIN_RX5 mCO_yX5_noise
theorem lk_L_26 : GoodIn wsL_law (wsV RL 26 RX6 yX6_noise (wz yX6_noise cX6_noise 3 (some .int))) := gV mML_L_26 mIM_yX6_noise mSE_yX6_noise mIN_RX6 mCO_yX6_noise
theorem lk_L_27 : GoodIn wsL_law (wsV RL 27 RX5 yX5_order (wz yX5_order cX5_order 4 (some .int))) := gV mML_L_27 mIM_yX5_order mSE_yX5_order mIN_RX5 mCO_yX5_order
theorem lk_L_31 : GoodIn wsL_law (wsV RL 31 RX6 yX6_order (wz yX6_order cX6_order 5 (some .int))) := gV mML_L_31 mIM_yX6_order mSE_yX6_order mIN_RX6 mCO_yX6_order
theorem lk_L_32 : GoodIn wsL_law (wsV RL 32 RX5 yX5_frame (wz yX5_frame cX5_frame 4 (some .int))) := gV mML_L_32 mIM_yX5_frame mSE_yX5_frame mIN_RX5 mCO_yX5_frame
theorem lk_L_35 : GoodIn wsL_law (wsV RL 35 RX6 yX6_frame (wz yX6_frame cX6_frame 5 (some .int))) := gV mML_L_35 mIM_yX6_frame mSE_yX6_frame mIN_RX6 mCO_yX6_frame
theorem lk_L_36 : GoodIn wsL_law (wsV RL 36 RX5 yX5_shorts (wz yX5_shorts cX5_shorts 3 (some .int))) := gV mML_L_36 mIM_yX5_shorts mSE_yX5_shorts mIN_RX5 mCO_yX5_shorts
theorem lk_L_40 : GoodIn wsL_law (wsV RL 40 RX6 yX6_shorts (wz yX6_shorts cX6_shorts 5 (some .int))) := gV mML_L_40 mIM_yX6_shorts mSE_yX6_shorts mIN_RX6 mCO_yX6_shorts
theorem lk_L_41 : GoodIn wsL_law (wsV RL 41 RX5 yX5_pass (wz yX5_pass cX5_pass 2 (some .int))) := gV mML_L_41 mIM_yX5_pass mSE_yX5_pass mIN_RX5 mCO_yX5_pass
theorem lk_L_44 : GoodIn wsL_law (wsV RL 44 RX6 yX6_pass (wz yX6_pass cX6_pass 3 (some .int))) := gV mML_L_44 mIM_yX6_pass mSE_yX6_pass mIN_RX6 mCO_yX6_pass
theorem lk_L_45 : GoodIn wsL_law (wsV RL 45 RX5 yX5_of (wz yX5_of cX5_of 4 (some .int))) := gV mML_L_45 mIM_yX5_of mSE_yX5_of mIN_RX5 mCO_yX5_of
theorem lk_L_48 : GoodIn wsL_law (wsV RL 48 RX6 yX6_of (wz yX6_of cX6_of 4 (some .int))) := gV mML_L_48 mIM_yX6_of mSE_yX6_of mIN_RX6 mCO_yX6_of
theorem lk_L_49 : GoodIn wsL_law (wsV RL 49 RX5 yX5_address (wz yX5_address cX5_address 3 (some .int))) := gV mML_L_49 mIM_yX5_address mSE_yX5_address mIN_RX5 mCO_yX5_address
theorem lk_L_52 : GoodIn wsL_law (wsV RL 52 RX6 yX6_address (wz yX6_address cX6_address 2 (some .int))) := gV mML_L_52 mIM_yX6_address mSE_yX6_address mIN_RX6 mCO_yX6_address
theorem lk_L_53 : GoodIn wsL_law (wsV RL 53 RX5 yX5_waiting (wz yX5_waiting cX5_waiting 3 (some .int))) := gV mML_L_53 mIM_yX5_waiting mSE_yX5_waiting mIN_RX5 mCO_yX5_waiting
theorem lk_L_56 : GoodIn wsL_law (wsV RL 56 RX6 yX6_waiting (wz yX6_waiting cX6_waiting 3 (some .int))) := gV mML_L_56 mIM_yX6_waiting mSE_yX6_waiting mIN_RX6 mCO_yX6_waiting
theorem lk_L_57 : GoodIn wsL_law (wsV RL 57 RX5 yX5_block (wz yX5_block cX5_block 3 (some .int))) := gV mML_L_57 mIM_yX5_block mSE_yX5_block mIN_RX5 mCO_yX5_block
theorem lk_L_60 : GoodIn wsL_law (wsV RL 60 RX6 yX6_block (wz yX6_block cX6_block 3 (some .int))) := gV mML_L_60 mIM_yX6_block mSE_yX6_block mIN_RX6 mCO_yX6_block
theorem lk_L_61 : GoodIn wsL_law (wsV RL 61 RX5 yX5_count (wz yX5_count cX5_count 2 (some .int))) := gV mML_L_61 mIM_yX5_count mSE_yX5_count mIN_RX5 mCO_yX5_count
theorem lk_L_64 : GoodIn wsL_law (wsV RL 64 RX6 yX6_count (wz yX6_count cX6_count 2 (some .int))) := gV mML_L_64 mIM_yX6_count mSE_yX6_count mIN_RX6 mCO_yX6_count
theorem lk_L_65 : GoodIn wsL_law (wsV RL 65 RX5 yX5_reaches (wz yX5_reaches cX5_reaches 5 (some .int))) := gV mML_L_65 mIM_yX5_reaches mSE_yX5_reaches mIN_RX5 mCO_yX5_reaches
theorem lk_L_68 : GoodIn wsL_law (wsV RL 68 RX6 yX6_reaches (wz yX6_reaches cX6_reaches 5 (some .int))) := gV mML_L_68 mIM_yX6_reaches mSE_yX6_reaches mIN_RX6 mCO_yX6_reaches
theorem lk_L_69 : GoodIn wsL_law (wsV RL 69 RX5 yX5_settles (wz yX5_settles cX5_settles 3 (some .int))) := gV mML_L_69 mIM_yX5_settles mSE_yX5_settles mIN_RX5 mCO_yX5_settles
theorem lk_L_72 : GoodIn wsL_law (wsV RL 72 RX6 yX6_settles (wz yX6_settles cX6_settles 5 (some .int))) := gV mML_L_72 mIM_yX6_settles mSE_yX6_settles mIN_RX6 mCO_yX6_settles
theorem lk_L_73 : GoodIn wsL_law (wsV RL 73 RX5 yX5_meets (wz yX5_meets cX5_meets 6 (some .int))) := gV mML_L_73 mIM_yX5_meets mSE_yX5_meets mIN_RX5 mCO_yX5_meets
theorem lk_L_76 : GoodIn wsL_law (wsV RL 76 RX6 yX6_meets (wz yX6_meets cX6_meets 6 (some .int))) := gV mML_L_76 mIM_yX6_meets mSE_yX6_meets mIN_RX6 mCO_yX6_meets
theorem lk_L_77 : GoodIn wsL_law (wsV RL 77 RX5 yX5_stepFor (wz yX5_stepFor cX5_stepFor 5 (some .int))) := gV mML_L_77 mIM_yX5_stepFor mSE_yX5_stepFor mIN_RX5 mCO_yX5_stepFor
theorem lk_L_80 : GoodIn wsL_law (wsV RL 80 RX6 yX6_stepFor (wz yX6_stepFor cX6_stepFor 5 (some .int))) := gV mML_L_80 mIM_yX6_stepFor mSE_yX6_stepFor mIN_RX6 mCO_yX6_stepFor
theorem lk_L_83 : GoodIn wsL_law (wsV RL 83 RX5 yX5_put (wz yX5_put cX5_put 3 (some .int))) := gV mML_L_83 mIM_yX5_put mSE_yX5_put mIN_RX5 mCO_yX5_put
theorem lk_L_87 : GoodIn wsL_law (wsV RL 87 RX6 yX6_put (wz yX6_put cX6_put 8 (some .int))) := gV mML_L_87 mIM_yX6_put mSE_yX6_put mIN_RX6 mCO_yX6_put
theorem lk_L_88 : GoodIn wsL_law (wsV RL 88 RX5 yX5_wipe (wz yX5_wipe cX5_wipe 1 (some .int))) := gV mML_L_88 mIM_yX5_wipe mSE_yX5_wipe mIN_RX5 mCO_yX5_wipe
theorem lk_L_92 : GoodIn wsL_law (wsV RL 92 RX6 yX6_wipe (wz yX6_wipe cX6_wipe 2 (some .int))) := gV mML_L_92 mIM_yX6_wipe mSE_yX6_wipe mIN_RX6 mCO_yX6_wipe
theorem lk_L_93 : GoodIn wsL_law (wsV RL 93 RX5 yX5_fault (wz yX5_fault cX5_fault 1 (some .int))) := gV mML_L_93 mIM_yX5_fault mSE_yX5_fault mIN_RX5 mCO_yX5_fault
theorem lk_L_96 : GoodIn wsL_law (wsV RL 96 RX6 yX6_fault (wz yX6_fault cX6_fault 1 (some .int))) := gV mML_L_96 mIM_yX6_fault mSE_yX6_fault mIN_RX6 mCO_yX6_fault
theorem lk_L_97 : GoodIn wsL_law (wsV RL 97 RX5 yX5_carryOut (wz yX5_carryOut cX5_carryOut 3 (some .int))) := gV mML_L_97 mIM_yX5_carryOut mSE_yX5_carryOut mIN_RX5 mCO_yX5_carryOut
theorem lk_X0_25 : GoodIn wsL_law (wsV RX0 25 RX1 yX1_copyFrom (wz yX1_copyFrom cX1_copyFrom 3 none)) := gV mML_X0_25 mIM_yX1_copyFrom mSE_yX1_copyFrom mIN_RX1 mCO_yX1_copyFrom
theorem lk_X1_102 : GoodIn wsL_law (wsV RX1 102 RX1 yX1_sendFirst (wz yX1_sendFirst cX1_sendFirst 4 (some .int))) := gV mML_X1_102 mIM_yX1_sendFirst mSE_yX1_sendFirst mIN_RX1 mCO_yX1_sendFirst
theorem lk_X1_108 : GoodIn wsL_law (wsV RX1 108 RX2 yX2_changeSpeed (wz yX2_changeSpeed cX2_changeSpeed 2 none)) := gV mML_X1_108 mIM_yX2_changeSpeed mSE_yX2_changeSpeed mIN_RX2 mCO_yX2_changeSpeed
theorem lk_X1_111 : GoodIn wsL_law (wsV RX1 111 RX2 yX2_roll (wz yX2_roll cX2_roll 3 none)) := gV mML_X1_111 mIM_yX2_roll mSE_yX2_roll mIN_RX2 mCO_yX2_roll
theorem lk_X1_129 : GoodIn wsL_law (wsV RX1 129 RX4 yX4_dropFirst (wz yX4_dropFirst cX4_dropFirst 2 none)) := gV mML_X1_129 mIM_yX4_dropFirst mSE_yX4_dropFirst mIN_RX4 mCO_yX4_dropFirst
theorem lk_X1_132 : GoodIn wsL_law (wsV RX1 132 RX1 yX1_takeFrame (wz yX1_takeFrame cX1_takeFrame 7 (some .int))) := gV mML_X1_132 mIM_yX1_takeFrame mSE_yX1_takeFrame mIN_RX1 mCO_yX1_takeFrame
theorem lk_X1_136 : GoodIn wsL_law (wsV RX1 136 RX1 yX1_locosIn (wz yX1_locosIn cX1_locosIn 4 (some .int))) := gV mML_X1_136 mIM_yX1_locosIn mSE_yX1_locosIn mIN_RX1 mCO_yX1_locosIn
theorem lk_X1_33 : GoodIn wsL_law (wsV RX1 33 RX2 yX2_copyFrom (wz yX2_copyFrom cX2_copyFrom 2 none)) := gV mML_X1_33 mIM_yX2_copyFrom mSE_yX2_copyFrom mIN_RX2 mCO_yX2_copyFrom
theorem lk_X1_37 : GoodIn wsL_law (wsV RX1 37 RX4 yX4_copyFrom (wz yX4_copyFrom cX4_copyFrom 2 none)) := gV mML_X1_37 mIM_yX4_copyFrom mSE_yX4_copyFrom mIN_RX4 mCO_yX4_copyFrom
theorem lk_X1_68 : GoodIn wsL_law (wsV RX1 68 RX1 yX1_rankOf (wz yX1_rankOf cX1_rankOf 3 (some .int))) := gV mML_X1_68 mIM_yX1_rankOf mSE_yX1_rankOf mIN_RX1 mCO_yX1_rankOf
theorem lk_X1_72 : GoodIn wsL_law (wsV RX1 72 RX1 yX1_locoAt (wz yX1_locoAt cX1_locoAt 2 (some (.object "LocoFrames$Loco")))) := gV mML_X1_72 mIM_yX1_locoAt mSE_yX1_locoAt mIN_RX1 mCO_yX1_locoAt
theorem lk_X1_79 : GoodIn wsL_law (wsV RX1 79 RX2 yX2_begin (wz yX2_begin cX2_begin 5 none)) := gV mML_X1_79 mIM_yX2_begin mSE_yX2_begin mIN_RX2 mCO_yX2_begin
theorem lk_X1_87 : GoodIn wsL_law (wsV RX1 87 RX2 yX2_blockNumber (wz yX2_blockNumber cX2_blockNumber 1 (some .int))) := gV mML_X1_87 mIM_yX2_blockNumber mSE_yX2_blockNumber mIN_RX2 mCO_yX2_blockNumber
theorem lk_X1_91 : GoodIn wsL_law (wsV RX1 91 RX1 yX1_isShorted (wz yX1_isShorted cX1_isShorted 2 (some .boolean))) := gV mML_X1_91 mIM_yX1_isShorted mSE_yX1_isShorted mIN_RX1 mCO_yX1_isShorted
theorem lk_X1_94 : GoodIn wsL_law (wsV RX1 94 RX2 yX2_hear (wz yX2_hear cX2_hear 3 none)) := gV mML_X1_94 mIM_yX2_hear mSE_yX2_hear mIN_RX2 mCO_yX2_hear
theorem lk_X1_99 : GoodIn wsL_law (wsV RX1 99 RX1 yX1_tick (wz yX1_tick cX1_tick 4 (some .int))) := gV mML_X1_99 mIM_yX1_tick mSE_yX1_tick mIN_RX1 mCO_yX1_tick
theorem lk_X2_49 : GoodIn wsL_law (wsV RX2 49 RX2 yX2_mostGain (wz yX2_mostGain cX2_mostGain 1 (some .int))) := gV mML_X2_49 mIM_yX2_mostGain mSE_yX2_mostGain mIN_RX2 mCO_yX2_mostGain
theorem lk_X2_53 : GoodIn wsL_law (wsV RX2 53 RX2 yX2_goal (wz yX2_goal cX2_goal 2 (some .int))) := gV mML_X2_53 mIM_yX2_goal mSE_yX2_goal mIN_RX2 mCO_yX2_goal
theorem lk_X2_68 : GoodIn wsL_law (va_wsS RX2 68 yJ9_floorDiv_7cf53 (wz yJ9_floorDiv_7cf53 cJ9_floorDiv_7cf53 3 (some .int))) := gS mML_X2_68 mST_yJ9_floorDiv_7cf53 mIN_RJ9 mCO_yJ9_floorDiv_7cf53
theorem lk_X2_71 : GoodIn wsL_law (va_wsS RX2 71 yJ9_floorMod_7cf53 (wz yJ9_floorMod_7cf53 cJ9_floorMod_7cf53 3 (some .int))) := gS mML_X2_71 mST_yJ9_floorMod_7cf53 mIN_RJ9 mCO_yJ9_floorMod_7cf53
theorem lk_X2_74 : GoodIn wsL_law (wsV RX2 74 RX2 yX2_blockNumber (wz yX2_blockNumber cX2_blockNumber 1 (some .int))) := gV mML_X2_74 mIM_yX2_blockNumber mSE_yX2_blockNumber mIN_RX2 mCO_yX2_blockNumber
theorem lk_X3_19 : GoodIn wsL_law (va_wsS RX3 19 yX3_countOf (wz yX3_countOf cX3_countOf 4 (some .int))) := gS mML_X3_19 mST_yX3_countOf mIN_RX3 mCO_yX3_countOf
theorem lk_X3_27 : GoodIn wsL_law (va_wsS RX3 27 yX3_codeAt (wz yX3_codeAt cX3_codeAt 3 (some .int))) := gS mML_X3_27 mST_yX3_codeAt mIN_RX3 mCO_yX3_codeAt
theorem lk_X3_38 : GoodIn wsL_law (wsV RX3 38 RX3 yX3_rewind (wz yX3_rewind cX3_rewind 1 none)) := gV mML_X3_38 mIM_yX3_rewind mSE_yX3_rewind mIN_RX3 mCO_yX3_rewind
theorem lk_X3_41 : GoodIn wsL_law (wsV RX3 41 RX3 yX3_readsOrder (wz yX3_readsOrder cX3_readsOrder 1 (some .boolean))) := gV mML_X3_41 mIM_yX3_readsOrder mSE_yX3_readsOrder mIN_RX3 mCO_yX3_readsOrder
theorem lk_X3_45 : GoodIn wsL_law (wsV RX3 45 RX3 yX3_reads (wz yX3_reads cX3_reads 2 (some .boolean))) := gV mML_X3_45 mIM_yX3_reads mSE_yX3_reads mIN_RX3 mCO_yX3_reads
theorem lk_X3_49 : GoodIn wsL_law (wsV RX3 49 RX3 yX3_here (wz yX3_here cX3_here 1 (some .int))) := gV mML_X3_49 mIM_yX3_here mSE_yX3_here mIN_RX3 mCO_yX3_here
theorem lk_X3_59 : GoodIn wsL_law (wsV RX3 59 RX3 yX3_readsNumber (wz yX3_readsNumber cX3_readsNumber 3 (some .boolean))) := gV mML_X3_59 mIM_yX3_readsNumber mSE_yX3_readsNumber mIN_RX3 mCO_yX3_readsNumber
theorem lk_X3_62 : GoodIn wsL_law (wsV RX3 62 RX3 yX3_readsDigit (wz yX3_readsDigit cX3_readsDigit 2 (some .boolean))) := gV mML_X3_62 mIM_yX3_readsDigit mSE_yX3_readsDigit mIN_RX3 mCO_yX3_readsDigit
theorem lk_X3_65 : GoodIn wsL_law (wsV RX3 65 RX3 yX3_hold (wz yX3_hold cX3_hold 2 none)) := gV mML_X3_65 mIM_yX3_hold mSE_yX3_hold mIN_RX3 mCO_yX3_hold
theorem lk_X4_35 : GoodIn wsL_law (wsV RX4 35 RX4 yX4_setRow (wz yX4_setRow cX4_setRow 5 none)) := gV mML_X4_35 mIM_yX4_setRow mSE_yX4_setRow mIN_RX4 mCO_yX4_setRow
theorem lk_X5_105 : GoodIn wsL_law (wsV RX5 105 RX1 yX1_locosIn (wz yX1_locosIn cX1_locosIn 4 (some .int))) := gV mML_X5_105 mIM_yX1_locosIn mSE_yX1_locosIn mIN_RX1 mCO_yX1_locosIn
theorem lk_X5_129 : GoodIn wsL_law (wsV RX5 129 RX1 yX1_blocksWithShort (wz yX1_blocksWithShort cX1_blocksWithShort 3 (some .int))) := gV mML_X5_129 mIM_yX1_blocksWithShort mSE_yX1_blocksWithShort mIN_RX1 mCO_yX1_blocksWithShort
theorem lk_X5_133 : GoodIn wsL_law (wsV RX5 133 RX1 yX1_crowdedBlocks (wz yX1_crowdedBlocks cX1_crowdedBlocks 3 (some .int))) := gV mML_X5_133 mIM_yX1_crowdedBlocks mSE_yX1_crowdedBlocks mIN_RX1 mCO_yX1_crowdedBlocks
theorem lk_X5_136 : GoodIn wsL_law (wsV RX5 136 RX1 yX1_speedSum (wz yX1_speedSum cX1_speedSum 3 (some .int))) := gV mML_X5_136 mIM_yX1_speedSum mSE_yX1_speedSum mIN_RX1 mCO_yX1_speedSum
theorem lk_X5_143 : GoodIn wsL_law (wsV RX5 143 RX1 yX1_copyFrom (wz yX1_copyFrom cX1_copyFrom 3 none)) := gV mML_X5_143 mIM_yX1_copyFrom mSE_yX1_copyFrom mIN_RX1 mCO_yX1_copyFrom
theorem lk_X5_146 : GoodIn wsL_law (wsV RX5 146 RX2 yX2_blockNumber (wz yX2_blockNumber cX2_blockNumber 1 (some .int))) := gV mML_X5_146 mIM_yX2_blockNumber mSE_yX2_blockNumber mIN_RX2 mCO_yX2_blockNumber
theorem lk_X5_149 : GoodIn wsL_law (wsV RX5 149 RX1 yX1_tick (wz yX1_tick cX1_tick 4 (some .int))) := gV mML_X5_149 mIM_yX1_tick mSE_yX1_tick mIN_RX1 mCO_yX1_tick
theorem lk_X5_152 : GoodIn wsL_law (wsV RX5 152 RX2 yX2_ticksToGoal (wz yX2_ticksToGoal cX2_ticksToGoal 3 (some .int))) := gV mML_X5_152 mIM_yX2_ticksToGoal mSE_yX2_ticksToGoal mIN_RX2 mCO_yX2_ticksToGoal
theorem lk_X5_155 : GoodIn wsL_law (va_wsS RX5 155 yX5_within (wz yX5_within cX5_within 3 (some .boolean))) := gS mML_X5_155 mST_yX5_within mIN_RX5 mCO_yX5_within
theorem lk_X5_162 : GoodIn wsL_law (va_wsS RX5 162 yX5_curveSpeed (wz yX5_curveSpeed cX5_curveSpeed 3 (some .int))) := gS mML_X5_162 mST_yX5_curveSpeed mIN_RX5 mCO_yX5_curveSpeed
theorem lk_X5_165 : GoodIn wsL_law (wsV RX5 165 RX3 yX3_append (wz yX3_append cX3_append 5 (some .int))) := gV mML_X5_165 mIM_yX3_append mSE_yX3_append mIN_RX3 mCO_yX3_append
theorem lk_X5_169 : GoodIn wsL_law (wsV RX5 169 RX3 yX3_clear (wz yX3_clear cX3_clear 2 (some .int))) := gV mML_X5_169 mIM_yX3_clear mSE_yX3_clear mIN_RX3 mCO_yX3_clear
theorem lk_X5_172 : GoodIn wsL_law (wsV RX5 172 RX3 yX3_firstFault (wz yX3_firstFault cX3_firstFault 2 (some .int))) := gV mML_X5_172 mIM_yX3_firstFault mSE_yX3_firstFault mIN_RX3 mCO_yX3_firstFault
theorem lk_X5_175 : GoodIn wsL_law (wsV RX5 175 RX3 yX3_rewind (wz yX3_rewind cX3_rewind 1 none)) := gV mML_X5_175 mIM_yX3_rewind mSE_yX3_rewind mIN_RX3 mCO_yX3_rewind
theorem lk_X5_178 : GoodIn wsL_law (wsV RX5 178 RX3 yX3_readsOrder (wz yX3_readsOrder cX3_readsOrder 1 (some .boolean))) := gV mML_X5_178 mIM_yX3_readsOrder mSE_yX3_readsOrder mIN_RX3 mCO_yX3_readsOrder
theorem lk_X5_182 : GoodIn wsL_law (wsV RX5 182 RX5 yX5_carriesOne (wz yX5_carriesOne cX5_carriesOne 2 (some .boolean))) := gV mML_X5_182 mIM_yX5_carriesOne mSE_yX5_carriesOne mIN_RX5 mCO_yX5_carriesOne
theorem lk_X5_185 : GoodIn wsL_law (wsV RX5 185 RX3 yX3_reads (wz yX3_reads cX3_reads 2 (some .boolean))) := gV mML_X5_185 mIM_yX3_reads mSE_yX3_reads mIN_RX3 mCO_yX3_reads
theorem lk_X5_188 : GoodIn wsL_law (wsV RX5 188 RX0 yX0_takeBack (wz yX0_takeBack cX0_takeBack 2 (some .int))) := gV mML_X5_188 mIM_yX0_takeBack mSE_yX0_takeBack mIN_RX0 mCO_yX0_takeBack
theorem lk_X5_41 : GoodIn wsL_law (wsV RX5 41 RX0 yX0_draft (wz yX0_draft cX0_draft 2 none)) := gV mML_X5_41 mIM_yX0_draft mSE_yX0_draft mIN_RX0 mCO_yX0_draft
theorem lk_X5_45 : GoodIn wsL_law (wsV RX5 45 RX1 yX1_addLoco (wz yX1_addLoco cX1_addLoco 7 (some .int))) := gV mML_X5_45 mIM_yX1_addLoco mSE_yX1_addLoco mIN_RX1 mCO_yX1_addLoco
theorem lk_X5_49 : GoodIn wsL_law (wsV RX5 49 RX0 yX0_kept (wz yX0_kept cX0_kept 2 (some .int))) := gV mML_X5_49 mIM_yX0_kept mSE_yX0_kept mIN_RX0 mCO_yX0_kept
theorem lk_X5_53 : GoodIn wsL_law (wsV RX5 53 RX1 yX1_removeLoco (wz yX1_removeLoco cX1_removeLoco 5 (some .int))) := gV mML_X5_53 mIM_yX1_removeLoco mSE_yX1_removeLoco mIN_RX1 mCO_yX1_removeLoco
theorem lk_X5_56 : GoodIn wsL_law (wsV RX5 56 RX1 yX1_changeNoise (wz yX1_changeNoise cX1_changeNoise 3 (some .int))) := gV mML_X5_56 mIM_yX1_changeNoise mSE_yX1_changeNoise mIN_RX1 mCO_yX1_changeNoise
theorem lk_X5_63 : GoodIn wsL_law (wsV RX5 63 RX4 yX4_take (wz yX4_take cX4_take 5 (some .int))) := gV mML_X5_63 mIM_yX4_take mSE_yX4_take mIN_RX4 mCO_yX4_take
theorem lk_X5_69 : GoodIn wsL_law (wsV RX5 69 RX1 yX1_takeFrame (wz yX1_takeFrame cX1_takeFrame 7 (some .int))) := gV mML_X5_69 mIM_yX1_takeFrame mSE_yX1_takeFrame mIN_RX1 mCO_yX1_takeFrame
theorem lk_X5_72 : GoodIn wsL_law (wsV RX5 72 RX1 yX1_changeShort (wz yX1_changeShort cX1_changeShort 4 (some .int))) := gV mML_X5_72 mIM_yX1_changeShort mSE_yX1_changeShort mIN_RX1 mCO_yX1_changeShort
theorem lk_X5_76 : GoodIn wsL_law (wsV RX5 76 RX1 yX1_takeTicks (wz yX1_takeTicks cX1_takeTicks 4 (some .int))) := gV mML_X5_76 mIM_yX1_takeTicks mSE_yX1_takeTicks mIN_RX1 mCO_yX1_takeTicks
theorem lk_X5_79 : GoodIn wsL_law (wsV RX5 79 RX1 yX1_locoWith (wz yX1_locoWith cX1_locoWith 2 (some (.object "LocoFrames$Loco")))) := gV mML_X5_79 mIM_yX1_locoWith mSE_yX1_locoWith mIN_RX1 mCO_yX1_locoWith
theorem lk_X5_83 : GoodIn wsL_law (wsV RX5 83 RX2 yX2_told (wz yX2_told cX2_told 2 (some .int))) := gV mML_X5_83 mIM_yX2_told mSE_yX2_told mIN_RX2 mCO_yX2_told
theorem lk_X5_88 : GoodIn wsL_law (wsV RX5 88 RX1 yX1_locoAt (wz yX1_locoAt cX1_locoAt 2 (some (.object "LocoFrames$Loco")))) := gV mML_X5_88 mIM_yX1_locoAt mSE_yX1_locoAt mIN_RX1 mCO_yX1_locoAt
theorem lk_X5_95 : GoodIn wsL_law (wsV RX5 95 RX4 yX4_told (wz yX4_told cX4_told 3 (some .int))) := gV mML_X5_95 mIM_yX4_told mSE_yX4_told mIN_RX4 mCO_yX4_told
theorem lk_X5_97 : GoodIn wsL_law (va_wsS RX5 97 yX5_isBlock (wz yX5_isBlock cX5_isBlock 1 (some .boolean))) := gS mML_X5_97 mST_yX5_isBlock mIN_RX5 mCO_yX5_isBlock
theorem lk_X6_102 : GoodIn wsL_law (va_wsS RX6 102 yX6_refusesShorts (wz yX6_refusesShorts cX6_refusesShorts 2 (some .int))) := gS mML_X6_102 mST_yX6_refusesShorts mIN_RX6 mCO_yX6_refusesShorts
theorem lk_X6_106 : GoodIn wsL_law (wsV RX6 106 RX6 yX6_refusesPass (wz yX6_refusesPass cX6_refusesPass 2 (some .int))) := gV mML_X6_106 mIM_yX6_refusesPass mSE_yX6_refusesPass mIN_RX6 mCO_yX6_refusesPass
theorem lk_X6_109 : GoodIn wsL_law (wsV RX6 109 RX6 yX6_ticks (wz yX6_ticks cX6_ticks 4 (some .int))) := gV mML_X6_109 mIM_yX6_ticks mSE_yX6_ticks mIN_RX6 mCO_yX6_ticks
theorem lk_X6_112 : GoodIn wsL_law (wsV RX6 112 RX6 yX6_locosIn (wz yX6_locosIn cX6_locosIn 4 (some .int))) := gV mML_X6_112 mIM_yX6_locosIn mSE_yX6_locosIn mIN_RX6 mCO_yX6_locosIn
theorem lk_X6_115 : GoodIn wsL_law (wsV RX6 115 RX6 yX6_overBlocks (wz yX6_overBlocks cX6_overBlocks 4 (some .int))) := gV mML_X6_115 mIM_yX6_overBlocks mSE_yX6_overBlocks mIN_RX6 mCO_yX6_overBlocks
theorem lk_X6_118 : GoodIn wsL_law (wsV RX6 118 RX6 yX6_allSpeeds (wz yX6_allSpeeds cX6_allSpeeds 3 (some .int))) := gV mML_X6_118 mIM_yX6_allSpeeds mSE_yX6_allSpeeds mIN_RX6 mCO_yX6_allSpeeds
theorem lk_X6_124 : GoodIn wsL_law (wsV RX6 124 RX6 yX6_putAside (wz yX6_putAside cX6_putAside 2 none)) := gV mML_X6_124 mIM_yX6_putAside mSE_yX6_putAside mIN_RX6 mCO_yX6_putAside
theorem lk_X6_127 : GoodIn wsL_law (wsV RX6 127 RX6 yX6_takeBack (wz yX6_takeBack cX6_takeBack 2 none)) := gV mML_X6_127 mIM_yX6_takeBack mSE_yX6_takeBack mIN_RX6 mCO_yX6_takeBack
theorem lk_X6_139 : GoodIn wsL_law (wsV RX6 139 RX6 yX6_sign (wz yX6_sign cX6_sign 1 (some .int))) := gV mML_X6_139 mIM_yX6_sign mSE_yX6_sign mIN_RX6 mCO_yX6_sign
theorem lk_X6_142 : GoodIn wsL_law (wsV RX6 142 RX6 yX6_digit (wz yX6_digit cX6_digit 3 (some .int))) := gV mML_X6_142 mIM_yX6_digit mSE_yX6_digit mIN_RX6 mCO_yX6_digit
theorem lk_X6_148 : GoodIn wsL_law (wsV RX6 148 RX6 yX6_number (wz yX6_number cX6_number 3 (some .int))) := gV mML_X6_148 mIM_yX6_number mSE_yX6_number mIN_RX6 mCO_yX6_number
theorem lk_X6_151 : GoodIn wsL_law (wsV RX6 151 RX6 yX6_wants (wz yX6_wants cX6_wants 2 none)) := gV mML_X6_151 mIM_yX6_wants mSE_yX6_wants mIN_RX6 mCO_yX6_wants
theorem lk_X6_154 : GoodIn wsL_law (wsV RX6 154 RX6 yX6_readsOrder (wz yX6_readsOrder cX6_readsOrder 3 none)) := gV mML_X6_154 mIM_yX6_readsOrder mSE_yX6_readsOrder mIN_RX6 mCO_yX6_readsOrder
theorem lk_X6_157 : GoodIn wsL_law (wsV RX6 157 RX6 yX6_reads (wz yX6_reads cX6_reads 1 (some .int))) := gV mML_X6_157 mIM_yX6_reads mSE_yX6_reads mIN_RX6 mCO_yX6_reads
theorem lk_X6_160 : GoodIn wsL_law (wsV RX6 160 RX6 yX6_refuses (wz yX6_refuses cX6_refuses 2 (some .int))) := gV mML_X6_160 mIM_yX6_refuses mSE_yX6_refuses mIN_RX6 mCO_yX6_refuses
theorem lk_X6_163 : GoodIn wsL_law (wsV RX6 163 RX6 yX6_does (wz yX6_does cX6_does 2 none)) := gV mML_X6_163 mIM_yX6_does mSE_yX6_does mIN_RX6 mCO_yX6_does
theorem lk_X6_36 : GoodIn wsL_law (wsV RX6 36 RX6 yX6_get (wz yX6_get cX6_get 3 (some .int))) := gV mML_X6_36 mIM_yX6_get mSE_yX6_get mIN_RX6 mCO_yX6_get
theorem lk_X6_43 : GoodIn wsL_law (wsV RX6 43 RX6 yX6_blockOf (wz yX6_blockOf cX6_blockOf 2 (some .int))) := gV mML_X6_43 mIM_yX6_blockOf mSE_yX6_blockOf mIN_RX6 mCO_yX6_blockOf
theorem lk_X6_47 : GoodIn wsL_law (va_wsS RX6 47 yX6_byCurve (wz yX6_byCurve cX6_byCurve 3 (some .int))) := gS mML_X6_47 mST_yX6_byCurve mIN_RX6 mCO_yX6_byCurve
theorem lk_X6_50 : GoodIn wsL_law (wsV RX6 50 RX6 yX6_lay (wz yX6_lay cX6_lay 4 none)) := gV mML_X6_50 mIM_yX6_lay mSE_yX6_lay mIN_RX6 mCO_yX6_lay
theorem lk_X6_54 : GoodIn wsL_law (va_wsS RX6 54 yX6_in (wz yX6_in cX6_in 3 (some .boolean))) := gS mML_X6_54 mST_yX6_in mIN_RX6 mCO_yX6_in
theorem lk_X6_58 : GoodIn wsL_law (wsV RX6 58 RX6 yX6_isShort (wz yX6_isShort cX6_isShort 2 (some .boolean))) := gV mML_X6_58 mIM_yX6_isShort mSE_yX6_isShort mIN_RX6 mCO_yX6_isShort
theorem lk_X6_62 : GoodIn wsL_law (wsV RX6 62 RX6 yX6_hears (wz yX6_hears cX6_hears 3 none)) := gV mML_X6_62 mIM_yX6_hears mSE_yX6_hears mIN_RX6 mCO_yX6_hears
theorem lk_X6_66 : GoodIn wsL_law (wsV RX6 66 RX6 yX6_comes (wz yX6_comes cX6_comes 6 (some .int))) := gV mML_X6_66 mIM_yX6_comes mSE_yX6_comes mIN_RX6 mCO_yX6_comes
theorem lk_X6_70 : GoodIn wsL_law (wsV RX6 70 RX6 yX6_due (wz yX6_due cX6_due 3 (some .int))) := gV mML_X6_70 mIM_yX6_due mSE_yX6_due mIN_RX6 mCO_yX6_due
theorem lk_X6_73 : GoodIn wsL_law (wsV RX6 73 RX6 yX6_sends (wz yX6_sends cX6_sends 5 (some .int))) := gV mML_X6_73 mIM_yX6_sends mSE_yX6_sends mIN_RX6 mCO_yX6_sends
theorem lk_X6_77 : GoodIn wsL_law (wsV RX6 77 RX6 yX6_speeds (wz yX6_speeds cX6_speeds 6 none)) := gV mML_X6_77 mIM_yX6_speeds mSE_yX6_speeds mIN_RX6 mCO_yX6_speeds
theorem lk_X6_81 : GoodIn wsL_law (wsV RX6 81 RX6 yX6_goes (wz yX6_goes cX6_goes 4 none)) := gV mML_X6_81 mIM_yX6_goes mSE_yX6_goes mIN_RX6 mCO_yX6_goes
theorem lk_X6_84 : GoodIn wsL_law (wsV RX6 84 RX6 yX6_tick (wz yX6_tick cX6_tick 3 (some .int))) := gV mML_X6_84 mIM_yX6_tick mSE_yX6_tick mIN_RX6 mCO_yX6_tick
theorem lk_X6_87 : GoodIn wsL_law (wsV RX6 87 RX6 yX6_locoOf (wz yX6_locoOf cX6_locoOf 3 (some .int))) := gV mML_X6_87 mIM_yX6_locoOf mSE_yX6_locoOf mIN_RX6 mCO_yX6_locoOf
theorem lk_X6_90 : GoodIn wsL_law (wsV RX6 90 RX6 yX6_records (wz yX6_records cX6_records 2 none)) := gV mML_X6_90 mIM_yX6_records mSE_yX6_records mIN_RX6 mCO_yX6_records
theorem lk_X6_93 : GoodIn wsL_law (wsV RX6 93 RX6 yX6_refusesOrder (wz yX6_refusesOrder cX6_refusesOrder 4 (some .int))) := gV mML_X6_93 mIM_yX6_refusesOrder mSE_yX6_refusesOrder mIN_RX6 mCO_yX6_refusesOrder
theorem lk_X6_96 : GoodIn wsL_law (wsV RX6 96 RX6 yX6_laysOrder (wz yX6_laysOrder cX6_laysOrder 6 (some .int))) := gV mML_X6_96 mIM_yX6_laysOrder mSE_yX6_laysOrder mIN_RX6 mCO_yX6_laysOrder
theorem lk_X6_99 : GoodIn wsL_law (va_wsS RX6 99 yX6_refusesFrame (wz yX6_refusesFrame cX6_refusesFrame 3 (some .int))) := gS mML_X6_99 mST_yX6_refusesFrame mIN_RX6 mCO_yX6_refusesFrame
end
section
section FIELDS
variable {p : Program} {l : Launch} {e : Env} {R : Room} {s : State} {m : MethodId} {args : Array Value} {below : List Frame} {meth : Method} {c : Code} {G : Gm} {A : Nat → Prop} {nL ce sl : Nat} {Q : State → Prop} {I : Ii} {pm : Pm} {L : List (Nat × Value)} {pc : Nat} {st rest : List Value} {cc : ByteArray} {own : String} {index i j : Nat} {x z : Int32}
theorem gf_0_0 (F : FX p s m args c cc nL own G A) (hi : i < 11) (hw : Cond.fieldLink own index "LocoFrames$Layout" "locos" "[LLocoFrames$Loco;" ∈ wsL_law) (hd : decode cc pc = .ok (.getfield index, 3)) (kk : GG p l e R s m args below meth c G A nL ce sl Q I pm L (pc + 3) (.ref (G.2.2 1 i) :: rest)) : GG p l e R s m args below meth c G A nL ce sl Q I pm L pc (.ref (G.2.2 0 i) :: rest) := g_get F (C := RX1) (T := TX1) (N := 10) (ci := 1) inlX1 rfl hi rfl 0 (by decide) hw rfl hd kk
theorem gf_0_1 (F : FX p s m args c cc nL own G A) (hi : i < 11) (hw : Cond.fieldLink own index "LocoFrames$Layout" "station" "LLocoFrames$Station;" ∈ wsL_law) (hd : decode cc pc = .ok (.getfield index, 3)) (kk : GG p l e R s m args below meth c G A nL ce sl Q I pm L (pc + 3) (.ref (G.2.2 2 i) :: rest)) : GG p l e R s m args below meth c G A nL ce sl Q I pm L pc (.ref (G.2.2 0 i) :: rest) := g_get F (C := RX1) (T := TX1) (N := 10) (ci := 1) inlX1 rfl hi rfl 1 (by decide) hw rfl hd kk
theorem gf_0_2 (F : FX p s m args c cc nL own G A) (hi : i < 11) (hw : Cond.fieldLink own index "LocoFrames$Layout" "shortTicks" "[I" ∈ wsL_law) (hd : decode cc pc = .ok (.getfield index, 3)) (kk : GG p l e R s m args below meth c G A nL ce sl Q I pm L (pc + 3) (.ref (G.2.2 6 i) :: rest)) : GG p l e R s m args below meth c G A nL ce sl Q I pm L pc (.ref (G.2.2 0 i) :: rest) := g_get F (C := RX1) (T := TX1) (N := 10) (ci := 1) inlX1 rfl hi rfl 2 (by decide) hw rfl hd kk
theorem gf_0_3 (F : FX p s m args c cc nL own G A) (hi : i < 11) (hw : Cond.fieldLink own index "LocoFrames$Layout" "locoCount" "I" ∈ wsL_law) (hd : decode cc pc = .ok (.getfield index, 3)) (kk : GG p l e R s m args below meth c G A nL ce sl Q I pm L (pc + 3) (.int (I 0 i 3) :: rest)) : GG p l e R s m args below meth c G A nL ce sl Q I pm L pc (.ref (G.2.2 0 i) :: rest) := g_get F (C := RX1) (T := TX1) (N := 10) (ci := 1) inlX1 rfl hi rfl 3 (by decide) hw rfl hd kk
theorem gp_0_3 (F : FX p s m args c cc nL own G A) (hi : i < 11) (hw : Cond.fieldLink own index "LocoFrames$Layout" "locoCount" "I" ∈ wsL_law) (hd : decode cc pc = .ok (.putfield index, 3)) (kk : GG p l e R s m args below meth c G A nL ce sl Q (up3 I 0 i 3 x) pm L (pc + 3) rest) : GG p l e R s m args below meth c G A nL ce sl Q I pm L pc (.int x :: .ref (G.2.2 0 i) :: rest) := g_put F (C := RX1) (T := TX1) (N := 10) (ci := 1) (ty := .int) inlX1 tyX1 tyX1_ok nmX1 rfl hi rfl 3 (by decide) hw rfl (by decide +kernel) rfl rfl (Nat.le_of_ble_eq_true rfl) (by simp [cvv, up3]) hd kk
theorem gf_0_4 (F : FX p s m args c cc nL own G A) (hi : i < 11) (hw : Cond.fieldLink own index "LocoFrames$Layout" "ticks" "I" ∈ wsL_law) (hd : decode cc pc = .ok (.getfield index, 3)) (kk : GG p l e R s m args below meth c G A nL ce sl Q I pm L (pc + 3) (.int (I 0 i 4) :: rest)) : GG p l e R s m args below meth c G A nL ce sl Q I pm L pc (.ref (G.2.2 0 i) :: rest) := g_get F (C := RX1) (T := TX1) (N := 10) (ci := 1) inlX1 rfl hi rfl 4 (by decide) hw rfl hd kk
theorem gp_0_4 (F : FX p s m args c cc nL own G A) (hi : i < 11) (hw : Cond.fieldLink own index "LocoFrames$Layout" "ticks" "I" ∈ wsL_law) (hd : decode cc pc = .ok (.putfield index, 3)) (kk : GG p l e R s m args below meth c G A nL ce sl Q (up3 I 0 i 4 x) pm L (pc + 3) rest) : GG p l e R s m args below meth c G A nL ce sl Q I pm L pc (.int x :: .ref (G.2.2 0 i) :: rest) := g_put F (C := RX1) (T := TX1) (N := 10) (ci := 1) (ty := .int) inlX1 tyX1 tyX1_ok nmX1 rfl hi rfl 4 (by decide) hw rfl (by decide +kernel) rfl rfl (Nat.le_of_ble_eq_true rfl) (by simp [cvv, up3]) hd kk
theorem gf_0_5 (F : FX p s m args c cc nL own G A) (hi : i < 11) (hw : Cond.fieldLink own index "LocoFrames$Layout" "noiseTicks" "I" ∈ wsL_law) (hd : decode cc pc = .ok (.getfield index, 3)) (kk : GG p l e R s m args below meth c G A nL ce sl Q I pm L (pc + 3) (.int (I 0 i 5) :: rest)) : GG p l e R s m args below meth c G A nL ce sl Q I pm L pc (.ref (G.2.2 0 i) :: rest) := g_get F (C := RX1) (T := TX1) (N := 10) (ci := 1) inlX1 rfl hi rfl 5 (by decide) hw rfl hd kk
theorem gp_0_5 (F : FX p s m args c cc nL own G A) (hi : i < 11) (hw : Cond.fieldLink own index "LocoFrames$Layout" "noiseTicks" "I" ∈ wsL_law) (hd : decode cc pc = .ok (.putfield index, 3)) (kk : GG p l e R s m args below meth c G A nL ce sl Q (up3 I 0 i 5 x) pm L (pc + 3) rest) : GG p l e R s m args below meth c G A nL ce sl Q I pm L pc (.int x :: .ref (G.2.2 0 i) :: rest) := g_put F (C := RX1) (T := TX1) (N := 10) (ci := 1) (ty := .int) inlX1 tyX1 tyX1_ok nmX1 rfl hi rfl 5 (by decide) hw rfl (by decide +kernel) rfl rfl (Nat.le_of_ble_eq_true rfl) (by simp [cvv, up3]) hd kk
theorem gf_0_6 (F : FX p s m args c cc nL own G A) (hi : i < 11) (hw : Cond.fieldLink own index "LocoFrames$Layout" "spoiledAt" "I" ∈ wsL_law) (hd : decode cc pc = .ok (.getfield index, 3)) (kk : GG p l e R s m args below meth c G A nL ce sl Q I pm L (pc + 3) (.int (I 0 i 6) :: rest)) : GG p l e R s m args below meth c G A nL ce sl Q I pm L pc (.ref (G.2.2 0 i) :: rest) := g_get F (C := RX1) (T := TX1) (N := 10) (ci := 1) inlX1 rfl hi rfl 6 (by decide) hw rfl hd kk
theorem gp_0_6 (F : FX p s m args c cc nL own G A) (hi : i < 11) (hw : Cond.fieldLink own index "LocoFrames$Layout" "spoiledAt" "I" ∈ wsL_law) (hd : decode cc pc = .ok (.putfield index, 3)) (kk : GG p l e R s m args below meth c G A nL ce sl Q (up3 I 0 i 6 x) pm L (pc + 3) rest) : GG p l e R s m args below meth c G A nL ce sl Q I pm L pc (.int x :: .ref (G.2.2 0 i) :: rest) := g_put F (C := RX1) (T := TX1) (N := 10) (ci := 1) (ty := .int) inlX1 tyX1 tyX1_ok nmX1 rfl hi rfl 6 (by decide) hw rfl (by decide +kernel) rfl rfl (Nat.le_of_ble_eq_true rfl) (by simp [cvv, up3]) hd kk
theorem gf_0_7 (F : FX p s m args c cc nL own G A) (hi : i < 11) (hw : Cond.fieldLink own index "LocoFrames$Layout" "frames" "I" ∈ wsL_law) (hd : decode cc pc = .ok (.getfield index, 3)) (kk : GG p l e R s m args below meth c G A nL ce sl Q I pm L (pc + 3) (.int (I 0 i 7) :: rest)) : GG p l e R s m args below meth c G A nL ce sl Q I pm L pc (.ref (G.2.2 0 i) :: rest) := g_get F (C := RX1) (T := TX1) (N := 10) (ci := 1) inlX1 rfl hi rfl 7 (by decide) hw rfl hd kk
theorem gp_0_7 (F : FX p s m args c cc nL own G A) (hi : i < 11) (hw : Cond.fieldLink own index "LocoFrames$Layout" "frames" "I" ∈ wsL_law) (hd : decode cc pc = .ok (.putfield index, 3)) (kk : GG p l e R s m args below meth c G A nL ce sl Q (up3 I 0 i 7 x) pm L (pc + 3) rest) : GG p l e R s m args below meth c G A nL ce sl Q I pm L pc (.int x :: .ref (G.2.2 0 i) :: rest) := g_put F (C := RX1) (T := TX1) (N := 10) (ci := 1) (ty := .int) inlX1 tyX1 tyX1_ok nmX1 rfl hi rfl 7 (by decide) hw rfl (by decide +kernel) rfl rfl (Nat.le_of_ble_eq_true rfl) (by simp [cvv, up3]) hd kk
theorem gf_0_8 (F : FX p s m args c cc nL own G A) (hi : i < 11) (hw : Cond.fieldLink own index "LocoFrames$Layout" "broken" "I" ∈ wsL_law) (hd : decode cc pc = .ok (.getfield index, 3)) (kk : GG p l e R s m args below meth c G A nL ce sl Q I pm L (pc + 3) (.int (I 0 i 8) :: rest)) : GG p l e R s m args below meth c G A nL ce sl Q I pm L pc (.ref (G.2.2 0 i) :: rest) := g_get F (C := RX1) (T := TX1) (N := 10) (ci := 1) inlX1 rfl hi rfl 8 (by decide) hw rfl hd kk
theorem gp_0_8 (F : FX p s m args c cc nL own G A) (hi : i < 11) (hw : Cond.fieldLink own index "LocoFrames$Layout" "broken" "I" ∈ wsL_law) (hd : decode cc pc = .ok (.putfield index, 3)) (kk : GG p l e R s m args below meth c G A nL ce sl Q (up3 I 0 i 8 x) pm L (pc + 3) rest) : GG p l e R s m args below meth c G A nL ce sl Q I pm L pc (.int x :: .ref (G.2.2 0 i) :: rest) := g_put F (C := RX1) (T := TX1) (N := 10) (ci := 1) (ty := .int) inlX1 tyX1 tyX1_ok nmX1 rfl hi rfl 8 (by decide) hw rfl (by decide +kernel) rfl rfl (Nat.le_of_ble_eq_true rfl) (by simp [cvv, up3]) hd kk
theorem gf_0_9 (F : FX p s m args c cc nL own G A) (hi : i < 11) (hw : Cond.fieldLink own index "LocoFrames$Layout" "spoiled" "I" ∈ wsL_law) (hd : decode cc pc = .ok (.getfield index, 3)) (kk : GG p l e R s m args below meth c G A nL ce sl Q I pm L (pc + 3) (.int (I 0 i 9) :: rest)) : GG p l e R s m args below meth c G A nL ce sl Q I pm L pc (.ref (G.2.2 0 i) :: rest) := g_get F (C := RX1) (T := TX1) (N := 10) (ci := 1) inlX1 rfl hi rfl 9 (by decide) hw rfl hd kk
theorem gp_0_9 (F : FX p s m args c cc nL own G A) (hi : i < 11) (hw : Cond.fieldLink own index "LocoFrames$Layout" "spoiled" "I" ∈ wsL_law) (hd : decode cc pc = .ok (.putfield index, 3)) (kk : GG p l e R s m args below meth c G A nL ce sl Q (up3 I 0 i 9 x) pm L (pc + 3) rest) : GG p l e R s m args below meth c G A nL ce sl Q I pm L pc (.int x :: .ref (G.2.2 0 i) :: rest) := g_put F (C := RX1) (T := TX1) (N := 10) (ci := 1) (ty := .int) inlX1 tyX1 tyX1_ok nmX1 rfl hi rfl 9 (by decide) hw rfl (by decide +kernel) rfl rfl (Nat.le_of_ble_eq_true rfl) (by simp [cvv, up3]) hd kk
theorem gf_2_0 (F : FX p s m args c cc nL own G A) (hi : i < 11) (hw : Cond.fieldLink own index "LocoFrames$Station" "addresses" "[I" ∈ wsL_law) (hd : decode cc pc = .ok (.getfield index, 3)) (kk : GG p l e R s m args below meth c G A nL ce sl Q I pm L (pc + 3) (.ref (G.2.2 3 i) :: rest)) : GG p l e R s m args below meth c G A nL ce sl Q I pm L pc (.ref (G.2.2 2 i) :: rest) := g_get F (C := RX4) (T := TX4) (N := 4) (ci := 4) inlX4 rfl hi rfl 0 (by decide) hw rfl hd kk
theorem gf_2_1 (F : FX p s m args c cc nL own G A) (hi : i < 11) (hw : Cond.fieldLink own index "LocoFrames$Station" "data" "[I" ∈ wsL_law) (hd : decode cc pc = .ok (.getfield index, 3)) (kk : GG p l e R s m args below meth c G A nL ce sl Q I pm L (pc + 3) (.ref (G.2.2 4 i) :: rest)) : GG p l e R s m args below meth c G A nL ce sl Q I pm L pc (.ref (G.2.2 2 i) :: rest) := g_get F (C := RX4) (T := TX4) (N := 4) (ci := 4) inlX4 rfl hi rfl 1 (by decide) hw rfl hd kk
theorem gf_2_2 (F : FX p s m args c cc nL own G A) (hi : i < 11) (hw : Cond.fieldLink own index "LocoFrames$Station" "urgencies" "[I" ∈ wsL_law) (hd : decode cc pc = .ok (.getfield index, 3)) (kk : GG p l e R s m args below meth c G A nL ce sl Q I pm L (pc + 3) (.ref (G.2.2 5 i) :: rest)) : GG p l e R s m args below meth c G A nL ce sl Q I pm L pc (.ref (G.2.2 2 i) :: rest) := g_get F (C := RX4) (T := TX4) (N := 4) (ci := 4) inlX4 rfl hi rfl 2 (by decide) hw rfl hd kk
theorem gf_2_3 (F : FX p s m args c cc nL own G A) (hi : i < 11) (hw : Cond.fieldLink own index "LocoFrames$Station" "held" "I" ∈ wsL_law) (hd : decode cc pc = .ok (.getfield index, 3)) (kk : GG p l e R s m args below meth c G A nL ce sl Q I pm L (pc + 3) (.int (I 2 i 3) :: rest)) : GG p l e R s m args below meth c G A nL ce sl Q I pm L pc (.ref (G.2.2 2 i) :: rest) := g_get F (C := RX4) (T := TX4) (N := 4) (ci := 4) inlX4 rfl hi rfl 3 (by decide) hw rfl hd kk
theorem gp_2_3 (F : FX p s m args c cc nL own G A) (hi : i < 11) (hw : Cond.fieldLink own index "LocoFrames$Station" "held" "I" ∈ wsL_law) (hd : decode cc pc = .ok (.putfield index, 3)) (kk : GG p l e R s m args below meth c G A nL ce sl Q (up3 I 2 i 3 x) pm L (pc + 3) rest) : GG p l e R s m args below meth c G A nL ce sl Q I pm L pc (.int x :: .ref (G.2.2 2 i) :: rest) := g_put F (C := RX4) (T := TX4) (N := 4) (ci := 4) (ty := .int) inlX4 tyX4 tyX4_ok nmX4 rfl hi rfl 3 (by decide) hw rfl (by decide +kernel) rfl rfl (Nat.le_of_ble_eq_true rfl) (by simp [cvv, up3]) hd kk
theorem gf_7_0 (F : FX p s m args c cc nL own G A) (hi : i < 88) (hw : Cond.fieldLink own index "LocoFrames$Loco" "address" "I" ∈ wsL_law) (hd : decode cc pc = .ok (.getfield index, 3)) (kk : GG p l e R s m args below meth c G A nL ce sl Q I pm L (pc + 3) (.int (I 7 i 0) :: rest)) : GG p l e R s m args below meth c G A nL ce sl Q I pm L pc (.ref (G.2.2 7 i) :: rest) := g_get F (C := RX2) (T := TX2) (N := 11) (ci := 2) inlX2 rfl hi rfl 0 (by decide) hw rfl hd kk
theorem gp_7_0 (F : FX p s m args c cc nL own G A) (hi : i < 88) (hw : Cond.fieldLink own index "LocoFrames$Loco" "address" "I" ∈ wsL_law) (hd : decode cc pc = .ok (.putfield index, 3)) (kk : GG p l e R s m args below meth c G A nL ce sl Q (up3 I 7 i 0 x) pm L (pc + 3) rest) : GG p l e R s m args below meth c G A nL ce sl Q I pm L pc (.int x :: .ref (G.2.2 7 i) :: rest) := g_put F (C := RX2) (T := TX2) (N := 11) (ci := 2) (ty := .int) inlX2 tyX2 tyX2_ok nmX2 rfl hi rfl 0 (by decide) hw rfl (by decide +kernel) rfl rfl (Nat.le_of_ble_eq_true rfl) (by simp [cvv, up3]) hd kk
theorem gf_7_1 (F : FX p s m args c cc nL own G A) (hi : i < 88) (hw : Cond.fieldLink own index "LocoFrames$Loco" "mass" "I" ∈ wsL_law) (hd : decode cc pc = .ok (.getfield index, 3)) (kk : GG p l e R s m args below meth c G A nL ce sl Q I pm L (pc + 3) (.int (I 7 i 1) :: rest)) : GG p l e R s m args below meth c G A nL ce sl Q I pm L pc (.ref (G.2.2 7 i) :: rest) := g_get F (C := RX2) (T := TX2) (N := 11) (ci := 2) inlX2 rfl hi rfl 1 (by decide) hw rfl hd kk
theorem gp_7_1 (F : FX p s m args c cc nL own G A) (hi : i < 88) (hw : Cond.fieldLink own index "LocoFrames$Loco" "mass" "I" ∈ wsL_law) (hd : decode cc pc = .ok (.putfield index, 3)) (kk : GG p l e R s m args below meth c G A nL ce sl Q (up3 I 7 i 1 x) pm L (pc + 3) rest) : GG p l e R s m args below meth c G A nL ce sl Q I pm L pc (.int x :: .ref (G.2.2 7 i) :: rest) := g_put F (C := RX2) (T := TX2) (N := 11) (ci := 2) (ty := .int) inlX2 tyX2 tyX2_ok nmX2 rfl hi rfl 1 (by decide) hw rfl (by decide +kernel) rfl rfl (Nat.le_of_ble_eq_true rfl) (by simp [cvv, up3]) hd kk
theorem gf_7_2 (F : FX p s m args c cc nL own G A) (hi : i < 88) (hw : Cond.fieldLink own index "LocoFrames$Loco" "curve" "I" ∈ wsL_law) (hd : decode cc pc = .ok (.getfield index, 3)) (kk : GG p l e R s m args below meth c G A nL ce sl Q I pm L (pc + 3) (.int (I 7 i 2) :: rest)) : GG p l e R s m args below meth c G A nL ce sl Q I pm L pc (.ref (G.2.2 7 i) :: rest) := g_get F (C := RX2) (T := TX2) (N := 11) (ci := 2) inlX2 rfl hi rfl 2 (by decide) hw rfl hd kk
theorem gp_7_2 (F : FX p s m args c cc nL own G A) (hi : i < 88) (hw : Cond.fieldLink own index "LocoFrames$Loco" "curve" "I" ∈ wsL_law) (hd : decode cc pc = .ok (.putfield index, 3)) (kk : GG p l e R s m args below meth c G A nL ce sl Q (up3 I 7 i 2 x) pm L (pc + 3) rest) : GG p l e R s m args below meth c G A nL ce sl Q I pm L pc (.int x :: .ref (G.2.2 7 i) :: rest) := g_put F (C := RX2) (T := TX2) (N := 11) (ci := 2) (ty := .int) inlX2 tyX2 tyX2_ok nmX2 rfl hi rfl 2 (by decide) hw rfl (by decide +kernel) rfl rfl (Nat.le_of_ble_eq_true rfl) (by simp [cvv, up3]) hd kk
theorem gf_7_3 (F : FX p s m args c cc nL own G A) (hi : i < 88) (hw : Cond.fieldLink own index "LocoFrames$Loco" "place" "I" ∈ wsL_law) (hd : decode cc pc = .ok (.getfield index, 3)) (kk : GG p l e R s m args below meth c G A nL ce sl Q I pm L (pc + 3) (.int (I 7 i 3) :: rest)) : GG p l e R s m args below meth c G A nL ce sl Q I pm L pc (.ref (G.2.2 7 i) :: rest) := g_get F (C := RX2) (T := TX2) (N := 11) (ci := 2) inlX2 rfl hi rfl 3 (by decide) hw rfl hd kk
theorem gp_7_3 (F : FX p s m args c cc nL own G A) (hi : i < 88) (hw : Cond.fieldLink own index "LocoFrames$Loco" "place" "I" ∈ wsL_law) (hd : decode cc pc = .ok (.putfield index, 3)) (kk : GG p l e R s m args below meth c G A nL ce sl Q (up3 I 7 i 3 x) pm L (pc + 3) rest) : GG p l e R s m args below meth c G A nL ce sl Q I pm L pc (.int x :: .ref (G.2.2 7 i) :: rest) := g_put F (C := RX2) (T := TX2) (N := 11) (ci := 2) (ty := .int) inlX2 tyX2 tyX2_ok nmX2 rfl hi rfl 3 (by decide) hw rfl (by decide +kernel) rfl rfl (Nat.le_of_ble_eq_true rfl) (by simp [cvv, up3]) hd kk
theorem gf_7_4 (F : FX p s m args c cc nL own G A) (hi : i < 88) (hw : Cond.fieldLink own index "LocoFrames$Loco" "tenths" "I" ∈ wsL_law) (hd : decode cc pc = .ok (.getfield index, 3)) (kk : GG p l e R s m args below meth c G A nL ce sl Q I pm L (pc + 3) (.int (I 7 i 4) :: rest)) : GG p l e R s m args below meth c G A nL ce sl Q I pm L pc (.ref (G.2.2 7 i) :: rest) := g_get F (C := RX2) (T := TX2) (N := 11) (ci := 2) inlX2 rfl hi rfl 4 (by decide) hw rfl hd kk
theorem gp_7_4 (F : FX p s m args c cc nL own G A) (hi : i < 88) (hw : Cond.fieldLink own index "LocoFrames$Loco" "tenths" "I" ∈ wsL_law) (hd : decode cc pc = .ok (.putfield index, 3)) (kk : GG p l e R s m args below meth c G A nL ce sl Q (up3 I 7 i 4 x) pm L (pc + 3) rest) : GG p l e R s m args below meth c G A nL ce sl Q I pm L pc (.int x :: .ref (G.2.2 7 i) :: rest) := g_put F (C := RX2) (T := TX2) (N := 11) (ci := 2) (ty := .int) inlX2 tyX2 tyX2_ok nmX2 rfl hi rfl 4 (by decide) hw rfl (by decide +kernel) rfl rfl (Nat.le_of_ble_eq_true rfl) (by simp [cvv, up3]) hd kk
theorem gf_7_5 (F : FX p s m args c cc nL own G A) (hi : i < 88) (hw : Cond.fieldLink own index "LocoFrames$Loco" "speed" "I" ∈ wsL_law) (hd : decode cc pc = .ok (.getfield index, 3)) (kk : GG p l e R s m args below meth c G A nL ce sl Q I pm L (pc + 3) (.int (I 7 i 5) :: rest)) : GG p l e R s m args below meth c G A nL ce sl Q I pm L pc (.ref (G.2.2 7 i) :: rest) := g_get F (C := RX2) (T := TX2) (N := 11) (ci := 2) inlX2 rfl hi rfl 5 (by decide) hw rfl hd kk
theorem gp_7_5 (F : FX p s m args c cc nL own G A) (hi : i < 88) (hw : Cond.fieldLink own index "LocoFrames$Loco" "speed" "I" ∈ wsL_law) (hd : decode cc pc = .ok (.putfield index, 3)) (kk : GG p l e R s m args below meth c G A nL ce sl Q (up3 I 7 i 5 x) pm L (pc + 3) rest) : GG p l e R s m args below meth c G A nL ce sl Q I pm L pc (.int x :: .ref (G.2.2 7 i) :: rest) := g_put F (C := RX2) (T := TX2) (N := 11) (ci := 2) (ty := .int) inlX2 tyX2 tyX2_ok nmX2 rfl hi rfl 5 (by decide) hw rfl (by decide +kernel) rfl rfl (Nat.le_of_ble_eq_true rfl) (by simp [cvv, up3]) hd kk
theorem gf_7_6 (F : FX p s m args c cc nL own G A) (hi : i < 88) (hw : Cond.fieldLink own index "LocoFrames$Loco" "rounds" "I" ∈ wsL_law) (hd : decode cc pc = .ok (.getfield index, 3)) (kk : GG p l e R s m args below meth c G A nL ce sl Q I pm L (pc + 3) (.int (I 7 i 6) :: rest)) : GG p l e R s m args below meth c G A nL ce sl Q I pm L pc (.ref (G.2.2 7 i) :: rest) := g_get F (C := RX2) (T := TX2) (N := 11) (ci := 2) inlX2 rfl hi rfl 6 (by decide) hw rfl hd kk
theorem gp_7_6 (F : FX p s m args c cc nL own G A) (hi : i < 88) (hw : Cond.fieldLink own index "LocoFrames$Loco" "rounds" "I" ∈ wsL_law) (hd : decode cc pc = .ok (.putfield index, 3)) (kk : GG p l e R s m args below meth c G A nL ce sl Q (up3 I 7 i 6 x) pm L (pc + 3) rest) : GG p l e R s m args below meth c G A nL ce sl Q I pm L pc (.int x :: .ref (G.2.2 7 i) :: rest) := g_put F (C := RX2) (T := TX2) (N := 11) (ci := 2) (ty := .int) inlX2 tyX2 tyX2_ok nmX2 rfl hi rfl 6 (by decide) hw rfl (by decide +kernel) rfl rfl (Nat.le_of_ble_eq_true rfl) (by simp [cvv, up3]) hd kk
theorem gf_7_7 (F : FX p s m args c cc nL own G A) (hi : i < 88) (hw : Cond.fieldLink own index "LocoFrames$Loco" "step" "I" ∈ wsL_law) (hd : decode cc pc = .ok (.getfield index, 3)) (kk : GG p l e R s m args below meth c G A nL ce sl Q I pm L (pc + 3) (.int (I 7 i 7) :: rest)) : GG p l e R s m args below meth c G A nL ce sl Q I pm L pc (.ref (G.2.2 7 i) :: rest) := g_get F (C := RX2) (T := TX2) (N := 11) (ci := 2) inlX2 rfl hi rfl 7 (by decide) hw rfl hd kk
theorem gp_7_7 (F : FX p s m args c cc nL own G A) (hi : i < 88) (hw : Cond.fieldLink own index "LocoFrames$Loco" "step" "I" ∈ wsL_law) (hd : decode cc pc = .ok (.putfield index, 3)) (kk : GG p l e R s m args below meth c G A nL ce sl Q (up3 I 7 i 7 x) pm L (pc + 3) rest) : GG p l e R s m args below meth c G A nL ce sl Q I pm L pc (.int x :: .ref (G.2.2 7 i) :: rest) := g_put F (C := RX2) (T := TX2) (N := 11) (ci := 2) (ty := .int) inlX2 tyX2 tyX2_ok nmX2 rfl hi rfl 7 (by decide) hw rfl (by decide +kernel) rfl rfl (Nat.le_of_ble_eq_true rfl) (by simp [cvv, up3]) hd kk
theorem gf_7_8 (F : FX p s m args c cc nL own G A) (hi : i < 88) (hw : Cond.fieldLink own index "LocoFrames$Loco" "way" "I" ∈ wsL_law) (hd : decode cc pc = .ok (.getfield index, 3)) (kk : GG p l e R s m args below meth c G A nL ce sl Q I pm L (pc + 3) (.int (I 7 i 8) :: rest)) : GG p l e R s m args below meth c G A nL ce sl Q I pm L pc (.ref (G.2.2 7 i) :: rest) := g_get F (C := RX2) (T := TX2) (N := 11) (ci := 2) inlX2 rfl hi rfl 8 (by decide) hw rfl hd kk
theorem gp_7_8 (F : FX p s m args c cc nL own G A) (hi : i < 88) (hw : Cond.fieldLink own index "LocoFrames$Loco" "way" "I" ∈ wsL_law) (hd : decode cc pc = .ok (.putfield index, 3)) (kk : GG p l e R s m args below meth c G A nL ce sl Q (up3 I 7 i 8 x) pm L (pc + 3) rest) : GG p l e R s m args below meth c G A nL ce sl Q I pm L pc (.int x :: .ref (G.2.2 7 i) :: rest) := g_put F (C := RX2) (T := TX2) (N := 11) (ci := 2) (ty := .int) inlX2 tyX2 tyX2_ok nmX2 rfl hi rfl 8 (by decide) hw rfl (by decide +kernel) rfl rfl (Nat.le_of_ble_eq_true rfl) (by simp [cvv, up3]) hd kk
theorem gf_7_9 (F : FX p s m args c cc nL own G A) (hi : i < 88) (hw : Cond.fieldLink own index "LocoFrames$Loco" "lights" "I" ∈ wsL_law) (hd : decode cc pc = .ok (.getfield index, 3)) (kk : GG p l e R s m args below meth c G A nL ce sl Q I pm L (pc + 3) (.int (I 7 i 9) :: rest)) : GG p l e R s m args below meth c G A nL ce sl Q I pm L pc (.ref (G.2.2 7 i) :: rest) := g_get F (C := RX2) (T := TX2) (N := 11) (ci := 2) inlX2 rfl hi rfl 9 (by decide) hw rfl hd kk
theorem gp_7_9 (F : FX p s m args c cc nL own G A) (hi : i < 88) (hw : Cond.fieldLink own index "LocoFrames$Loco" "lights" "I" ∈ wsL_law) (hd : decode cc pc = .ok (.putfield index, 3)) (kk : GG p l e R s m args below meth c G A nL ce sl Q (up3 I 7 i 9 x) pm L (pc + 3) rest) : GG p l e R s m args below meth c G A nL ce sl Q I pm L pc (.int x :: .ref (G.2.2 7 i) :: rest) := g_put F (C := RX2) (T := TX2) (N := 11) (ci := 2) (ty := .int) inlX2 tyX2 tyX2_ok nmX2 rfl hi rfl 9 (by decide) hw rfl (by decide +kernel) rfl rfl (Nat.le_of_ble_eq_true rfl) (by simp [cvv, up3]) hd kk
theorem gf_7_10 (F : FX p s m args c cc nL own G A) (hi : i < 88) (hw : Cond.fieldLink own index "LocoFrames$Loco" "heard" "I" ∈ wsL_law) (hd : decode cc pc = .ok (.getfield index, 3)) (kk : GG p l e R s m args below meth c G A nL ce sl Q I pm L (pc + 3) (.int (I 7 i 10) :: rest)) : GG p l e R s m args below meth c G A nL ce sl Q I pm L pc (.ref (G.2.2 7 i) :: rest) := g_get F (C := RX2) (T := TX2) (N := 11) (ci := 2) inlX2 rfl hi rfl 10 (by decide) hw rfl hd kk
theorem gp_7_10 (F : FX p s m args c cc nL own G A) (hi : i < 88) (hw : Cond.fieldLink own index "LocoFrames$Loco" "heard" "I" ∈ wsL_law) (hd : decode cc pc = .ok (.putfield index, 3)) (kk : GG p l e R s m args below meth c G A nL ce sl Q (up3 I 7 i 10 x) pm L (pc + 3) rest) : GG p l e R s m args below meth c G A nL ce sl Q I pm L pc (.int x :: .ref (G.2.2 7 i) :: rest) := g_put F (C := RX2) (T := TX2) (N := 11) (ci := 2) (ty := .int) inlX2 tyX2 tyX2_ok nmX2 rfl hi rfl 10 (by decide) hw rfl (by decide +kernel) rfl rfl (Nat.le_of_ble_eq_true rfl) (by simp [cvv, up3]) hd kk
theorem gf_8_0 (F : FX p s m args c cc nL own G A) (hi : i < 1) (hw : Cond.fieldLink own index "LocoFrames" "now" "LLocoFrames$Layout;" ∈ wsL_law) (hd : decode cc pc = .ok (.getfield index, 3)) (kk : GG p l e R s m args below meth c G A nL ce sl Q I pm L (pc + 3) (.ref (G.2.2 0 0) :: rest)) : GG p l e R s m args below meth c G A nL ce sl Q I pm L pc (.ref (G.2.2 8 i) :: rest) := g_get F (C := RX5) (T := TX5) (N := 6) (ci := 5) inlX5 rfl hi rfl 0 (by decide) hw rfl hd kk
theorem gf_8_1 (F : FX p s m args c cc nL own G A) (hi : i < 1) (hw : Cond.fieldLink own index "LocoFrames" "foreseen" "LLocoFrames$Layout;" ∈ wsL_law) (hd : decode cc pc = .ok (.getfield index, 3)) (kk : GG p l e R s m args below meth c G A nL ce sl Q I pm L (pc + 3) (.ref (G.2.2 0 1) :: rest)) : GG p l e R s m args below meth c G A nL ce sl Q I pm L pc (.ref (G.2.2 8 i) :: rest) := g_get F (C := RX5) (T := TX5) (N := 6) (ci := 5) inlX5 rfl hi rfl 1 (by decide) hw rfl hd kk
theorem gf_8_2 (F : FX p s m args c cc nL own G A) (hi : i < 1) (hw : Cond.fieldLink own index "LocoFrames" "history" "LLocoFrames$History;" ∈ wsL_law) (hd : decode cc pc = .ok (.getfield index, 3)) (kk : GG p l e R s m args below meth c G A nL ce sl Q I pm L (pc + 3) (.ref (G.2.2 9 0) :: rest)) : GG p l e R s m args below meth c G A nL ce sl Q I pm L pc (.ref (G.2.2 8 i) :: rest) := g_get F (C := RX5) (T := TX5) (N := 6) (ci := 5) inlX5 rfl hi rfl 2 (by decide) hw rfl hd kk
theorem gf_8_3 (F : FX p s m args c cc nL own G A) (hi : i < 1) (hw : Cond.fieldLink own index "LocoFrames" "slots" "[LLocoFrames$Layout;" ∈ wsL_law) (hd : decode cc pc = .ok (.getfield index, 3)) (kk : GG p l e R s m args below meth c G A nL ce sl Q I pm L (pc + 3) (.ref (G.2.2 11 0) :: rest)) : GG p l e R s m args below meth c G A nL ce sl Q I pm L pc (.ref (G.2.2 8 i) :: rest) := g_get F (C := RX5) (T := TX5) (N := 6) (ci := 5) inlX5 rfl hi rfl 3 (by decide) hw rfl hd kk
theorem gf_8_4 (F : FX p s m args c cc nL own G A) (hi : i < 1) (hw : Cond.fieldLink own index "LocoFrames" "saved" "[Z" ∈ wsL_law) (hd : decode cc pc = .ok (.getfield index, 3)) (kk : GG p l e R s m args below meth c G A nL ce sl Q I pm L (pc + 3) (.ref (G.2.2 12 0) :: rest)) : GG p l e R s m args below meth c G A nL ce sl Q I pm L pc (.ref (G.2.2 8 i) :: rest) := g_get F (C := RX5) (T := TX5) (N := 6) (ci := 5) inlX5 rfl hi rfl 4 (by decide) hw rfl hd kk
theorem gf_8_5 (F : FX p s m args c cc nL own G A) (hi : i < 1) (hw : Cond.fieldLink own index "LocoFrames" "pad" "LLocoFrames$Pad;" ∈ wsL_law) (hd : decode cc pc = .ok (.getfield index, 3)) (kk : GG p l e R s m args below meth c G A nL ce sl Q I pm L (pc + 3) (.ref (G.2.2 13 0) :: rest)) : GG p l e R s m args below meth c G A nL ce sl Q I pm L pc (.ref (G.2.2 8 i) :: rest) := g_get F (C := RX5) (T := TX5) (N := 6) (ci := 5) inlX5 rfl hi rfl 5 (by decide) hw rfl hd kk
theorem gf_9_0 (F : FX p s m args c cc nL own G A) (hi : i < 1) (hw : Cond.fieldLink own index "LocoFrames$History" "states" "[LLocoFrames$Layout;" ∈ wsL_law) (hd : decode cc pc = .ok (.getfield index, 3)) (kk : GG p l e R s m args below meth c G A nL ce sl Q I pm L (pc + 3) (.ref (G.2.2 10 0) :: rest)) : GG p l e R s m args below meth c G A nL ce sl Q I pm L pc (.ref (G.2.2 9 i) :: rest) := g_get F (C := RX0) (T := TX0) (N := 3) (ci := 0) inlX0 rfl hi rfl 0 (by decide) hw rfl hd kk
theorem gf_9_1 (F : FX p s m args c cc nL own G A) (hi : i < 1) (hw : Cond.fieldLink own index "LocoFrames$History" "first" "I" ∈ wsL_law) (hd : decode cc pc = .ok (.getfield index, 3)) (kk : GG p l e R s m args below meth c G A nL ce sl Q I pm L (pc + 3) (.int (I 9 i 1) :: rest)) : GG p l e R s m args below meth c G A nL ce sl Q I pm L pc (.ref (G.2.2 9 i) :: rest) := g_get F (C := RX0) (T := TX0) (N := 3) (ci := 0) inlX0 rfl hi rfl 1 (by decide) hw rfl hd kk
theorem gp_9_1 (F : FX p s m args c cc nL own G A) (hi : i < 1) (hw : Cond.fieldLink own index "LocoFrames$History" "first" "I" ∈ wsL_law) (hd : decode cc pc = .ok (.putfield index, 3)) (kk : GG p l e R s m args below meth c G A nL ce sl Q (up3 I 9 i 1 x) pm L (pc + 3) rest) : GG p l e R s m args below meth c G A nL ce sl Q I pm L pc (.int x :: .ref (G.2.2 9 i) :: rest) := g_put F (C := RX0) (T := TX0) (N := 3) (ci := 0) (ty := .int) inlX0 tyX0 tyX0_ok nmX0 rfl hi rfl 1 (by decide) hw rfl (by decide +kernel) rfl rfl (Nat.le_of_ble_eq_true rfl) (by simp [cvv, up3]) hd kk
theorem gf_9_2 (F : FX p s m args c cc nL own G A) (hi : i < 1) (hw : Cond.fieldLink own index "LocoFrames$History" "held" "I" ∈ wsL_law) (hd : decode cc pc = .ok (.getfield index, 3)) (kk : GG p l e R s m args below meth c G A nL ce sl Q I pm L (pc + 3) (.int (I 9 i 2) :: rest)) : GG p l e R s m args below meth c G A nL ce sl Q I pm L pc (.ref (G.2.2 9 i) :: rest) := g_get F (C := RX0) (T := TX0) (N := 3) (ci := 0) inlX0 rfl hi rfl 2 (by decide) hw rfl hd kk
theorem gp_9_2 (F : FX p s m args c cc nL own G A) (hi : i < 1) (hw : Cond.fieldLink own index "LocoFrames$History" "held" "I" ∈ wsL_law) (hd : decode cc pc = .ok (.putfield index, 3)) (kk : GG p l e R s m args below meth c G A nL ce sl Q (up3 I 9 i 2 x) pm L (pc + 3) rest) : GG p l e R s m args below meth c G A nL ce sl Q I pm L pc (.int x :: .ref (G.2.2 9 i) :: rest) := g_put F (C := RX0) (T := TX0) (N := 3) (ci := 0) (ty := .int) inlX0 tyX0 tyX0_ok nmX0 rfl hi rfl 2 (by decide) hw rfl (by decide +kernel) rfl rfl (Nat.le_of_ble_eq_true rfl) (by simp [cvv, up3]) hd kk
theorem gf_13_0 (F : FX p s m args c cc nL own G A) (hi : i < 1) (hw : Cond.fieldLink own index "LocoFrames$Pad" "text" "[C" ∈ wsL_law) (hd : decode cc pc = .ok (.getfield index, 3)) (kk : GG p l e R s m args below meth c G A nL ce sl Q I pm L (pc + 3) (.ref (G.2.2 14 0) :: rest)) : GG p l e R s m args below meth c G A nL ce sl Q I pm L pc (.ref (G.2.2 13 i) :: rest) := g_get F (C := RX3) (T := TX3) (N := 6) (ci := 3) inlX3 rfl hi rfl 0 (by decide) hw rfl hd kk
theorem gf_13_1 (F : FX p s m args c cc nL own G A) (hi : i < 1) (hw : Cond.fieldLink own index "LocoFrames$Pad" "length" "I" ∈ wsL_law) (hd : decode cc pc = .ok (.getfield index, 3)) (kk : GG p l e R s m args below meth c G A nL ce sl Q I pm L (pc + 3) (.int (I 13 i 1) :: rest)) : GG p l e R s m args below meth c G A nL ce sl Q I pm L pc (.ref (G.2.2 13 i) :: rest) := g_get F (C := RX3) (T := TX3) (N := 6) (ci := 3) inlX3 rfl hi rfl 1 (by decide) hw rfl hd kk
theorem gp_13_1 (F : FX p s m args c cc nL own G A) (hi : i < 1) (hw : Cond.fieldLink own index "LocoFrames$Pad" "length" "I" ∈ wsL_law) (hd : decode cc pc = .ok (.putfield index, 3)) (kk : GG p l e R s m args below meth c G A nL ce sl Q (up3 I 13 i 1 x) pm L (pc + 3) rest) : GG p l e R s m args below meth c G A nL ce sl Q I pm L pc (.int x :: .ref (G.2.2 13 i) :: rest) := g_put F (C := RX3) (T := TX3) (N := 6) (ci := 3) (ty := .int) inlX3 tyX3 tyX3_ok nmX3 rfl hi rfl 1 (by decide) hw rfl (by decide +kernel) rfl rfl (Nat.le_of_ble_eq_true rfl) (by simp [cvv, up3]) hd kk
theorem gf_13_2 (F : FX p s m args c cc nL own G A) (hi : i < 1) (hw : Cond.fieldLink own index "LocoFrames$Pad" "at" "I" ∈ wsL_law) (hd : decode cc pc = .ok (.getfield index, 3)) (kk : GG p l e R s m args below meth c G A nL ce sl Q I pm L (pc + 3) (.int (I 13 i 2) :: rest)) : GG p l e R s m args below meth c G A nL ce sl Q I pm L pc (.ref (G.2.2 13 i) :: rest) := g_get F (C := RX3) (T := TX3) (N := 6) (ci := 3) inlX3 rfl hi rfl 2 (by decide) hw rfl hd kk
theorem gp_13_2 (F : FX p s m args c cc nL own G A) (hi : i < 1) (hw : Cond.fieldLink own index "LocoFrames$Pad" "at" "I" ∈ wsL_law) (hd : decode cc pc = .ok (.putfield index, 3)) (kk : GG p l e R s m args below meth c G A nL ce sl Q (up3 I 13 i 2 x) pm L (pc + 3) rest) : GG p l e R s m args below meth c G A nL ce sl Q I pm L pc (.int x :: .ref (G.2.2 13 i) :: rest) := g_put F (C := RX3) (T := TX3) (N := 6) (ci := 3) (ty := .int) inlX3 tyX3 tyX3_ok nmX3 rfl hi rfl 2 (by decide) hw rfl (by decide +kernel) rfl rfl (Nat.le_of_ble_eq_true rfl) (by simp [cvv, up3]) hd kk
theorem gf_13_3 (F : FX p s m args c cc nL own G A) (hi : i < 1) (hw : Cond.fieldLink own index "LocoFrames$Pad" "kind" "I" ∈ wsL_law) (hd : decode cc pc = .ok (.getfield index, 3)) (kk : GG p l e R s m args below meth c G A nL ce sl Q I pm L (pc + 3) (.int (I 13 i 3) :: rest)) : GG p l e R s m args below meth c G A nL ce sl Q I pm L pc (.ref (G.2.2 13 i) :: rest) := g_get F (C := RX3) (T := TX3) (N := 6) (ci := 3) inlX3 rfl hi rfl 3 (by decide) hw rfl hd kk
theorem gp_13_3 (F : FX p s m args c cc nL own G A) (hi : i < 1) (hw : Cond.fieldLink own index "LocoFrames$Pad" "kind" "I" ∈ wsL_law) (hd : decode cc pc = .ok (.putfield index, 3)) (kk : GG p l e R s m args below meth c G A nL ce sl Q (up3 I 13 i 3 x) pm L (pc + 3) rest) : GG p l e R s m args below meth c G A nL ce sl Q I pm L pc (.int x :: .ref (G.2.2 13 i) :: rest) := g_put F (C := RX3) (T := TX3) (N := 6) (ci := 3) (ty := .int) inlX3 tyX3 tyX3_ok nmX3 rfl hi rfl 3 (by decide) hw rfl (by decide +kernel) rfl rfl (Nat.le_of_ble_eq_true rfl) (by simp [cvv, up3]) hd kk
theorem gf_13_4 (F : FX p s m args c cc nL own G A) (hi : i < 1) (hw : Cond.fieldLink own index "LocoFrames$Pad" "numbers" "[I" ∈ wsL_law) (hd : decode cc pc = .ok (.getfield index, 3)) (kk : GG p l e R s m args below meth c G A nL ce sl Q I pm L (pc + 3) (.ref (G.2.2 15 0) :: rest)) : GG p l e R s m args below meth c G A nL ce sl Q I pm L pc (.ref (G.2.2 13 i) :: rest) := g_get F (C := RX3) (T := TX3) (N := 6) (ci := 3) inlX3 rfl hi rfl 4 (by decide) hw rfl hd kk
theorem gf_13_5 (F : FX p s m args c cc nL own G A) (hi : i < 1) (hw : Cond.fieldLink own index "LocoFrames$Pad" "numbersRead" "I" ∈ wsL_law) (hd : decode cc pc = .ok (.getfield index, 3)) (kk : GG p l e R s m args below meth c G A nL ce sl Q I pm L (pc + 3) (.int (I 13 i 5) :: rest)) : GG p l e R s m args below meth c G A nL ce sl Q I pm L pc (.ref (G.2.2 13 i) :: rest) := g_get F (C := RX3) (T := TX3) (N := 6) (ci := 3) inlX3 rfl hi rfl 5 (by decide) hw rfl hd kk
theorem gp_13_5 (F : FX p s m args c cc nL own G A) (hi : i < 1) (hw : Cond.fieldLink own index "LocoFrames$Pad" "numbersRead" "I" ∈ wsL_law) (hd : decode cc pc = .ok (.putfield index, 3)) (kk : GG p l e R s m args below meth c G A nL ce sl Q (up3 I 13 i 5 x) pm L (pc + 3) rest) : GG p l e R s m args below meth c G A nL ce sl Q I pm L pc (.int x :: .ref (G.2.2 13 i) :: rest) := g_put F (C := RX3) (T := TX3) (N := 6) (ci := 3) (ty := .int) inlX3 tyX3 tyX3_ok nmX3 rfl hi rfl 5 (by decide) hw rfl (by decide +kernel) rfl rfl (Nat.le_of_ble_eq_true rfl) (by simp [cvv, up3]) hd kk
theorem gf_16_0 (F : FX p s m args c cc nL own G A) (hi : i < 1) (hw : Cond.fieldLink own index "LocoFramesModel" "thrown" "I" ∈ wsL_law) (hd : decode cc pc = .ok (.getfield index, 3)) (kk : GG p l e R s m args below meth c G A nL ce sl Q I pm L (pc + 3) (.int (I 16 i 0) :: rest)) : GG p l e R s m args below meth c G A nL ce sl Q I pm L pc (.ref (G.2.2 16 i) :: rest) := g_get F (C := RX6) (T := TX6) (N := 13) (ci := 6) inlX6 rfl hi rfl 0 (by decide) hw rfl hd kk
theorem gp_16_0 (F : FX p s m args c cc nL own G A) (hi : i < 1) (hw : Cond.fieldLink own index "LocoFramesModel" "thrown" "I" ∈ wsL_law) (hd : decode cc pc = .ok (.putfield index, 3)) (kk : GG p l e R s m args below meth c G A nL ce sl Q (up3 I 16 i 0 x) pm L (pc + 3) rest) : GG p l e R s m args below meth c G A nL ce sl Q I pm L pc (.int x :: .ref (G.2.2 16 i) :: rest) := g_put F (C := RX6) (T := TX6) (N := 13) (ci := 6) (ty := .int) inlX6 tyX6 tyX6_ok nmX6 rfl hi rfl 0 (by decide) hw rfl (by decide +kernel) rfl rfl (Nat.le_of_ble_eq_true rfl) (by simp [cvv, up3]) hd kk
theorem gf_16_1 (F : FX p s m args c cc nL own G A) (hi : i < 1) (hw : Cond.fieldLink own index "LocoFramesModel" "s" "[I" ∈ wsL_law) (hd : decode cc pc = .ok (.getfield index, 3)) (kk : GG p l e R s m args below meth c G A nL ce sl Q I pm L (pc + 3) (.ref (G.2.2 17 0) :: rest)) : GG p l e R s m args below meth c G A nL ce sl Q I pm L pc (.ref (G.2.2 16 i) :: rest) := g_get F (C := RX6) (T := TX6) (N := 13) (ci := 6) inlX6 rfl hi rfl 1 (by decide) hw rfl hd kk
theorem gf_16_2 (F : FX p s m args c cc nL own G A) (hi : i < 1) (hw : Cond.fieldLink own index "LocoFramesModel" "aside" "[I" ∈ wsL_law) (hd : decode cc pc = .ok (.getfield index, 3)) (kk : GG p l e R s m args below meth c G A nL ce sl Q I pm L (pc + 3) (.ref (G.2.2 18 0) :: rest)) : GG p l e R s m args below meth c G A nL ce sl Q I pm L pc (.ref (G.2.2 16 i) :: rest) := g_get F (C := RX6) (T := TX6) (N := 13) (ci := 6) inlX6 rfl hi rfl 2 (by decide) hw rfl hd kk
theorem gf_16_3 (F : FX p s m args c cc nL own G A) (hi : i < 1) (hw : Cond.fieldLink own index "LocoFramesModel" "undos" "[I" ∈ wsL_law) (hd : decode cc pc = .ok (.getfield index, 3)) (kk : GG p l e R s m args below meth c G A nL ce sl Q I pm L (pc + 3) (.ref (G.2.2 19 0) :: rest)) : GG p l e R s m args below meth c G A nL ce sl Q I pm L pc (.ref (G.2.2 16 i) :: rest) := g_get F (C := RX6) (T := TX6) (N := 13) (ci := 6) inlX6 rfl hi rfl 3 (by decide) hw rfl hd kk
theorem gf_16_4 (F : FX p s m args c cc nL own G A) (hi : i < 1) (hw : Cond.fieldLink own index "LocoFramesModel" "undoMany" "I" ∈ wsL_law) (hd : decode cc pc = .ok (.getfield index, 3)) (kk : GG p l e R s m args below meth c G A nL ce sl Q I pm L (pc + 3) (.int (I 16 i 4) :: rest)) : GG p l e R s m args below meth c G A nL ce sl Q I pm L pc (.ref (G.2.2 16 i) :: rest) := g_get F (C := RX6) (T := TX6) (N := 13) (ci := 6) inlX6 rfl hi rfl 4 (by decide) hw rfl hd kk
theorem gp_16_4 (F : FX p s m args c cc nL own G A) (hi : i < 1) (hw : Cond.fieldLink own index "LocoFramesModel" "undoMany" "I" ∈ wsL_law) (hd : decode cc pc = .ok (.putfield index, 3)) (kk : GG p l e R s m args below meth c G A nL ce sl Q (up3 I 16 i 4 x) pm L (pc + 3) rest) : GG p l e R s m args below meth c G A nL ce sl Q I pm L pc (.int x :: .ref (G.2.2 16 i) :: rest) := g_put F (C := RX6) (T := TX6) (N := 13) (ci := 6) (ty := .int) inlX6 tyX6 tyX6_ok nmX6 rfl hi rfl 4 (by decide) hw rfl (by decide +kernel) rfl rfl (Nat.le_of_ble_eq_true rfl) (by simp [cvv, up3]) hd kk
theorem gf_16_5 (F : FX p s m args c cc nL own G A) (hi : i < 1) (hw : Cond.fieldLink own index "LocoFramesModel" "slots" "[I" ∈ wsL_law) (hd : decode cc pc = .ok (.getfield index, 3)) (kk : GG p l e R s m args below meth c G A nL ce sl Q I pm L (pc + 3) (.ref (G.2.2 20 0) :: rest)) : GG p l e R s m args below meth c G A nL ce sl Q I pm L pc (.ref (G.2.2 16 i) :: rest) := g_get F (C := RX6) (T := TX6) (N := 13) (ci := 6) inlX6 rfl hi rfl 5 (by decide) hw rfl hd kk
theorem gf_16_6 (F : FX p s m args c cc nL own G A) (hi : i < 1) (hw : Cond.fieldLink own index "LocoFramesModel" "hasSlot" "[Z" ∈ wsL_law) (hd : decode cc pc = .ok (.getfield index, 3)) (kk : GG p l e R s m args below meth c G A nL ce sl Q I pm L (pc + 3) (.ref (G.2.2 21 0) :: rest)) : GG p l e R s m args below meth c G A nL ce sl Q I pm L pc (.ref (G.2.2 16 i) :: rest) := g_get F (C := RX6) (T := TX6) (N := 13) (ci := 6) inlX6 rfl hi rfl 6 (by decide) hw rfl hd kk
theorem gf_16_7 (F : FX p s m args c cc nL own G A) (hi : i < 1) (hw : Cond.fieldLink own index "LocoFramesModel" "pad" "[I" ∈ wsL_law) (hd : decode cc pc = .ok (.getfield index, 3)) (kk : GG p l e R s m args below meth c G A nL ce sl Q I pm L (pc + 3) (.ref (G.2.2 22 0) :: rest)) : GG p l e R s m args below meth c G A nL ce sl Q I pm L pc (.ref (G.2.2 16 i) :: rest) := g_get F (C := RX6) (T := TX6) (N := 13) (ci := 6) inlX6 rfl hi rfl 7 (by decide) hw rfl hd kk
theorem gf_16_8 (F : FX p s m args c cc nL own G A) (hi : i < 1) (hw : Cond.fieldLink own index "LocoFramesModel" "length" "I" ∈ wsL_law) (hd : decode cc pc = .ok (.getfield index, 3)) (kk : GG p l e R s m args below meth c G A nL ce sl Q I pm L (pc + 3) (.int (I 16 i 8) :: rest)) : GG p l e R s m args below meth c G A nL ce sl Q I pm L pc (.ref (G.2.2 16 i) :: rest) := g_get F (C := RX6) (T := TX6) (N := 13) (ci := 6) inlX6 rfl hi rfl 8 (by decide) hw rfl hd kk
theorem gp_16_8 (F : FX p s m args c cc nL own G A) (hi : i < 1) (hw : Cond.fieldLink own index "LocoFramesModel" "length" "I" ∈ wsL_law) (hd : decode cc pc = .ok (.putfield index, 3)) (kk : GG p l e R s m args below meth c G A nL ce sl Q (up3 I 16 i 8 x) pm L (pc + 3) rest) : GG p l e R s m args below meth c G A nL ce sl Q I pm L pc (.int x :: .ref (G.2.2 16 i) :: rest) := g_put F (C := RX6) (T := TX6) (N := 13) (ci := 6) (ty := .int) inlX6 tyX6 tyX6_ok nmX6 rfl hi rfl 8 (by decide) hw rfl (by decide +kernel) rfl rfl (Nat.le_of_ble_eq_true rfl) (by simp [cvv, up3]) hd kk
theorem gf_16_9 (F : FX p s m args c cc nL own G A) (hi : i < 1) (hw : Cond.fieldLink own index "LocoFramesModel" "at" "I" ∈ wsL_law) (hd : decode cc pc = .ok (.getfield index, 3)) (kk : GG p l e R s m args below meth c G A nL ce sl Q I pm L (pc + 3) (.int (I 16 i 9) :: rest)) : GG p l e R s m args below meth c G A nL ce sl Q I pm L pc (.ref (G.2.2 16 i) :: rest) := g_get F (C := RX6) (T := TX6) (N := 13) (ci := 6) inlX6 rfl hi rfl 9 (by decide) hw rfl hd kk
theorem gp_16_9 (F : FX p s m args c cc nL own G A) (hi : i < 1) (hw : Cond.fieldLink own index "LocoFramesModel" "at" "I" ∈ wsL_law) (hd : decode cc pc = .ok (.putfield index, 3)) (kk : GG p l e R s m args below meth c G A nL ce sl Q (up3 I 16 i 9 x) pm L (pc + 3) rest) : GG p l e R s m args below meth c G A nL ce sl Q I pm L pc (.int x :: .ref (G.2.2 16 i) :: rest) := g_put F (C := RX6) (T := TX6) (N := 13) (ci := 6) (ty := .int) inlX6 tyX6 tyX6_ok nmX6 rfl hi rfl 9 (by decide) hw rfl (by decide +kernel) rfl rfl (Nat.le_of_ble_eq_true rfl) (by simp [cvv, up3]) hd kk
theorem gf_16_10 (F : FX p s m args c cc nL own G A) (hi : i < 1) (hw : Cond.fieldLink own index "LocoFramesModel" "isWell" "Z" ∈ wsL_law) (hd : decode cc pc = .ok (.getfield index, 3)) (kk : GG p l e R s m args below meth c G A nL ce sl Q I pm L (pc + 3) (.int (I 16 i 10) :: rest)) : GG p l e R s m args below meth c G A nL ce sl Q I pm L pc (.ref (G.2.2 16 i) :: rest) := g_get F (C := RX6) (T := TX6) (N := 13) (ci := 6) inlX6 rfl hi rfl 10 (by decide) hw rfl hd kk
theorem gp_16_10 (F : FX p s m args c cc nL own G A) (hi : i < 1) (hw : Cond.fieldLink own index "LocoFramesModel" "isWell" "Z" ∈ wsL_law) (hn : narrow .boolean (.int x) = .int x) (hf : fits .boolean (.int x) = true) (hd : decode cc pc = .ok (.putfield index, 3)) (kk : GG p l e R s m args below meth c G A nL ce sl Q (up3 I 16 i 10 x) pm L (pc + 3) rest) : GG p l e R s m args below meth c G A nL ce sl Q I pm L pc (.int x :: .ref (G.2.2 16 i) :: rest) := g_put F (C := RX6) (T := TX6) (N := 13) (ci := 6) (ty := .boolean) inlX6 tyX6 tyX6_ok nmX6 rfl hi rfl 10 (by decide) hw rfl (by decide +kernel) hn hf (Nat.le_of_ble_eq_true rfl) (by simp [cvv, up3]) hd kk
theorem gf_16_11 (F : FX p s m args c cc nL own G A) (hi : i < 1) (hw : Cond.fieldLink own index "LocoFramesModel" "told" "[I" ∈ wsL_law) (hd : decode cc pc = .ok (.getfield index, 3)) (kk : GG p l e R s m args below meth c G A nL ce sl Q I pm L (pc + 3) (.ref (G.2.2 23 0) :: rest)) : GG p l e R s m args below meth c G A nL ce sl Q I pm L pc (.ref (G.2.2 16 i) :: rest) := g_get F (C := RX6) (T := TX6) (N := 13) (ci := 6) inlX6 rfl hi rfl 11 (by decide) hw rfl hd kk
theorem gf_16_12 (F : FX p s m args c cc nL own G A) (hi : i < 1) (hw : Cond.fieldLink own index "LocoFramesModel" "toldMany" "I" ∈ wsL_law) (hd : decode cc pc = .ok (.getfield index, 3)) (kk : GG p l e R s m args below meth c G A nL ce sl Q I pm L (pc + 3) (.int (I 16 i 12) :: rest)) : GG p l e R s m args below meth c G A nL ce sl Q I pm L pc (.ref (G.2.2 16 i) :: rest) := g_get F (C := RX6) (T := TX6) (N := 13) (ci := 6) inlX6 rfl hi rfl 12 (by decide) hw rfl hd kk
theorem gp_16_12 (F : FX p s m args c cc nL own G A) (hi : i < 1) (hw : Cond.fieldLink own index "LocoFramesModel" "toldMany" "I" ∈ wsL_law) (hd : decode cc pc = .ok (.putfield index, 3)) (kk : GG p l e R s m args below meth c G A nL ce sl Q (up3 I 16 i 12 x) pm L (pc + 3) rest) : GG p l e R s m args below meth c G A nL ce sl Q I pm L pc (.int x :: .ref (G.2.2 16 i) :: rest) := g_put F (C := RX6) (T := TX6) (N := 13) (ci := 6) (ty := .int) inlX6 tyX6 tyX6_ok nmX6 rfl hi rfl 12 (by decide) hw rfl (by decide +kernel) rfl rfl (Nat.le_of_ble_eq_true rfl) (by simp [cvv, up3]) hd kk
theorem up3_f {I : Ii} {K i j : Nat} {v : Int32} : up3 I K i j v K i = upd (I K i) j v := by funext q; simp [up3, upd]
theorem vp_in_e {x : Int32} {j n : Nat} (ex : x = nI j) (hj : j < n) (hn : n < 2 ^ 31) : vp_in x n := by rw [ex]; exact vp_in_nI hj hn
theorem cl_e {x : Int32} {j n : Nat} (ex : x = nI j) (hj : j < n) (hn : n < 2 ^ 31) : x.toNatClampNeg = j := by rw [ex]; exact nI_clamp (Nat.lt_trans hj hn)
theorem ga_3 (F : FX p s m args c cc nL own G A) (hi : i < 11) (ex : x = nI j) (hj : j < 20) (hd : decode cc pc = .ok (.iaload, 1)) (kk : GG p l e R s m args below meth c G A nL ce sl Q I pm L (pc + 1) (.int (I 3 i j) :: rest)) : GG p l e R s m args below meth c G A nL ce sl Q I pm L pc (.int x :: .ref (G.2.2 3 i) :: rest) := g_iald F (n := 20) (f := I 3 i) hi rfl (vp_in_e ex hj (by decide)) hd (by rw [cl_e ex hj (by decide)]; exact kk)
theorem gs_3 (F : FX p s m args c cc nL own G A) (hi : i < 11) (ex : x = nI j) (hj : j < 20) (hd : decode cc pc = .ok (.iastore, 1)) (kk : GG p l e R s m args below meth c G A nL ce sl Q (up3 I 3 i j z) pm L (pc + 1) rest) : GG p l e R s m args below meth c G A nL ce sl Q I pm L pc (.int z :: .int x :: .ref (G.2.2 3 i) :: rest) := g_iast F (n := 20) (f := I 3 i) hi rfl (vp_in_e ex hj (by decide)) (by simp only [cvv, up3_f]) hd (by rw [cl_e ex hj (by decide)]; exact kk)
theorem ga_4 (F : FX p s m args c cc nL own G A) (hi : i < 11) (ex : x = nI j) (hj : j < 20) (hd : decode cc pc = .ok (.iaload, 1)) (kk : GG p l e R s m args below meth c G A nL ce sl Q I pm L (pc + 1) (.int (I 4 i j) :: rest)) : GG p l e R s m args below meth c G A nL ce sl Q I pm L pc (.int x :: .ref (G.2.2 4 i) :: rest) := g_iald F (n := 20) (f := I 4 i) hi rfl (vp_in_e ex hj (by decide)) hd (by rw [cl_e ex hj (by decide)]; exact kk)
theorem gs_4 (F : FX p s m args c cc nL own G A) (hi : i < 11) (ex : x = nI j) (hj : j < 20) (hd : decode cc pc = .ok (.iastore, 1)) (kk : GG p l e R s m args below meth c G A nL ce sl Q (up3 I 4 i j z) pm L (pc + 1) rest) : GG p l e R s m args below meth c G A nL ce sl Q I pm L pc (.int z :: .int x :: .ref (G.2.2 4 i) :: rest) := g_iast F (n := 20) (f := I 4 i) hi rfl (vp_in_e ex hj (by decide)) (by simp only [cvv, up3_f]) hd (by rw [cl_e ex hj (by decide)]; exact kk)
theorem ga_5 (F : FX p s m args c cc nL own G A) (hi : i < 11) (ex : x = nI j) (hj : j < 20) (hd : decode cc pc = .ok (.iaload, 1)) (kk : GG p l e R s m args below meth c G A nL ce sl Q I pm L (pc + 1) (.int (I 5 i j) :: rest)) : GG p l e R s m args below meth c G A nL ce sl Q I pm L pc (.int x :: .ref (G.2.2 5 i) :: rest) := g_iald F (n := 20) (f := I 5 i) hi rfl (vp_in_e ex hj (by decide)) hd (by rw [cl_e ex hj (by decide)]; exact kk)
theorem gs_5 (F : FX p s m args c cc nL own G A) (hi : i < 11) (ex : x = nI j) (hj : j < 20) (hd : decode cc pc = .ok (.iastore, 1)) (kk : GG p l e R s m args below meth c G A nL ce sl Q (up3 I 5 i j z) pm L (pc + 1) rest) : GG p l e R s m args below meth c G A nL ce sl Q I pm L pc (.int z :: .int x :: .ref (G.2.2 5 i) :: rest) := g_iast F (n := 20) (f := I 5 i) hi rfl (vp_in_e ex hj (by decide)) (by simp only [cvv, up3_f]) hd (by rw [cl_e ex hj (by decide)]; exact kk)
theorem ga_6 (F : FX p s m args c cc nL own G A) (hi : i < 11) (ex : x = nI j) (hj : j < 8) (hd : decode cc pc = .ok (.iaload, 1)) (kk : GG p l e R s m args below meth c G A nL ce sl Q I pm L (pc + 1) (.int (I 6 i j) :: rest)) : GG p l e R s m args below meth c G A nL ce sl Q I pm L pc (.int x :: .ref (G.2.2 6 i) :: rest) := g_iald F (n := 8) (f := I 6 i) hi rfl (vp_in_e ex hj (by decide)) hd (by rw [cl_e ex hj (by decide)]; exact kk)
theorem gs_6 (F : FX p s m args c cc nL own G A) (hi : i < 11) (ex : x = nI j) (hj : j < 8) (hd : decode cc pc = .ok (.iastore, 1)) (kk : GG p l e R s m args below meth c G A nL ce sl Q (up3 I 6 i j z) pm L (pc + 1) rest) : GG p l e R s m args below meth c G A nL ce sl Q I pm L pc (.int z :: .int x :: .ref (G.2.2 6 i) :: rest) := g_iast F (n := 8) (f := I 6 i) hi rfl (vp_in_e ex hj (by decide)) (by simp only [cvv, up3_f]) hd (by rw [cl_e ex hj (by decide)]; exact kk)
theorem ga_15 (F : FX p s m args c cc nL own G A) (hi : i < 1) (ex : x = nI j) (hj : j < 3) (hd : decode cc pc = .ok (.iaload, 1)) (kk : GG p l e R s m args below meth c G A nL ce sl Q I pm L (pc + 1) (.int (I 15 i j) :: rest)) : GG p l e R s m args below meth c G A nL ce sl Q I pm L pc (.int x :: .ref (G.2.2 15 i) :: rest) := g_iald F (n := 3) (f := I 15 i) hi rfl (vp_in_e ex hj (by decide)) hd (by rw [cl_e ex hj (by decide)]; exact kk)
theorem gs_15 (F : FX p s m args c cc nL own G A) (hi : i < 1) (ex : x = nI j) (hj : j < 3) (hd : decode cc pc = .ok (.iastore, 1)) (kk : GG p l e R s m args below meth c G A nL ce sl Q (up3 I 15 i j z) pm L (pc + 1) rest) : GG p l e R s m args below meth c G A nL ce sl Q I pm L pc (.int z :: .int x :: .ref (G.2.2 15 i) :: rest) := g_iast F (n := 3) (f := I 15 i) hi rfl (vp_in_e ex hj (by decide)) (by simp only [cvv, up3_f]) hd (by rw [cl_e ex hj (by decide)]; exact kk)
theorem ga_17 (F : FX p s m args c cc nL own G A) (hi : i < 1) (ex : x = nI j) (hj : j < 164) (hd : decode cc pc = .ok (.iaload, 1)) (kk : GG p l e R s m args below meth c G A nL ce sl Q I pm L (pc + 1) (.int (I 17 i j) :: rest)) : GG p l e R s m args below meth c G A nL ce sl Q I pm L pc (.int x :: .ref (G.2.2 17 i) :: rest) := g_iald F (n := 164) (f := I 17 i) hi rfl (vp_in_e ex hj (by decide)) hd (by rw [cl_e ex hj (by decide)]; exact kk)
theorem gs_17 (F : FX p s m args c cc nL own G A) (hi : i < 1) (ex : x = nI j) (hj : j < 164) (hd : decode cc pc = .ok (.iastore, 1)) (kk : GG p l e R s m args below meth c G A nL ce sl Q (up3 I 17 i j z) pm L (pc + 1) rest) : GG p l e R s m args below meth c G A nL ce sl Q I pm L pc (.int z :: .int x :: .ref (G.2.2 17 i) :: rest) := g_iast F (n := 164) (f := I 17 i) hi rfl (vp_in_e ex hj (by decide)) (by simp only [cvv, up3_f]) hd (by rw [cl_e ex hj (by decide)]; exact kk)
theorem ga_18 (F : FX p s m args c cc nL own G A) (hi : i < 1) (ex : x = nI j) (hj : j < 164) (hd : decode cc pc = .ok (.iaload, 1)) (kk : GG p l e R s m args below meth c G A nL ce sl Q I pm L (pc + 1) (.int (I 18 i j) :: rest)) : GG p l e R s m args below meth c G A nL ce sl Q I pm L pc (.int x :: .ref (G.2.2 18 i) :: rest) := g_iald F (n := 164) (f := I 18 i) hi rfl (vp_in_e ex hj (by decide)) hd (by rw [cl_e ex hj (by decide)]; exact kk)
theorem gs_18 (F : FX p s m args c cc nL own G A) (hi : i < 1) (ex : x = nI j) (hj : j < 164) (hd : decode cc pc = .ok (.iastore, 1)) (kk : GG p l e R s m args below meth c G A nL ce sl Q (up3 I 18 i j z) pm L (pc + 1) rest) : GG p l e R s m args below meth c G A nL ce sl Q I pm L pc (.int z :: .int x :: .ref (G.2.2 18 i) :: rest) := g_iast F (n := 164) (f := I 18 i) hi rfl (vp_in_e ex hj (by decide)) (by simp only [cvv, up3_f]) hd (by rw [cl_e ex hj (by decide)]; exact kk)
theorem ga_19 (F : FX p s m args c cc nL own G A) (hi : i < 1) (ex : x = nI j) (hj : j < 984) (hd : decode cc pc = .ok (.iaload, 1)) (kk : GG p l e R s m args below meth c G A nL ce sl Q I pm L (pc + 1) (.int (I 19 i j) :: rest)) : GG p l e R s m args below meth c G A nL ce sl Q I pm L pc (.int x :: .ref (G.2.2 19 i) :: rest) := g_iald F (n := 984) (f := I 19 i) hi rfl (vp_in_e ex hj (by decide)) hd (by rw [cl_e ex hj (by decide)]; exact kk)
theorem gs_19 (F : FX p s m args c cc nL own G A) (hi : i < 1) (ex : x = nI j) (hj : j < 984) (hd : decode cc pc = .ok (.iastore, 1)) (kk : GG p l e R s m args below meth c G A nL ce sl Q (up3 I 19 i j z) pm L (pc + 1) rest) : GG p l e R s m args below meth c G A nL ce sl Q I pm L pc (.int z :: .int x :: .ref (G.2.2 19 i) :: rest) := g_iast F (n := 984) (f := I 19 i) hi rfl (vp_in_e ex hj (by decide)) (by simp only [cvv, up3_f]) hd (by rw [cl_e ex hj (by decide)]; exact kk)
theorem ga_20 (F : FX p s m args c cc nL own G A) (hi : i < 1) (ex : x = nI j) (hj : j < 328) (hd : decode cc pc = .ok (.iaload, 1)) (kk : GG p l e R s m args below meth c G A nL ce sl Q I pm L (pc + 1) (.int (I 20 i j) :: rest)) : GG p l e R s m args below meth c G A nL ce sl Q I pm L pc (.int x :: .ref (G.2.2 20 i) :: rest) := g_iald F (n := 328) (f := I 20 i) hi rfl (vp_in_e ex hj (by decide)) hd (by rw [cl_e ex hj (by decide)]; exact kk)
theorem gs_20 (F : FX p s m args c cc nL own G A) (hi : i < 1) (ex : x = nI j) (hj : j < 328) (hd : decode cc pc = .ok (.iastore, 1)) (kk : GG p l e R s m args below meth c G A nL ce sl Q (up3 I 20 i j z) pm L (pc + 1) rest) : GG p l e R s m args below meth c G A nL ce sl Q I pm L pc (.int z :: .int x :: .ref (G.2.2 20 i) :: rest) := g_iast F (n := 328) (f := I 20 i) hi rfl (vp_in_e ex hj (by decide)) (by simp only [cvv, up3_f]) hd (by rw [cl_e ex hj (by decide)]; exact kk)
theorem ga_22 (F : FX p s m args c cc nL own G A) (hi : i < 1) (ex : x = nI j) (hj : j < 80) (hd : decode cc pc = .ok (.iaload, 1)) (kk : GG p l e R s m args below meth c G A nL ce sl Q I pm L (pc + 1) (.int (I 22 i j) :: rest)) : GG p l e R s m args below meth c G A nL ce sl Q I pm L pc (.int x :: .ref (G.2.2 22 i) :: rest) := g_iald F (n := 80) (f := I 22 i) hi rfl (vp_in_e ex hj (by decide)) hd (by rw [cl_e ex hj (by decide)]; exact kk)
theorem gs_22 (F : FX p s m args c cc nL own G A) (hi : i < 1) (ex : x = nI j) (hj : j < 80) (hd : decode cc pc = .ok (.iastore, 1)) (kk : GG p l e R s m args below meth c G A nL ce sl Q (up3 I 22 i j z) pm L (pc + 1) rest) : GG p l e R s m args below meth c G A nL ce sl Q I pm L pc (.int z :: .int x :: .ref (G.2.2 22 i) :: rest) := g_iast F (n := 80) (f := I 22 i) hi rfl (vp_in_e ex hj (by decide)) (by simp only [cvv, up3_f]) hd (by rw [cl_e ex hj (by decide)]; exact kk)
theorem ga_23 (F : FX p s m args c cc nL own G A) (hi : i < 1) (ex : x = nI j) (hj : j < 240) (hd : decode cc pc = .ok (.iaload, 1)) (kk : GG p l e R s m args below meth c G A nL ce sl Q I pm L (pc + 1) (.int (I 23 i j) :: rest)) : GG p l e R s m args below meth c G A nL ce sl Q I pm L pc (.int x :: .ref (G.2.2 23 i) :: rest) := g_iald F (n := 240) (f := I 23 i) hi rfl (vp_in_e ex hj (by decide)) hd (by rw [cl_e ex hj (by decide)]; exact kk)
theorem gs_23 (F : FX p s m args c cc nL own G A) (hi : i < 1) (ex : x = nI j) (hj : j < 240) (hd : decode cc pc = .ok (.iastore, 1)) (kk : GG p l e R s m args below meth c G A nL ce sl Q (up3 I 23 i j z) pm L (pc + 1) rest) : GG p l e R s m args below meth c G A nL ce sl Q I pm L pc (.int z :: .int x :: .ref (G.2.2 23 i) :: rest) := g_iast F (n := 240) (f := I 23 i) hi rfl (vp_in_e ex hj (by decide)) (by simp only [cvv, up3_f]) hd (by rw [cl_e ex hj (by decide)]; exact kk)
theorem ga_12 (F : FX p s m args c cc nL own G A) (hi : i < 1) (ex : x = nI j) (hj : j < 2) (hd : decode cc pc = .ok (.baload, 1)) (kk : GG p l e R s m args below meth c G A nL ce sl Q I pm L (pc + 1) (.int (I 12 i j) :: rest)) : GG p l e R s m args below meth c G A nL ce sl Q I pm L pc (.int x :: .ref (G.2.2 12 i) :: rest) := g_zald F (n := 2) (f := I 12 i) hi rfl (vp_in_e ex hj (by decide)) hd (by rw [cl_e ex hj (by decide)]; exact kk)
theorem gs_12 (F : FX p s m args c cc nL own G A) (hi : i < 1) (ex : x = nI j) (hj : j < 2) (hn : narrow .boolean (.int z) = .int z) (hd : decode cc pc = .ok (.bastore, 1)) (kk : GG p l e R s m args below meth c G A nL ce sl Q (up3 I 12 i j z) pm L (pc + 1) rest) : GG p l e R s m args below meth c G A nL ce sl Q I pm L pc (.int z :: .int x :: .ref (G.2.2 12 i) :: rest) := g_zast F (n := 2) (f := I 12 i) hi rfl (vp_in_e ex hj (by decide)) hn (by simp only [cvv, up3_f]) hd (by rw [cl_e ex hj (by decide)]; exact kk)
theorem ga_21 (F : FX p s m args c cc nL own G A) (hi : i < 1) (ex : x = nI j) (hj : j < 2) (hd : decode cc pc = .ok (.baload, 1)) (kk : GG p l e R s m args below meth c G A nL ce sl Q I pm L (pc + 1) (.int (I 21 i j) :: rest)) : GG p l e R s m args below meth c G A nL ce sl Q I pm L pc (.int x :: .ref (G.2.2 21 i) :: rest) := g_zald F (n := 2) (f := I 21 i) hi rfl (vp_in_e ex hj (by decide)) hd (by rw [cl_e ex hj (by decide)]; exact kk)
theorem gs_21 (F : FX p s m args c cc nL own G A) (hi : i < 1) (ex : x = nI j) (hj : j < 2) (hn : narrow .boolean (.int z) = .int z) (hd : decode cc pc = .ok (.bastore, 1)) (kk : GG p l e R s m args below meth c G A nL ce sl Q (up3 I 21 i j z) pm L (pc + 1) rest) : GG p l e R s m args below meth c G A nL ce sl Q I pm L pc (.int z :: .int x :: .ref (G.2.2 21 i) :: rest) := g_zast F (n := 2) (f := I 21 i) hi rfl (vp_in_e ex hj (by decide)) hn (by simp only [cvv, up3_f]) hd (by rw [cl_e ex hj (by decide)]; exact kk)
theorem ga_14 (F : FX p s m args c cc nL own G A) (hi : i < 1) (ex : x = nI j) (hj : j < 80) (hd : decode cc pc = .ok (.caload, 1)) (kk : GG p l e R s m args below meth c G A nL ce sl Q I pm L (pc + 1) (.int (I 14 i j) :: rest)) : GG p l e R s m args below meth c G A nL ce sl Q I pm L pc (.int x :: .ref (G.2.2 14 i) :: rest) := g_cald F (n := 80) (f := I 14 i) hi rfl (vp_in_e ex hj (by decide)) hd (by rw [cl_e ex hj (by decide)]; exact kk)
theorem gs_14 (F : FX p s m args c cc nL own G A) (hi : i < 1) (ex : x = nI j) (hj : j < 80) (hn : narrow .char (.int z) = .int z) (hd : decode cc pc = .ok (.castore, 1)) (kk : GG p l e R s m args below meth c G A nL ce sl Q (up3 I 14 i j z) pm L (pc + 1) rest) : GG p l e R s m args below meth c G A nL ce sl Q I pm L pc (.int z :: .int x :: .ref (G.2.2 14 i) :: rest) := g_cast F (n := 80) (f := I 14 i) hi rfl (vp_in_e ex hj (by decide)) hn (by simp only [cvv, up3_f]) hd (by rw [cl_e ex hj (by decide)]; exact kk)
theorem ga_1 (F : FX p s m args c cc nL own G A) (hi : i < 11) (ex : x = nI j) (hj : j < 8) (hd : decode cc pc = .ok (.aaload, 1)) (kk : GG p l e R s m args below meth c G A nL ce sl Q I pm L (pc + 1) (.ref (G.2.2 7 (8 * i + pm i j)) :: rest)) : GG p l e R s m args below meth c G A nL ce sl Q I pm L pc (.int x :: .ref (G.2.2 1 i) :: rest) := g_aald F (n := 8) (t0 := 4) hi rfl rfl (vp_in_e ex hj (by decide)) (by rw [cl_e ex hj (by decide)]) hd kk
theorem ga_10 (F : FX p s m args c cc nL own G A) (ex : x = nI j) (hj : j < 7) (hd : decode cc pc = .ok (.aaload, 1)) (kk : GG p l e R s m args below meth c G A nL ce sl Q I pm L (pc + 1) (.ref (G.2.2 0 (4 + j)) :: rest)) : GG p l e R s m args below meth c G A nL ce sl Q I pm L pc (.int x :: .ref (G.2.2 10 0) :: rest) := g_aald F (n := 7) (t0 := 3) (by decide) rfl rfl (vp_in_e ex hj (by decide)) (by rw [cl_e ex hj (by decide)]) hd kk
theorem ga_11 (F : FX p s m args c cc nL own G A) (ex : x = nI j) (hj : j < 2) (hd : decode cc pc = .ok (.aaload, 1)) (kk : GG p l e R s m args below meth c G A nL ce sl Q I pm L (pc + 1) (.ref (G.2.2 0 (2 + j)) :: rest)) : GG p l e R s m args below meth c G A nL ce sl Q I pm L pc (.int x :: .ref (G.2.2 11 0) :: rest) := g_aald F (n := 2) (t0 := 3) (by decide) rfl rfl (vp_in_e ex hj (by decide)) (by rw [cl_e ex hj (by decide)]) hd kk
theorem gs_1 (F : FX p s m args c cc nL own G A) {v : Nat} (hi : i < 11) (hv : v < 8) (ex : x = nI j) (hj : j < 8) (hd : decode cc pc = .ok (.aastore, 1)) (kk : GG p l e R s m args below meth c G A nL ce sl Q I (upP pm i j v) L (pc + 1) rest) : GG p l e R s m args below meth c G A nL ce sl Q I pm L pc (.ref (G.2.2 7 (8 * i + v)) :: .int x :: .ref (G.2.2 1 i) :: rest) := g_aast F hi hv (vp_in_e ex hj (by decide)) hd (by rw [cl_e ex hj (by decide)]; exact kk)
end FIELDS
end
