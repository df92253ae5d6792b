-- ===== PART A: goes FIRST, ahead of the names: the tables' words, and 'selects' of the private methods out of them =====
/-- a private method of a class that the tables say can be made, by its rows of tables_1 -/
def lw_okq (q : MethodName × Nat) : Prop := (q.1.cls ≠ "java/lang/invoke/MethodHandle" ∧ q.1.cls ≠ "java/lang/invoke/VarHandle") ∧ Cond.instantiable q.1.cls q.2 ∈ tables_1 ∧ Cond.privateMethod q.1 ∈ tables_1 ∧ Cond.instanceMethod q.1 ∈ tables_1
theorem lw_p0 : lw_okq (⟨"LocoFrames$Layout", "rankOf", "(I)I"⟩, 10) := ⟨⟨by decide +kernel, by decide +kernel⟩, List.mem_of_getElem? (i := 18) (by decide +kernel), List.mem_of_getElem? (i := 291) (by decide +kernel), List.mem_of_getElem? (i := 292) (by decide +kernel)⟩
theorem lw_p1 : lw_okq (⟨"LocoFrames$Station", "setRow", "(IIII)V"⟩, 4) := ⟨⟨by decide +kernel, by decide +kernel⟩, List.mem_of_getElem? (i := 26) (by decide +kernel), List.mem_of_getElem? (i := 364) (by decide +kernel), List.mem_of_getElem? (i := 365) (by decide +kernel)⟩
theorem lw_p2 : lw_okq (⟨"LocoFrames$Layout", "isShorted", "(I)Z"⟩, 10) := ⟨⟨by decide +kernel, by decide +kernel⟩, List.mem_of_getElem? (i := 18) (by decide +kernel), List.mem_of_getElem? (i := 376) (by decide +kernel), List.mem_of_getElem? (i := 377) (by decide +kernel)⟩
theorem lw_p3 : lw_okq (⟨"LocoFrames$Layout", "sendFirst", "()I"⟩, 10) := ⟨⟨by decide +kernel, by decide +kernel⟩, List.mem_of_getElem? (i := 18) (by decide +kernel), List.mem_of_getElem? (i := 406) (by decide +kernel), List.mem_of_getElem? (i := 407) (by decide +kernel)⟩
def lw_privs_1 : List (MethodName × Nat) := [(⟨"LocoFrames$Layout", "rankOf", "(I)I"⟩, 10), (⟨"LocoFrames$Station", "setRow", "(IIII)V"⟩, 4), (⟨"LocoFrames$Layout", "isShorted", "(I)Z"⟩, 10), (⟨"LocoFrames$Layout", "sendFirst", "()I"⟩, 10)]
theorem lw_r1 : ∀ q ∈ lw_privs_1, lw_okq q := List.forall_mem_cons.mpr ⟨lw_p0, List.forall_mem_cons.mpr ⟨lw_p1, List.forall_mem_cons.mpr ⟨lw_p2, List.forall_mem_cons.mpr ⟨lw_p3, fun _ h => absurd h List.not_mem_nil⟩⟩⟩⟩
def lw_privs : List (MethodName × Nat) := lw_privs_1
def lw_tbl : List Cond := k2_sels lw_privs ++ tables_1
theorem lw_privs_ok : ∀ q ∈ lw_privs, lw_okq q := lw_r1
/-! ===== BEGIN words of one list among another's, by their places ===== -/
theorem goodIn_r {big : List Cond} (ws : List Cond) (ps : List Nat) (hp : ws = ps.filterMap (fun i => big[i]?)) (h : ws.all goodWord = true) : GoodIn big ws := by
  intro w hw
  have h1 := List.all_eq_true.mp h w hw
  rw [hp] at hw
  obtain ⟨i, -, hi⟩ := List.mem_filterMap.mp hw
  have hm : w ∈ big := by first | exact List.mem_of_getElem? hi | exact List.getElem?_mem hi
  exact ⟨hm, good_of_word h1⟩
theorem goodIn_app {big a b : List Cond} (ha : GoodIn big a) (hb : GoodIn big b) : GoodIn big (a ++ b) := fun w h => (List.mem_append.mp h).elim (ha w) (hb w)
theorem goodIn_ca {big a b : List Cond} {c : Cond} (ha : GoodIn big (c :: a)) (hb : GoodIn big b) : GoodIn big (c :: (a ++ b)) := fun w h => (List.mem_cons.mp h).elim (fun e => ha w (List.mem_cons.mpr (Or.inl e))) (fun h => (List.mem_append.mp h).elim (fun h => ha w (List.mem_cons.mpr (Or.inr h))) (hb w))
theorem goodIn_sub {big ws : List Cond} (hm : ∀ w ∈ ws, w ∈ big) (h : ws.all goodWord = true) : GoodIn big ws := fun w hw => ⟨hm w hw, good_of_word (List.all_eq_true.mp h w hw)⟩
/-! ===== END ===== -/
/-! ===== BEGIN printed: names, fields, word lists, decode rows ===== -/
def RX0 : String := "LocoFrames$History"
def TX0 : u_T := fun k => match k with
  | 0 => ("LocoFrames$History", "states", "[LLocoFrames$Layout;", true)
  | 1 => ("LocoFrames$History", "first", "I", false)
  | _ => ("LocoFrames$History", "held", "I", false)
def tyX0 : Nat → FieldType := fun k => match k with
  | 0 => .array (.object "LocoFrames$Layout")
  | 1 => .int
  | _ => .int
abbrev wsX00 : List Cond := u_ws RX0 TX0 3
theorem nmX0 : ∀ a, a < 3 → ∀ b, b < 3 → a ≠ b → (TX0 a).2.1 ≠ (TX0 b).2.1 := by decide +kernel
theorem tyX0_ok : ∀ k, k < 3 → parseFieldDescriptor (TX0 k).2.2.1 = some (tyX0 k) := by decide +kernel
abbrev cX0_init : ByteArray := prog_2_method_1_code
def yX0_init : MethodName := ⟨RX0, "<init>", "()V"⟩
abbrev cX0_draft : ByteArray := prog_2_method_2_code
def yX0_draft : MethodName := ⟨RX0, "draft", "(LLocoFrames$Layout;)V"⟩
abbrev cX0_kept : ByteArray := prog_2_method_3_code
def yX0_kept : MethodName := ⟨RX0, "kept", "(I)I"⟩
abbrev cX0_takeBack : ByteArray := prog_2_method_4_code
def yX0_takeBack : MethodName := ⟨RX0, "takeBack", "(LLocoFrames$Layout;)I"⟩
def RX1 : String := "LocoFrames$Layout"
def TX1 : u_T := fun k => match k with
  | 0 => ("LocoFrames$Layout", "locos", "[LLocoFrames$Loco;", true)
  | 1 => ("LocoFrames$Layout", "station", "LLocoFrames$Station;", true)
  | 2 => ("LocoFrames$Layout", "shortTicks", "[I", true)
  | 3 => ("LocoFrames$Layout", "locoCount", "I", false)
  | 4 => ("LocoFrames$Layout", "ticks", "I", false)
  | 5 => ("LocoFrames$Layout", "noiseTicks", "I", false)
  | 6 => ("LocoFrames$Layout", "spoiledAt", "I", false)
  | 7 => ("LocoFrames$Layout", "frames", "I", false)
  | 8 => ("LocoFrames$Layout", "broken", "I", false)
  | _ => ("LocoFrames$Layout", "spoiled", "I", false)
def tyX1 : Nat → FieldType := fun k => match k with
  | 0 => .array (.object "LocoFrames$Loco")
  | 1 => .object "LocoFrames$Station"
  | 2 => .array .int
  | 3 => .int
  | 4 => .int
  | 5 => .int
  | 6 => .int
  | 7 => .int
  | 8 => .int
  | _ => .int
abbrev wsX10 : List Cond := u_ws RX1 TX1 10
theorem nmX1 : ∀ a, a < 10 → ∀ b, b < 10 → a ≠ b → (TX1 a).2.1 ≠ (TX1 b).2.1 := by decide +kernel
theorem tyX1_ok : ∀ k, k < 10 → parseFieldDescriptor (TX1 k).2.2.1 = some (tyX1 k) := by decide +kernel
abbrev cX1_init : ByteArray := prog_3_method_1_code
def yX1_init : MethodName := ⟨RX1, "<init>", "()V"⟩
abbrev cX1_copyFrom : ByteArray := prog_3_method_2_code
def yX1_copyFrom : MethodName := ⟨RX1, "copyFrom", "(LLocoFrames$Layout;)V"⟩
abbrev cX1_locoAt : ByteArray := prog_3_method_3_code
def yX1_locoAt : MethodName := ⟨RX1, "locoAt", "(I)LLocoFrames$Loco;"⟩
abbrev cX1_locoWith : ByteArray := prog_3_method_4_code
def yX1_locoWith : MethodName := ⟨RX1, "locoWith", "(I)LLocoFrames$Loco;"⟩
abbrev cX1_rankOf : ByteArray := prog_3_method_5_code
def yX1_rankOf : MethodName := ⟨RX1, "rankOf", "(I)I"⟩
abbrev cX1_addLoco : ByteArray := prog_3_method_6_code
def yX1_addLoco : MethodName := ⟨RX1, "addLoco", "(IIII)I"⟩
abbrev cX1_removeLoco : ByteArray := prog_3_method_7_code
def yX1_removeLoco : MethodName := ⟨RX1, "removeLoco", "(I)I"⟩
abbrev cX1_changeNoise : ByteArray := prog_3_method_8_code
def yX1_changeNoise : MethodName := ⟨RX1, "changeNoise", "(I)I"⟩
abbrev cX1_changeShort : ByteArray := prog_3_method_9_code
def yX1_changeShort : MethodName := ⟨RX1, "changeShort", "(II)I"⟩
abbrev cX1_takeFrame : ByteArray := prog_3_method_10_code
def yX1_takeFrame : MethodName := ⟨RX1, "takeFrame", "(III)I"⟩
abbrev cX1_takeTicks : ByteArray := prog_3_method_11_code
def yX1_takeTicks : MethodName := ⟨RX1, "takeTicks", "(I)I"⟩
abbrev cX1_tick : ByteArray := prog_3_method_12_code
def yX1_tick : MethodName := ⟨RX1, "tick", "()I"⟩
abbrev cX1_sendFirst : ByteArray := prog_3_method_13_code
def yX1_sendFirst : MethodName := ⟨RX1, "sendFirst", "()I"⟩
abbrev cX1_isShorted : ByteArray := prog_3_method_14_code
def yX1_isShorted : MethodName := ⟨RX1, "isShorted", "(I)Z"⟩
abbrev cX1_locosIn : ByteArray := prog_3_method_15_code
def yX1_locosIn : MethodName := ⟨RX1, "locosIn", "(I)I"⟩
abbrev cX1_blocksWithShort : ByteArray := prog_3_method_16_code
def yX1_blocksWithShort : MethodName := ⟨RX1, "blocksWithShort", "()I"⟩
abbrev cX1_crowdedBlocks : ByteArray := prog_3_method_17_code
def yX1_crowdedBlocks : MethodName := ⟨RX1, "crowdedBlocks", "()I"⟩
abbrev cX1_speedSum : ByteArray := prog_3_method_18_code
def yX1_speedSum : MethodName := ⟨RX1, "speedSum", "()I"⟩
def RX2 : String := "LocoFrames$Loco"
def TX2 : u_T := fun k => match k with
  | 0 => ("LocoFrames$Loco", "address", "I", false)
  | 1 => ("LocoFrames$Loco", "mass", "I", false)
  | 2 => ("LocoFrames$Loco", "curve", "I", false)
  | 3 => ("LocoFrames$Loco", "place", "I", false)
  | 4 => ("LocoFrames$Loco", "tenths", "I", false)
  | 5 => ("LocoFrames$Loco", "speed", "I", false)
  | 6 => ("LocoFrames$Loco", "rounds", "I", false)
  | 7 => ("LocoFrames$Loco", "step", "I", false)
  | 8 => ("LocoFrames$Loco", "way", "I", false)
  | 9 => ("LocoFrames$Loco", "lights", "I", false)
  | _ => ("LocoFrames$Loco", "heard", "I", false)
def tyX2 : Nat → FieldType := fun k => match k with
  | 0 => .int
  | 1 => .int
  | 2 => .int
  | 3 => .int
  | 4 => .int
  | 5 => .int
  | 6 => .int
  | 7 => .int
  | 8 => .int
  | 9 => .int
  | _ => .int
abbrev wsX20 : List Cond := u_ws RX2 TX2 11
theorem nmX2 : ∀ a, a < 11 → ∀ b, b < 11 → a ≠ b → (TX2 a).2.1 ≠ (TX2 b).2.1 := by decide +kernel
theorem tyX2_ok : ∀ k, k < 11 → parseFieldDescriptor (TX2 k).2.2.1 = some (tyX2 k) := by decide +kernel
abbrev cX2_init : ByteArray := prog_4_method_1_code
def yX2_init : MethodName := ⟨RX2, "<init>", "()V"⟩
abbrev cX2_begin : ByteArray := prog_4_method_2_code
def yX2_begin : MethodName := ⟨RX2, "begin", "(IIII)V"⟩
abbrev cX2_copyFrom : ByteArray := prog_4_method_3_code
def yX2_copyFrom : MethodName := ⟨RX2, "copyFrom", "(LLocoFrames$Loco;)V"⟩
abbrev cX2_blockNumber : ByteArray := prog_4_method_4_code
def yX2_blockNumber : MethodName := ⟨RX2, "blockNumber", "()I"⟩
abbrev cX2_goal : ByteArray := prog_4_method_5_code
def yX2_goal : MethodName := ⟨RX2, "goal", "()I"⟩
abbrev cX2_mostGain : ByteArray := prog_4_method_6_code
def yX2_mostGain : MethodName := ⟨RX2, "mostGain", "()I"⟩
abbrev cX2_ticksToGoal : ByteArray := prog_4_method_7_code
def yX2_ticksToGoal : MethodName := ⟨RX2, "ticksToGoal", "()I"⟩
abbrev cX2_changeSpeed : ByteArray := prog_4_method_8_code
def yX2_changeSpeed : MethodName := ⟨RX2, "changeSpeed", "()V"⟩
abbrev cX2_roll : ByteArray := prog_4_method_9_code
def yX2_roll : MethodName := ⟨RX2, "roll", "()V"⟩
abbrev cX2_hear : ByteArray := prog_4_method_10_code
def yX2_hear : MethodName := ⟨RX2, "hear", "(I)V"⟩
abbrev cX2_told : ByteArray := prog_4_method_11_code
def yX2_told : MethodName := ⟨RX2, "told", "(I)I"⟩
def RX3 : String := "LocoFrames$Pad"
def TX3 : u_T := fun k => match k with
  | 0 => ("LocoFrames$Pad", "text", "[C", true)
  | 1 => ("LocoFrames$Pad", "length", "I", false)
  | 2 => ("LocoFrames$Pad", "at", "I", false)
  | 3 => ("LocoFrames$Pad", "kind", "I", false)
  | 4 => ("LocoFrames$Pad", "numbers", "[I", true)
  | _ => ("LocoFrames$Pad", "numbersRead", "I", false)
def tyX3 : Nat → FieldType := fun k => match k with
  | 0 => .array .char
  | 1 => .int
  | 2 => .int
  | 3 => .int
  | 4 => .array .int
  | _ => .int
abbrev wsX30 : List Cond := u_ws RX3 TX3 6
theorem nmX3 : ∀ a, a < 6 → ∀ b, b < 6 → a ≠ b → (TX3 a).2.1 ≠ (TX3 b).2.1 := by decide +kernel
theorem tyX3_ok : ∀ k, k < 6 → parseFieldDescriptor (TX3 k).2.2.1 = some (tyX3 k) := by decide +kernel
abbrev cX3_init : ByteArray := prog_5_method_1_code
def yX3_init : MethodName := ⟨RX3, "<init>", "()V"⟩
def RX4 : String := "LocoFrames$Station"
def TX4 : u_T := fun k => match k with
  | 0 => ("LocoFrames$Station", "addresses", "[I", true)
  | 1 => ("LocoFrames$Station", "data", "[I", true)
  | 2 => ("LocoFrames$Station", "urgencies", "[I", true)
  | _ => ("LocoFrames$Station", "held", "I", false)
def tyX4 : Nat → FieldType := fun k => match k with
  | 0 => .array .int
  | 1 => .array .int
  | 2 => .array .int
  | _ => .int
abbrev wsX40 : List Cond := u_ws RX4 TX4 4
theorem nmX4 : ∀ a, a < 4 → ∀ b, b < 4 → a ≠ b → (TX4 a).2.1 ≠ (TX4 b).2.1 := by decide +kernel
theorem tyX4_ok : ∀ k, k < 4 → parseFieldDescriptor (TX4 k).2.2.1 = some (tyX4 k) := by decide +kernel
abbrev cX4_init : ByteArray := prog_6_method_1_code
def yX4_init : MethodName := ⟨RX4, "<init>", "()V"⟩
abbrev cX4_copyFrom : ByteArray := prog_6_method_2_code
def yX4_copyFrom : MethodName := ⟨RX4, "copyFrom", "(LLocoFrames$Station;)V"⟩
abbrev cX4_take : ByteArray := prog_6_method_3_code
def yX4_take : MethodName := ⟨RX4, "take", "(III)I"⟩
abbrev cX4_setRow : ByteArray := prog_6_method_4_code
def yX4_setRow : MethodName := ⟨RX4, "setRow", "(IIII)V"⟩
abbrev cX4_dropFirst : ByteArray := prog_6_method_5_code
def yX4_dropFirst : MethodName := ⟨RX4, "dropFirst", "()V"⟩
abbrev cX4_told : ByteArray := prog_6_method_6_code
def yX4_told : MethodName := ⟨RX4, "told", "(II)I"⟩
def RX5 : String := "LocoFrames"
def TX5 : u_T := fun k => match k with
  | 0 => ("LocoFrames", "now", "LLocoFrames$Layout;", true)
  | 1 => ("LocoFrames", "foreseen", "LLocoFrames$Layout;", true)
  | 2 => ("LocoFrames", "history", "LLocoFrames$History;", true)
  | 3 => ("LocoFrames", "slots", "[LLocoFrames$Layout;", true)
  | 4 => ("LocoFrames", "saved", "[Z", true)
  | _ => ("LocoFrames", "pad", "LLocoFrames$Pad;", true)
def tyX5 : Nat → FieldType := fun k => match k with
  | 0 => .object "LocoFrames$Layout"
  | 1 => .object "LocoFrames$Layout"
  | 2 => .object "LocoFrames$History"
  | 3 => .array (.object "LocoFrames$Layout")
  | 4 => .array .boolean
  | _ => .object "LocoFrames$Pad"
abbrev wsX50 : List Cond := u_ws RX5 TX5 6
theorem nmX5 : ∀ a, a < 6 → ∀ b, b < 6 → a ≠ b → (TX5 a).2.1 ≠ (TX5 b).2.1 := by decide +kernel
theorem tyX5_ok : ∀ k, k < 6 → parseFieldDescriptor (TX5 k).2.2.1 = some (tyX5 k) := by decide +kernel
abbrev cX5_init : ByteArray := prog_1_method_1_code
def yX5_init : MethodName := ⟨RX5, "<init>", "()V"⟩
abbrev cX5_loco : ByteArray := prog_1_method_2_code
def yX5_loco : MethodName := ⟨RX5, "loco", "(IIII)I"⟩
abbrev cX5_lift : ByteArray := prog_1_method_3_code
def yX5_lift : MethodName := ⟨RX5, "lift", "(I)I"⟩
abbrev cX5_noise : ByteArray := prog_1_method_4_code
def yX5_noise : MethodName := ⟨RX5, "noise", "(I)I"⟩
abbrev cX5_order : ByteArray := prog_1_method_5_code
def yX5_order : MethodName := ⟨RX5, "order", "(III)I"⟩
abbrev cX5_frame : ByteArray := prog_1_method_6_code
def yX5_frame : MethodName := ⟨RX5, "frame", "(III)I"⟩
abbrev cX5_shorts : ByteArray := prog_1_method_7_code
def yX5_shorts : MethodName := ⟨RX5, "shorts", "(II)I"⟩
abbrev cX5_pass : ByteArray := prog_1_method_8_code
def yX5_pass : MethodName := ⟨RX5, "pass", "(I)I"⟩
abbrev cX5_of : ByteArray := prog_1_method_9_code
def yX5_of : MethodName := ⟨RX5, "of", "(II)I"⟩
abbrev cX5_address : ByteArray := prog_1_method_10_code
def yX5_address : MethodName := ⟨RX5, "address", "(I)I"⟩
abbrev cX5_waiting : ByteArray := prog_1_method_11_code
def yX5_waiting : MethodName := ⟨RX5, "waiting", "(II)I"⟩
abbrev cX5_block : ByteArray := prog_1_method_12_code
def yX5_block : MethodName := ⟨RX5, "block", "(II)I"⟩
abbrev cX5_count : ByteArray := prog_1_method_13_code
def yX5_count : MethodName := ⟨RX5, "count", "(I)I"⟩
abbrev cX5_reaches : ByteArray := prog_1_method_14_code
def yX5_reaches : MethodName := ⟨RX5, "reaches", "(II)I"⟩
abbrev cX5_settles : ByteArray := prog_1_method_15_code
def yX5_settles : MethodName := ⟨RX5, "settles", "(I)I"⟩
abbrev cX5_undo : ByteArray := prog_1_method_22_code
def yX5_undo : MethodName := ⟨RX5, "undo", "()I"⟩
abbrev cX5_save : ByteArray := prog_1_method_23_code
def yX5_save : MethodName := ⟨RX5, "save", "(I)I"⟩
abbrev cX5_restore : ByteArray := prog_1_method_24_code
def yX5_restore : MethodName := ⟨RX5, "restore", "(I)I"⟩
abbrev cX5_within : ByteArray := prog_1_method_26_code
def yX5_within : MethodName := ⟨RX5, "within", "(III)Z"⟩
abbrev cX5_isBlock : ByteArray := prog_1_method_27_code
def yX5_isBlock : MethodName := ⟨RX5, "isBlock", "(I)Z"⟩
abbrev cX5_curveSpeed : ByteArray := prog_1_method_28_code
def yX5_curveSpeed : MethodName := ⟨RX5, "curveSpeed", "(II)I"⟩
def RX6 : String := "LocoFramesModel"
def TX6 : u_T := fun k => match k with
  | _ => ("", "", "", false)
def tyX6 : Nat → FieldType := fun k => match k with
  | _ => .int
abbrev wsX60 : List Cond := u_ws RX6 TX6 0
theorem nmX6 : ∀ a, a < 0 → ∀ b, b < 0 → a ≠ b → (TX6 a).2.1 ≠ (TX6 b).2.1 := by decide +kernel
theorem tyX6_ok : ∀ k, k < 0 → parseFieldDescriptor (TX6 k).2.2.1 = some (tyX6 k) := by decide +kernel
def RJ9 : String := "java/lang/Math"
def TJ9 : u_T := fun k => match k with
  | _ => ("", "", "", false)
def tyJ9 : Nat → FieldType := fun k => match k with
  | _ => .int
abbrev wsJ90 : List Cond := u_ws RJ9 TJ9 0
theorem nmJ9 : ∀ a, a < 0 → ∀ b, b < 0 → a ≠ b → (TJ9 a).2.1 ≠ (TJ9 b).2.1 := by decide +kernel
theorem tyJ9_ok : ∀ k, k < 0 → parseFieldDescriptor (TJ9 k).2.2.1 = some (tyJ9 k) := by decide +kernel
abbrev cJ9_floorDiv_7cf53 : ByteArray := prog_9_method_47_code
def yJ9_floorDiv_7cf53 : MethodName := ⟨RJ9, "floorDiv", "(II)I"⟩
abbrev cJ9_floorMod_7cf53 : ByteArray := prog_9_method_50_code
def yJ9_floorMod_7cf53 : MethodName := ⟨RJ9, "floorMod", "(II)I"⟩
abbrev cJ9_abs_0f7a4 : ByteArray := prog_9_method_59_code
def yJ9_abs_0f7a4 : MethodName := ⟨RJ9, "abs", "(I)I"⟩
abbrev cJ9_max_7cf53 : ByteArray := prog_9_method_65_code
def yJ9_max_7cf53 : MethodName := ⟨RJ9, "max", "(II)I"⟩
abbrev cJ9_min_7cf53 : ByteArray := prog_9_method_69_code
def yJ9_min_7cf53 : MethodName := ⟨RJ9, "min", "(II)I"⟩
def RJ10 : String := "java/lang/System"
def TJ10 : u_T := fun k => match k with
  | _ => ("", "", "", false)
def tyJ10 : Nat → FieldType := fun k => match k with
  | _ => .int
abbrev wsJ100 : List Cond := u_ws RJ10 TJ10 0
theorem nmJ10 : ∀ a, a < 0 → ∀ b, b < 0 → a ≠ b → (TJ10 a).2.1 ≠ (TJ10 b).2.1 := by decide +kernel
theorem tyJ10_ok : ∀ k, k < 0 → parseFieldDescriptor (TJ10 k).2.2.1 = some (tyJ10 k) := by decide +kernel
def RL : String := "LocoFramesLaw"
abbrev cL_cell : ByteArray := method_2_code
def yL_cell : MethodName := ⟨RL, "cell", "([II)I"⟩
abbrev cL_low : ByteArray := method_3_code
def yL_low : MethodName := ⟨RL, "low", "(II)I"⟩
abbrev cL_told : ByteArray := method_4_code
def yL_told : MethodName := ⟨RL, "told", "(LLocoFrames;)J"⟩
abbrev cL_act : ByteArray := method_5_code
def yL_act : MethodName := ⟨RL, "act", "(LLocoFrames;II)I"⟩
abbrev cL_holds : ByteArray := method_6_code
def yL_holds : MethodName := ⟨RL, "holds", "(LLocoFrames;)Z"⟩
abbrev cL_goesBySpeed : ByteArray := method_7_code
def yL_goesBySpeed : MethodName := ⟨RL, "goesBySpeed", "(LLocoFrames;I)Z"⟩
abbrev cL_law : ByteArray := code
def yL_law : MethodName := ⟨RL, "law", "([I)Z"⟩
def wsL_cell : List Cond := .code yL_cell cL_cell 2 (some .int) :: ([])
def wsL_low : List Cond := .code yL_low cL_low 2 (some .int) :: ([.constant RL 7 (2147483647)])
def wsL_told_r1 : List Cond := [Cond.constantLong RL 8 (3), Cond.constantLong RL 10 (31), Cond.methodLink RL 12 yX5_count, Cond.instanceMethod yX5_count, Cond.selects RX5 yX5_count yX5_count, Cond.initialized RX5, Cond.code yX5_count cX5_count 2 (some .int), Cond.fieldLink RX5 12 "LocoFrames" "now" "LLocoFrames$Layout;", Cond.fieldLink RX5 108 "LocoFrames$Layout" "ticks" "I", Cond.fieldLink RX5 111 "LocoFrames$Layout" "locoCount" "I", Cond.fieldLink RX5 59 "LocoFrames$Layout" "station" "LLocoFrames$Station;", Cond.fieldLink RX5 114 "LocoFrames$Station" "held" "I", Cond.fieldLink RX5 117 "LocoFrames$Layout" "noiseTicks" "I", Cond.fieldLink RX5 120 "LocoFrames$Layout" "frames" "I", Cond.fieldLink RX5 123 "LocoFrames$Layout" "broken" "I", Cond.fieldLink RX5 126 "LocoFrames$Layout" "spoiled" "I", Cond.fieldLink RX5 37 "LocoFrames" "pad" "LLocoFrames$Pad;", Cond.fieldLink RX5 139 "LocoFrames$Pad" "length" "I", Cond.fieldLink RX5 22 "LocoFrames" "history" "LLocoFrames$History;", Cond.fieldLink RX5 142 "LocoFrames$History" "held" "I", Cond.methodLink RX5 129 yX1_blocksWithShort, Cond.instanceMethod yX1_blocksWithShort, Cond.selects RX1 yX1_blocksWithShort yX1_blocksWithShort, Cond.initialized RX1]
def wsL_told_r2 : List Cond := [Cond.code yX1_blocksWithShort cX1_blocksWithShort 3 (some .int), Cond.fieldLink RX1 24 "LocoFrames$Layout" "shortTicks" "[I", Cond.methodLink RX5 133 yX1_crowdedBlocks, Cond.instanceMethod yX1_crowdedBlocks, Cond.selects RX1 yX1_crowdedBlocks yX1_crowdedBlocks, Cond.code yX1_crowdedBlocks cX1_crowdedBlocks 3 (some .int), Cond.methodLink RX1 136 yX1_locosIn, Cond.instanceMethod yX1_locosIn, Cond.selects RX1 yX1_locosIn yX1_locosIn, Cond.code yX1_locosIn cX1_locosIn 4 (some .int), Cond.fieldLink RX1 29 "LocoFrames$Layout" "locoCount" "I", Cond.fieldLink RX1 11 "LocoFrames$Layout" "locos" "[LLocoFrames$Loco;", Cond.methodLink RX1 87 yX2_blockNumber, Cond.instanceMethod yX2_blockNumber, Cond.selects RX2 yX2_blockNumber yX2_blockNumber, Cond.initialized RX2, Cond.code yX2_blockNumber cX2_blockNumber 1 (some .int), Cond.fieldLink RX2 21 "LocoFrames$Loco" "place" "I", Cond.methodLink RX5 136 yX1_speedSum, Cond.instanceMethod yX1_speedSum, Cond.selects RX1 yX1_speedSum yX1_speedSum, Cond.code yX1_speedSum cX1_speedSum 3 (some .int), Cond.fieldLink RX1 105 "LocoFrames$Loco" "speed" "I", Cond.methodLink RL 18 yX5_address]
def wsL_told_r3 : List Cond := [Cond.instanceMethod yX5_address, Cond.selects RX5 yX5_address yX5_address, Cond.code yX5_address cX5_address 3 (some .int), Cond.fieldLink RX5 91 "LocoFrames$Loco" "address" "I", Cond.methodLink RX5 88 yX1_locoAt, Cond.instanceMethod yX1_locoAt, Cond.selects RX1 yX1_locoAt yX1_locoAt, Cond.code yX1_locoAt cX1_locoAt 2 (some (.object "LocoFrames$Loco")), Cond.static yX5_within, Cond.code yX5_within cX5_within 3 (some .boolean), Cond.methodLink RL 21 yX5_of, Cond.instanceMethod yX5_of, Cond.selects RX5 yX5_of yX5_of, Cond.code yX5_of cX5_of 4 (some .int), Cond.methodLink RX5 79 yX1_locoWith, Cond.instanceMethod yX1_locoWith, Cond.selects RX1 yX1_locoWith yX1_locoWith, Cond.code yX1_locoWith cX1_locoWith 2 (some (.object "LocoFrames$Loco")), Cond.methodLink RX1 68 yX1_rankOf, Cond.instanceMethod yX1_rankOf, Cond.selects RX1 yX1_rankOf yX1_rankOf, Cond.code yX1_rankOf cX1_rankOf 3 (some .int), Cond.fieldLink RX1 76 "LocoFrames$Loco" "address" "I", Cond.methodLink RX1 72 yX1_locoAt]
def wsL_told_r4 : List Cond := [Cond.methodLink RX5 83 yX2_told, Cond.instanceMethod yX2_told, Cond.selects RX2 yX2_told yX2_told, Cond.code yX2_told cX2_told 2 (some .int), Cond.fieldLink RX2 15 "LocoFrames$Loco" "mass" "I", Cond.fieldLink RX2 18 "LocoFrames$Loco" "curve" "I", Cond.fieldLink RX2 24 "LocoFrames$Loco" "tenths" "I", Cond.fieldLink RX2 27 "LocoFrames$Loco" "speed" "I", Cond.fieldLink RX2 33 "LocoFrames$Loco" "step" "I", Cond.fieldLink RX2 36 "LocoFrames$Loco" "way" "I", Cond.fieldLink RX2 39 "LocoFrames$Loco" "lights" "I", Cond.fieldLink RX2 42 "LocoFrames$Loco" "heard" "I", Cond.fieldLink RX2 30 "LocoFrames$Loco" "rounds" "I", Cond.methodLink RX2 53 yX2_goal, Cond.instanceMethod yX2_goal, Cond.selects RX2 yX2_goal yX2_goal, Cond.code yX2_goal cX2_goal 2 (some .int), Cond.static yX5_curveSpeed, Cond.code yX5_curveSpeed cX5_curveSpeed 3 (some .int), Cond.methodLink RX2 74 yX2_blockNumber, Cond.methodLink RL 25 yX5_waiting, Cond.instanceMethod yX5_waiting, Cond.selects RX5 yX5_waiting yX5_waiting, Cond.code yX5_waiting cX5_waiting 3 (some .int)]
def wsL_told_r5 : List Cond := [Cond.methodLink RX5 95 yX4_told, Cond.instanceMethod yX4_told, Cond.selects RX4 yX4_told yX4_told, Cond.initialized RX4, Cond.code yX4_told cX4_told 3 (some .int), Cond.fieldLink RX4 27 "LocoFrames$Station" "held" "I", Cond.fieldLink RX4 9 "LocoFrames$Station" "addresses" "[I", Cond.fieldLink RX4 15 "LocoFrames$Station" "data" "[I", Cond.fieldLink RX4 18 "LocoFrames$Station" "urgencies" "[I", Cond.methodLink RL 28 yX5_block, Cond.instanceMethod yX5_block, Cond.selects RX5 yX5_block yX5_block, Cond.code yX5_block cX5_block 3 (some .int), Cond.fieldLink RX5 101 "LocoFrames$Layout" "shortTicks" "[I", Cond.methodLink RX5 97 yX5_isBlock, Cond.static yX5_isBlock, Cond.code yX5_isBlock cX5_isBlock 1 (some .boolean), Cond.methodLink RX5 155 yX5_within, Cond.methodLink RX5 105 yX1_locosIn]
def wsL_told : List Cond := .code yL_told cL_told 6 (some .long) :: ((wsL_told_r1 ++ (wsL_told_r2 ++ (wsL_told_r3 ++ (wsL_told_r4 ++ wsL_told_r5)))) ++ wsX50 ++ wsX10 ++ wsX40 ++ wsX30 ++ wsX00 ++ wsX20)
def wsL_act_r1 : List Cond := [Cond.methodLink RL 31 yL_low, Cond.static yL_low, Cond.initialized RL, Cond.code yL_low cL_low 2 (some .int), Cond.constant RL 7 (2147483647), Cond.methodLink RL 36 yX5_loco, Cond.instanceMethod yX5_loco, Cond.selects RX5 yX5_loco yX5_loco, Cond.initialized RX5, Cond.code yX5_loco cX5_loco 5 (some .int), Cond.fieldLink RX5 22 "LocoFrames" "history" "LLocoFrames$History;", Cond.fieldLink RX5 12 "LocoFrames" "now" "LLocoFrames$Layout;", Cond.methodLink RX5 41 yX0_draft, Cond.instanceMethod yX0_draft, Cond.selects RX0 yX0_draft yX0_draft, Cond.initialized RX0, Cond.code yX0_draft cX0_draft 2 none, Cond.fieldLink RX0 11 "LocoFrames$History" "states" "[LLocoFrames$Layout;", Cond.fieldLink RX0 18 "LocoFrames$History" "first" "I", Cond.fieldLink RX0 22 "LocoFrames$History" "held" "I", Cond.methodLink RX0 25 yX1_copyFrom, Cond.instanceMethod yX1_copyFrom, Cond.selects RX1 yX1_copyFrom yX1_copyFrom, Cond.initialized RX1]
def wsL_act_r2 : List Cond := [Cond.code yX1_copyFrom cX1_copyFrom 3 none, Cond.fieldLink RX1 29 "LocoFrames$Layout" "locoCount" "I", Cond.fieldLink RX1 11 "LocoFrames$Layout" "locos" "[LLocoFrames$Loco;", Cond.fieldLink RX1 20 "LocoFrames$Layout" "station" "LLocoFrames$Station;", Cond.fieldLink RX1 24 "LocoFrames$Layout" "shortTicks" "[I", Cond.methodLink RX1 40 arraycopyName, Cond.native arraycopyName, Cond.static arraycopyName, Cond.initialized "java/lang/System", Cond.fieldLink RX1 46 "LocoFrames$Layout" "ticks" "I", Cond.fieldLink RX1 49 "LocoFrames$Layout" "noiseTicks" "I", Cond.fieldLink RX1 52 "LocoFrames$Layout" "spoiledAt" "I", Cond.fieldLink RX1 55 "LocoFrames$Layout" "frames" "I", Cond.fieldLink RX1 58 "LocoFrames$Layout" "broken" "I", Cond.fieldLink RX1 61 "LocoFrames$Layout" "spoiled" "I", Cond.methodLink RX1 33 yX2_copyFrom, Cond.instanceMethod yX2_copyFrom, Cond.selects RX2 yX2_copyFrom yX2_copyFrom, Cond.initialized RX2, Cond.code yX2_copyFrom cX2_copyFrom 2 none, Cond.fieldLink RX2 9 "LocoFrames$Loco" "address" "I", Cond.fieldLink RX2 15 "LocoFrames$Loco" "mass" "I", Cond.fieldLink RX2 18 "LocoFrames$Loco" "curve" "I", Cond.fieldLink RX2 21 "LocoFrames$Loco" "place" "I"]
def wsL_act_r3 : List Cond := [Cond.fieldLink RX2 24 "LocoFrames$Loco" "tenths" "I", Cond.fieldLink RX2 27 "LocoFrames$Loco" "speed" "I", Cond.fieldLink RX2 30 "LocoFrames$Loco" "rounds" "I", Cond.fieldLink RX2 33 "LocoFrames$Loco" "step" "I", Cond.fieldLink RX2 36 "LocoFrames$Loco" "way" "I", Cond.fieldLink RX2 39 "LocoFrames$Loco" "lights" "I", Cond.fieldLink RX2 42 "LocoFrames$Loco" "heard" "I", Cond.methodLink RX1 37 yX4_copyFrom, Cond.instanceMethod yX4_copyFrom, Cond.selects RX4 yX4_copyFrom yX4_copyFrom, Cond.initialized RX4, Cond.code yX4_copyFrom cX4_copyFrom 2 none, Cond.fieldLink RX4 9 "LocoFrames$Station" "addresses" "[I", Cond.methodLink RX4 21 arraycopyName, Cond.fieldLink RX4 15 "LocoFrames$Station" "data" "[I", Cond.fieldLink RX4 18 "LocoFrames$Station" "urgencies" "[I", Cond.fieldLink RX4 27 "LocoFrames$Station" "held" "I", Cond.methodLink RX5 45 yX1_addLoco, Cond.instanceMethod yX1_addLoco, Cond.selects RX1 yX1_addLoco yX1_addLoco, Cond.code yX1_addLoco cX1_addLoco 7 (some .int), Cond.fieldLink RX1 76 "LocoFrames$Loco" "address" "I", Cond.static yX5_within, Cond.code yX5_within cX5_within 3 (some .boolean)]
def wsL_act_r4 : List Cond := [Cond.methodLink RX1 68 yX1_rankOf, Cond.instanceMethod yX1_rankOf, Cond.selects RX1 yX1_rankOf yX1_rankOf, Cond.code yX1_rankOf cX1_rankOf 3 (some .int), Cond.methodLink RX1 79 yX2_begin, Cond.instanceMethod yX2_begin, Cond.selects RX2 yX2_begin yX2_begin, Cond.code yX2_begin cX2_begin 5 none, Cond.methodLink RX5 49 yX0_kept, Cond.instanceMethod yX0_kept, Cond.selects RX0 yX0_kept yX0_kept, Cond.code yX0_kept cX0_kept 2 (some .int), Cond.methodLink RL 40 yX5_lift, Cond.instanceMethod yX5_lift, Cond.selects RX5 yX5_lift yX5_lift, Cond.code yX5_lift cX5_lift 2 (some .int), Cond.methodLink RX5 53 yX1_removeLoco, Cond.instanceMethod yX1_removeLoco, Cond.selects RX1 yX1_removeLoco yX1_removeLoco, Cond.code yX1_removeLoco cX1_removeLoco 5 (some .int), Cond.methodLink RL 43 yX5_noise, Cond.instanceMethod yX5_noise, Cond.selects RX5 yX5_noise yX5_noise, Cond.code yX5_noise cX5_noise 2 (some .int)]
def wsL_act_r5 : List Cond := [Cond.methodLink RX5 56 yX1_changeNoise, Cond.instanceMethod yX1_changeNoise, Cond.selects RX1 yX1_changeNoise yX1_changeNoise, Cond.code yX1_changeNoise cX1_changeNoise 3 (some .int), Cond.methodLink RL 46 yX5_order, Cond.instanceMethod yX5_order, Cond.selects RX5 yX5_order yX5_order, Cond.code yX5_order cX5_order 4 (some .int), Cond.fieldLink RX5 59 "LocoFrames$Layout" "station" "LLocoFrames$Station;", Cond.methodLink RX5 63 yX4_take, Cond.instanceMethod yX4_take, Cond.selects RX4 yX4_take yX4_take, Cond.code yX4_take cX4_take 5 (some .int), Cond.methodLink RX4 35 yX4_setRow, Cond.instanceMethod yX4_setRow, Cond.selects RX4 yX4_setRow yX4_setRow, Cond.code yX4_setRow cX4_setRow 5 none, Cond.methodLink RL 50 yX5_frame, Cond.instanceMethod yX5_frame, Cond.selects RX5 yX5_frame yX5_frame, Cond.code yX5_frame cX5_frame 4 (some .int), Cond.methodLink RX5 69 yX1_takeFrame, Cond.instanceMethod yX1_takeFrame, Cond.selects RX1 yX1_takeFrame yX1_takeFrame]
def wsL_act_r6 : List Cond := [Cond.code yX1_takeFrame cX1_takeFrame 7 (some .int), Cond.methodLink RX1 87 yX2_blockNumber, Cond.instanceMethod yX2_blockNumber, Cond.selects RX2 yX2_blockNumber yX2_blockNumber, Cond.code yX2_blockNumber cX2_blockNumber 1 (some .int), Cond.methodLink RX1 91 yX1_isShorted, Cond.instanceMethod yX1_isShorted, Cond.selects RX1 yX1_isShorted yX1_isShorted, Cond.code yX1_isShorted cX1_isShorted 2 (some .boolean), Cond.methodLink RX1 94 yX2_hear, Cond.instanceMethod yX2_hear, Cond.selects RX2 yX2_hear yX2_hear, Cond.code yX2_hear cX2_hear 3 none, Cond.methodLink RL 53 yX5_shorts, Cond.instanceMethod yX5_shorts, Cond.selects RX5 yX5_shorts yX5_shorts, Cond.code yX5_shorts cX5_shorts 3 (some .int), Cond.methodLink RX5 72 yX1_changeShort, Cond.instanceMethod yX1_changeShort, Cond.selects RX1 yX1_changeShort yX1_changeShort, Cond.code yX1_changeShort cX1_changeShort 4 (some .int), Cond.static yX5_isBlock, Cond.code yX5_isBlock cX5_isBlock 1 (some .boolean), Cond.methodLink RX5 155 yX5_within]
def wsL_act_r7 : List Cond := [Cond.methodLink RL 56 yX5_restore, Cond.instanceMethod yX5_restore, Cond.selects RX5 yX5_restore yX5_restore, Cond.code yX5_restore cX5_restore 2 (some .int), Cond.fieldLink RX5 30 "LocoFrames" "saved" "[Z", Cond.fieldLink RX5 26 "LocoFrames" "slots" "[LLocoFrames$Layout;", Cond.fieldLink RX5 111 "LocoFrames$Layout" "locoCount" "I", Cond.methodLink RX5 143 yX1_copyFrom, Cond.methodLink RL 59 yX5_pass, Cond.instanceMethod yX5_pass, Cond.selects RX5 yX5_pass yX5_pass, Cond.code yX5_pass cX5_pass 2 (some .int), Cond.methodLink RX5 76 yX1_takeTicks, Cond.instanceMethod yX1_takeTicks, Cond.selects RX1 yX1_takeTicks yX1_takeTicks, Cond.code yX1_takeTicks cX1_takeTicks 4 (some .int), Cond.constant RX1 98 (99999), Cond.methodLink RX1 99 yX1_tick, Cond.instanceMethod yX1_tick, Cond.selects RX1 yX1_tick yX1_tick, Cond.code yX1_tick cX1_tick 4 (some .int), Cond.fieldLink RX1 105 "LocoFrames$Loco" "speed" "I", Cond.methodLink RX1 114 Lib.Math.max.name, Cond.static Lib.Math.max.name]
def wsL_act_r8 : List Cond := [Cond.initialized "java/lang/Math", Cond.code Lib.Math.max.name Lib.Math.max.code 2 (some .int), Cond.methodLink RX1 102 yX1_sendFirst, Cond.instanceMethod yX1_sendFirst, Cond.selects RX1 yX1_sendFirst yX1_sendFirst, Cond.code yX1_sendFirst cX1_sendFirst 4 (some .int), Cond.fieldLink RX1 120 "LocoFrames$Station" "held" "I", Cond.fieldLink RX1 123 "LocoFrames$Station" "addresses" "[I", Cond.fieldLink RX1 126 "LocoFrames$Station" "data" "[I", Cond.methodLink RX1 129 yX4_dropFirst, Cond.instanceMethod yX4_dropFirst, Cond.selects RX4 yX4_dropFirst yX4_dropFirst, Cond.code yX4_dropFirst cX4_dropFirst 2 none, Cond.methodLink RX4 39 Lib.Math.max.name, Cond.methodLink RX1 132 yX1_takeFrame, Cond.methodLink RX1 108 yX2_changeSpeed, Cond.instanceMethod yX2_changeSpeed, Cond.selects RX2 yX2_changeSpeed yX2_changeSpeed, Cond.code yX2_changeSpeed cX2_changeSpeed 2 none, Cond.methodLink RX2 62 Lib.Math.min.name, Cond.static Lib.Math.min.name, Cond.code Lib.Math.min.name Lib.Math.min.code 2 (some .int), Cond.methodLink RX2 65 Lib.Math.max.name, Cond.methodLink RX2 49 yX2_mostGain]
def wsL_act_r9 : List Cond := [Cond.instanceMethod yX2_mostGain, Cond.selects RX2 yX2_mostGain yX2_mostGain, Cond.code yX2_mostGain cX2_mostGain 1 (some .int), Cond.methodLink RX2 53 yX2_goal, Cond.instanceMethod yX2_goal, Cond.selects RX2 yX2_goal yX2_goal, Cond.code yX2_goal cX2_goal 2 (some .int), Cond.static yX5_curveSpeed, Cond.code yX5_curveSpeed cX5_curveSpeed 3 (some .int), Cond.methodLink RX1 111 yX2_roll, Cond.instanceMethod yX2_roll, Cond.selects RX2 yX2_roll yX2_roll, Cond.code yX2_roll cX2_roll 3 none, Cond.methodLink RX2 68 yJ9_floorDiv_7cf53, Cond.static yJ9_floorDiv_7cf53, Cond.initialized RJ9, Cond.code yJ9_floorDiv_7cf53 cJ9_floorDiv_7cf53 3 (some .int), Cond.methodLink RX2 71 yJ9_floorMod_7cf53, Cond.static yJ9_floorMod_7cf53, Cond.code yJ9_floorMod_7cf53 cJ9_floorMod_7cf53 3 (some .int)]
def wsL_act : List Cond := .code yL_act cL_act 5 (some .int) :: ((wsL_act_r1 ++ (wsL_act_r2 ++ (wsL_act_r3 ++ (wsL_act_r4 ++ (wsL_act_r5 ++ (wsL_act_r6 ++ (wsL_act_r7 ++ (wsL_act_r8 ++ wsL_act_r9)))))))) ++ wsX50 ++ wsX00 ++ wsX10 ++ wsX20 ++ wsX40)
def wsL_holds_r1 : List Cond := [Cond.methodLink RL 12 yX5_count, Cond.instanceMethod yX5_count, Cond.selects RX5 yX5_count yX5_count, Cond.initialized RX5, Cond.code yX5_count cX5_count 2 (some .int), Cond.fieldLink RX5 12 "LocoFrames" "now" "LLocoFrames$Layout;", Cond.fieldLink RX5 108 "LocoFrames$Layout" "ticks" "I", Cond.fieldLink RX5 111 "LocoFrames$Layout" "locoCount" "I", Cond.fieldLink RX5 59 "LocoFrames$Layout" "station" "LLocoFrames$Station;", Cond.fieldLink RX5 114 "LocoFrames$Station" "held" "I", Cond.fieldLink RX5 117 "LocoFrames$Layout" "noiseTicks" "I", Cond.fieldLink RX5 120 "LocoFrames$Layout" "frames" "I", Cond.fieldLink RX5 123 "LocoFrames$Layout" "broken" "I", Cond.fieldLink RX5 126 "LocoFrames$Layout" "spoiled" "I", Cond.fieldLink RX5 37 "LocoFrames" "pad" "LLocoFrames$Pad;", Cond.fieldLink RX5 139 "LocoFrames$Pad" "length" "I", Cond.fieldLink RX5 22 "LocoFrames" "history" "LLocoFrames$History;", Cond.fieldLink RX5 142 "LocoFrames$History" "held" "I", Cond.methodLink RX5 129 yX1_blocksWithShort, Cond.instanceMethod yX1_blocksWithShort, Cond.selects RX1 yX1_blocksWithShort yX1_blocksWithShort, Cond.initialized RX1, Cond.code yX1_blocksWithShort cX1_blocksWithShort 3 (some .int), Cond.fieldLink RX1 24 "LocoFrames$Layout" "shortTicks" "[I"]
def wsL_holds_r2 : List Cond := [Cond.methodLink RX5 133 yX1_crowdedBlocks, Cond.instanceMethod yX1_crowdedBlocks, Cond.selects RX1 yX1_crowdedBlocks yX1_crowdedBlocks, Cond.code yX1_crowdedBlocks cX1_crowdedBlocks 3 (some .int), Cond.methodLink RX1 136 yX1_locosIn, Cond.instanceMethod yX1_locosIn, Cond.selects RX1 yX1_locosIn yX1_locosIn, Cond.code yX1_locosIn cX1_locosIn 4 (some .int), Cond.fieldLink RX1 29 "LocoFrames$Layout" "locoCount" "I", Cond.fieldLink RX1 11 "LocoFrames$Layout" "locos" "[LLocoFrames$Loco;", Cond.methodLink RX1 87 yX2_blockNumber, Cond.instanceMethod yX2_blockNumber, Cond.selects RX2 yX2_blockNumber yX2_blockNumber, Cond.initialized RX2, Cond.code yX2_blockNumber cX2_blockNumber 1 (some .int), Cond.fieldLink RX2 21 "LocoFrames$Loco" "place" "I", Cond.methodLink RX5 136 yX1_speedSum, Cond.instanceMethod yX1_speedSum, Cond.selects RX1 yX1_speedSum yX1_speedSum, Cond.code yX1_speedSum cX1_speedSum 3 (some .int), Cond.fieldLink RX1 105 "LocoFrames$Loco" "speed" "I", Cond.methodLink RL 18 yX5_address, Cond.instanceMethod yX5_address, Cond.selects RX5 yX5_address yX5_address]
def wsL_holds_r3 : List Cond := [Cond.code yX5_address cX5_address 3 (some .int), Cond.fieldLink RX5 91 "LocoFrames$Loco" "address" "I", Cond.methodLink RX5 88 yX1_locoAt, Cond.instanceMethod yX1_locoAt, Cond.selects RX1 yX1_locoAt yX1_locoAt, Cond.code yX1_locoAt cX1_locoAt 2 (some (.object "LocoFrames$Loco")), Cond.static yX5_within, Cond.code yX5_within cX5_within 3 (some .boolean), Cond.methodLink RL 21 yX5_of, Cond.instanceMethod yX5_of, Cond.selects RX5 yX5_of yX5_of, Cond.code yX5_of cX5_of 4 (some .int), Cond.methodLink RX5 79 yX1_locoWith, Cond.instanceMethod yX1_locoWith, Cond.selects RX1 yX1_locoWith yX1_locoWith, Cond.code yX1_locoWith cX1_locoWith 2 (some (.object "LocoFrames$Loco")), Cond.methodLink RX1 68 yX1_rankOf, Cond.instanceMethod yX1_rankOf, Cond.selects RX1 yX1_rankOf yX1_rankOf, Cond.code yX1_rankOf cX1_rankOf 3 (some .int), Cond.fieldLink RX1 76 "LocoFrames$Loco" "address" "I", Cond.methodLink RX1 72 yX1_locoAt, Cond.methodLink RX5 83 yX2_told, Cond.instanceMethod yX2_told]
def wsL_holds_r4 : List Cond := [Cond.selects RX2 yX2_told yX2_told, Cond.code yX2_told cX2_told 2 (some .int), Cond.fieldLink RX2 15 "LocoFrames$Loco" "mass" "I", Cond.fieldLink RX2 18 "LocoFrames$Loco" "curve" "I", Cond.fieldLink RX2 24 "LocoFrames$Loco" "tenths" "I", Cond.fieldLink RX2 27 "LocoFrames$Loco" "speed" "I", Cond.fieldLink RX2 33 "LocoFrames$Loco" "step" "I", Cond.fieldLink RX2 36 "LocoFrames$Loco" "way" "I", Cond.fieldLink RX2 39 "LocoFrames$Loco" "lights" "I", Cond.fieldLink RX2 42 "LocoFrames$Loco" "heard" "I", Cond.fieldLink RX2 30 "LocoFrames$Loco" "rounds" "I", Cond.methodLink RX2 53 yX2_goal, Cond.instanceMethod yX2_goal, Cond.selects RX2 yX2_goal yX2_goal, Cond.code yX2_goal cX2_goal 2 (some .int), Cond.static yX5_curveSpeed, Cond.code yX5_curveSpeed cX5_curveSpeed 3 (some .int), Cond.methodLink RX2 74 yX2_blockNumber, Cond.methodLink RL 62 yX5_settles, Cond.instanceMethod yX5_settles, Cond.selects RX5 yX5_settles yX5_settles, Cond.code yX5_settles cX5_settles 3 (some .int), Cond.methodLink RX5 152 yX2_ticksToGoal, Cond.instanceMethod yX2_ticksToGoal]
def wsL_holds_r5 : List Cond := [Cond.selects RX2 yX2_ticksToGoal yX2_ticksToGoal, Cond.code yX2_ticksToGoal cX2_ticksToGoal 3 (some .int), Cond.methodLink RX2 56 Lib.Math.abs.name, Cond.static Lib.Math.abs.name, Cond.initialized "java/lang/Math", Cond.code Lib.Math.abs.name Lib.Math.abs.code 1 (some .int), Cond.methodLink RX2 49 yX2_mostGain, Cond.instanceMethod yX2_mostGain, Cond.selects RX2 yX2_mostGain yX2_mostGain, Cond.code yX2_mostGain cX2_mostGain 1 (some .int), Cond.methodLink RL 65 yX5_reaches, Cond.instanceMethod yX5_reaches, Cond.selects RX5 yX5_reaches yX5_reaches, Cond.code yX5_reaches cX5_reaches 5 (some .int), Cond.fieldLink RX5 16 "LocoFrames" "foreseen" "LLocoFrames$Layout;", Cond.methodLink RX5 143 yX1_copyFrom, Cond.instanceMethod yX1_copyFrom, Cond.selects RX1 yX1_copyFrom yX1_copyFrom, Cond.code yX1_copyFrom cX1_copyFrom 3 none, Cond.fieldLink RX1 20 "LocoFrames$Layout" "station" "LLocoFrames$Station;", Cond.methodLink RX1 40 arraycopyName, Cond.native arraycopyName, Cond.static arraycopyName, Cond.initialized "java/lang/System"]
def wsL_holds_r6 : List Cond := [Cond.fieldLink RX1 46 "LocoFrames$Layout" "ticks" "I", Cond.fieldLink RX1 49 "LocoFrames$Layout" "noiseTicks" "I", Cond.fieldLink RX1 52 "LocoFrames$Layout" "spoiledAt" "I", Cond.fieldLink RX1 55 "LocoFrames$Layout" "frames" "I", Cond.fieldLink RX1 58 "LocoFrames$Layout" "broken" "I", Cond.fieldLink RX1 61 "LocoFrames$Layout" "spoiled" "I", Cond.methodLink RX1 33 yX2_copyFrom, Cond.instanceMethod yX2_copyFrom, Cond.selects RX2 yX2_copyFrom yX2_copyFrom, Cond.code yX2_copyFrom cX2_copyFrom 2 none, Cond.fieldLink RX2 9 "LocoFrames$Loco" "address" "I", Cond.methodLink RX1 37 yX4_copyFrom, Cond.instanceMethod yX4_copyFrom, Cond.selects RX4 yX4_copyFrom yX4_copyFrom, Cond.initialized RX4, Cond.code yX4_copyFrom cX4_copyFrom 2 none, Cond.fieldLink RX4 9 "LocoFrames$Station" "addresses" "[I", Cond.methodLink RX4 21 arraycopyName, Cond.fieldLink RX4 15 "LocoFrames$Station" "data" "[I", Cond.fieldLink RX4 18 "LocoFrames$Station" "urgencies" "[I", Cond.fieldLink RX4 27 "LocoFrames$Station" "held" "I", Cond.methodLink RX5 97 yX5_isBlock, Cond.static yX5_isBlock, Cond.code yX5_isBlock cX5_isBlock 1 (some .boolean)]
def wsL_holds_r7 : List Cond := [Cond.methodLink RX5 155 yX5_within, Cond.methodLink RX5 146 yX2_blockNumber, Cond.methodLink RX5 149 yX1_tick, Cond.instanceMethod yX1_tick, Cond.selects RX1 yX1_tick yX1_tick, Cond.code yX1_tick cX1_tick 4 (some .int), Cond.methodLink RX1 114 Lib.Math.max.name, Cond.static Lib.Math.max.name, Cond.code Lib.Math.max.name Lib.Math.max.code 2 (some .int), Cond.methodLink RX1 102 yX1_sendFirst, Cond.instanceMethod yX1_sendFirst, Cond.selects RX1 yX1_sendFirst yX1_sendFirst, Cond.code yX1_sendFirst cX1_sendFirst 4 (some .int), Cond.fieldLink RX1 120 "LocoFrames$Station" "held" "I", Cond.fieldLink RX1 123 "LocoFrames$Station" "addresses" "[I", Cond.fieldLink RX1 126 "LocoFrames$Station" "data" "[I", Cond.methodLink RX1 129 yX4_dropFirst, Cond.instanceMethod yX4_dropFirst, Cond.selects RX4 yX4_dropFirst yX4_dropFirst, Cond.code yX4_dropFirst cX4_dropFirst 2 none, Cond.methodLink RX4 39 Lib.Math.max.name, Cond.methodLink RX4 35 yX4_setRow, Cond.instanceMethod yX4_setRow, Cond.selects RX4 yX4_setRow yX4_setRow]
def wsL_holds_r8 : List Cond := [Cond.code yX4_setRow cX4_setRow 5 none, Cond.methodLink RX1 132 yX1_takeFrame, Cond.instanceMethod yX1_takeFrame, Cond.selects RX1 yX1_takeFrame yX1_takeFrame, Cond.code yX1_takeFrame cX1_takeFrame 7 (some .int), Cond.methodLink RX1 91 yX1_isShorted, Cond.instanceMethod yX1_isShorted, Cond.selects RX1 yX1_isShorted yX1_isShorted, Cond.code yX1_isShorted cX1_isShorted 2 (some .boolean), Cond.methodLink RX1 94 yX2_hear, Cond.instanceMethod yX2_hear, Cond.selects RX2 yX2_hear yX2_hear, Cond.code yX2_hear cX2_hear 3 none, Cond.methodLink RX1 108 yX2_changeSpeed, Cond.instanceMethod yX2_changeSpeed, Cond.selects RX2 yX2_changeSpeed yX2_changeSpeed, Cond.code yX2_changeSpeed cX2_changeSpeed 2 none, Cond.methodLink RX2 62 Lib.Math.min.name, Cond.static Lib.Math.min.name, Cond.code Lib.Math.min.name Lib.Math.min.code 2 (some .int), Cond.methodLink RX2 65 Lib.Math.max.name, Cond.methodLink RX1 111 yX2_roll, Cond.instanceMethod yX2_roll, Cond.selects RX2 yX2_roll yX2_roll]
def wsL_holds_r9 : List Cond := [Cond.code yX2_roll cX2_roll 3 none, Cond.methodLink RX2 68 yJ9_floorDiv_7cf53, Cond.static yJ9_floorDiv_7cf53, Cond.initialized RJ9, Cond.code yJ9_floorDiv_7cf53 cJ9_floorDiv_7cf53 3 (some .int), Cond.methodLink RX2 71 yJ9_floorMod_7cf53, Cond.static yJ9_floorMod_7cf53, Cond.code yJ9_floorMod_7cf53 cJ9_floorMod_7cf53 3 (some .int), Cond.methodLink RL 28 yX5_block, Cond.instanceMethod yX5_block, Cond.selects RX5 yX5_block yX5_block, Cond.code yX5_block cX5_block 3 (some .int), Cond.fieldLink RX5 101 "LocoFrames$Layout" "shortTicks" "[I", Cond.methodLink RX5 105 yX1_locosIn, Cond.methodLink RL 25 yX5_waiting, Cond.instanceMethod yX5_waiting, Cond.selects RX5 yX5_waiting yX5_waiting, Cond.code yX5_waiting cX5_waiting 3 (some .int), Cond.methodLink RX5 95 yX4_told, Cond.instanceMethod yX4_told, Cond.selects RX4 yX4_told yX4_told, Cond.code yX4_told cX4_told 3 (some .int)]
def wsL_holds : List Cond := .code yL_holds cL_holds 11 (some .boolean) :: ((wsL_holds_r1 ++ (wsL_holds_r2 ++ (wsL_holds_r3 ++ (wsL_holds_r4 ++ (wsL_holds_r5 ++ (wsL_holds_r6 ++ (wsL_holds_r7 ++ (wsL_holds_r8 ++ wsL_holds_r9)))))))) ++ wsX50 ++ wsX10 ++ wsX40 ++ wsX30 ++ wsX00 ++ wsX20)
def wsL_goesBySpeed_r1 : List Cond := [Cond.methodLink RL 21 yX5_of, Cond.instanceMethod yX5_of, Cond.selects RX5 yX5_of yX5_of, Cond.initialized RX5, Cond.code yX5_of cX5_of 4 (some .int), Cond.fieldLink RX5 12 "LocoFrames" "now" "LLocoFrames$Layout;", Cond.methodLink RX5 79 yX1_locoWith, Cond.instanceMethod yX1_locoWith, Cond.selects RX1 yX1_locoWith yX1_locoWith, Cond.initialized RX1, Cond.code yX1_locoWith cX1_locoWith 2 (some (.object "LocoFrames$Loco")), Cond.methodLink RX1 68 yX1_rankOf, Cond.instanceMethod yX1_rankOf, Cond.selects RX1 yX1_rankOf yX1_rankOf, Cond.code yX1_rankOf cX1_rankOf 3 (some .int), Cond.fieldLink RX1 29 "LocoFrames$Layout" "locoCount" "I", Cond.fieldLink RX1 11 "LocoFrames$Layout" "locos" "[LLocoFrames$Loco;", Cond.fieldLink RX1 76 "LocoFrames$Loco" "address" "I", Cond.methodLink RX1 72 yX1_locoAt, Cond.instanceMethod yX1_locoAt, Cond.selects RX1 yX1_locoAt yX1_locoAt, Cond.code yX1_locoAt cX1_locoAt 2 (some (.object "LocoFrames$Loco")), Cond.static yX5_within, Cond.code yX5_within cX5_within 3 (some .boolean)]
def wsL_goesBySpeed_r2 : List Cond := [Cond.methodLink RX5 83 yX2_told, Cond.instanceMethod yX2_told, Cond.selects RX2 yX2_told yX2_told, Cond.initialized RX2, Cond.code yX2_told cX2_told 2 (some .int), Cond.fieldLink RX2 15 "LocoFrames$Loco" "mass" "I", Cond.fieldLink RX2 18 "LocoFrames$Loco" "curve" "I", Cond.fieldLink RX2 21 "LocoFrames$Loco" "place" "I", Cond.fieldLink RX2 24 "LocoFrames$Loco" "tenths" "I", Cond.fieldLink RX2 27 "LocoFrames$Loco" "speed" "I", Cond.fieldLink RX2 33 "LocoFrames$Loco" "step" "I", Cond.fieldLink RX2 36 "LocoFrames$Loco" "way" "I", Cond.fieldLink RX2 39 "LocoFrames$Loco" "lights" "I", Cond.fieldLink RX2 42 "LocoFrames$Loco" "heard" "I", Cond.fieldLink RX2 30 "LocoFrames$Loco" "rounds" "I", Cond.methodLink RX2 53 yX2_goal, Cond.instanceMethod yX2_goal, Cond.selects RX2 yX2_goal yX2_goal, Cond.code yX2_goal cX2_goal 2 (some .int), Cond.static yX5_curveSpeed, Cond.code yX5_curveSpeed cX5_curveSpeed 3 (some .int), Cond.methodLink RX2 74 yX2_blockNumber, Cond.instanceMethod yX2_blockNumber, Cond.selects RX2 yX2_blockNumber yX2_blockNumber]
def wsL_goesBySpeed_r3 : List Cond := [Cond.code yX2_blockNumber cX2_blockNumber 1 (some .int), Cond.methodLink RL 28 yX5_block, Cond.instanceMethod yX5_block, Cond.selects RX5 yX5_block yX5_block, Cond.code yX5_block cX5_block 3 (some .int), Cond.fieldLink RX5 101 "LocoFrames$Layout" "shortTicks" "[I", Cond.methodLink RX5 97 yX5_isBlock, Cond.static yX5_isBlock, Cond.code yX5_isBlock cX5_isBlock 1 (some .boolean), Cond.methodLink RX5 155 yX5_within, Cond.methodLink RX5 105 yX1_locosIn, Cond.instanceMethod yX1_locosIn, Cond.selects RX1 yX1_locosIn yX1_locosIn, Cond.code yX1_locosIn cX1_locosIn 4 (some .int), Cond.methodLink RX1 87 yX2_blockNumber, Cond.methodLink RL 12 yX5_count, Cond.instanceMethod yX5_count, Cond.selects RX5 yX5_count yX5_count, Cond.code yX5_count cX5_count 2 (some .int), Cond.fieldLink RX5 108 "LocoFrames$Layout" "ticks" "I", Cond.fieldLink RX5 111 "LocoFrames$Layout" "locoCount" "I", Cond.fieldLink RX5 59 "LocoFrames$Layout" "station" "LLocoFrames$Station;", Cond.fieldLink RX5 114 "LocoFrames$Station" "held" "I", Cond.fieldLink RX5 117 "LocoFrames$Layout" "noiseTicks" "I"]
def wsL_goesBySpeed_r4 : List Cond := [Cond.fieldLink RX5 120 "LocoFrames$Layout" "frames" "I", Cond.fieldLink RX5 123 "LocoFrames$Layout" "broken" "I", Cond.fieldLink RX5 126 "LocoFrames$Layout" "spoiled" "I", Cond.fieldLink RX5 37 "LocoFrames" "pad" "LLocoFrames$Pad;", Cond.fieldLink RX5 139 "LocoFrames$Pad" "length" "I", Cond.fieldLink RX5 22 "LocoFrames" "history" "LLocoFrames$History;", Cond.fieldLink RX5 142 "LocoFrames$History" "held" "I", Cond.methodLink RX5 129 yX1_blocksWithShort, Cond.instanceMethod yX1_blocksWithShort, Cond.selects RX1 yX1_blocksWithShort yX1_blocksWithShort, Cond.code yX1_blocksWithShort cX1_blocksWithShort 3 (some .int), Cond.fieldLink RX1 24 "LocoFrames$Layout" "shortTicks" "[I", Cond.methodLink RX5 133 yX1_crowdedBlocks, Cond.instanceMethod yX1_crowdedBlocks, Cond.selects RX1 yX1_crowdedBlocks yX1_crowdedBlocks, Cond.code yX1_crowdedBlocks cX1_crowdedBlocks 3 (some .int), Cond.methodLink RX1 136 yX1_locosIn, Cond.methodLink RX5 136 yX1_speedSum, Cond.instanceMethod yX1_speedSum, Cond.selects RX1 yX1_speedSum yX1_speedSum, Cond.code yX1_speedSum cX1_speedSum 3 (some .int), Cond.fieldLink RX1 105 "LocoFrames$Loco" "speed" "I", Cond.methodLink RL 59 yX5_pass, Cond.instanceMethod yX5_pass]
def wsL_goesBySpeed_r5 : List Cond := [Cond.selects RX5 yX5_pass yX5_pass, Cond.code yX5_pass cX5_pass 2 (some .int), Cond.methodLink RX5 41 yX0_draft, Cond.instanceMethod yX0_draft, Cond.selects RX0 yX0_draft yX0_draft, Cond.initialized RX0, Cond.code yX0_draft cX0_draft 2 none, Cond.fieldLink RX0 11 "LocoFrames$History" "states" "[LLocoFrames$Layout;", Cond.fieldLink RX0 18 "LocoFrames$History" "first" "I", Cond.fieldLink RX0 22 "LocoFrames$History" "held" "I", Cond.methodLink RX0 25 yX1_copyFrom, Cond.instanceMethod yX1_copyFrom, Cond.selects RX1 yX1_copyFrom yX1_copyFrom, Cond.code yX1_copyFrom cX1_copyFrom 3 none, Cond.fieldLink RX1 20 "LocoFrames$Layout" "station" "LLocoFrames$Station;", Cond.methodLink RX1 40 arraycopyName, Cond.native arraycopyName, Cond.static arraycopyName, Cond.initialized "java/lang/System", Cond.fieldLink RX1 46 "LocoFrames$Layout" "ticks" "I", Cond.fieldLink RX1 49 "LocoFrames$Layout" "noiseTicks" "I", Cond.fieldLink RX1 52 "LocoFrames$Layout" "spoiledAt" "I", Cond.fieldLink RX1 55 "LocoFrames$Layout" "frames" "I", Cond.fieldLink RX1 58 "LocoFrames$Layout" "broken" "I"]
def wsL_goesBySpeed_r6 : List Cond := [Cond.fieldLink RX1 61 "LocoFrames$Layout" "spoiled" "I", Cond.methodLink RX1 33 yX2_copyFrom, Cond.instanceMethod yX2_copyFrom, Cond.selects RX2 yX2_copyFrom yX2_copyFrom, Cond.code yX2_copyFrom cX2_copyFrom 2 none, Cond.fieldLink RX2 9 "LocoFrames$Loco" "address" "I", Cond.methodLink RX1 37 yX4_copyFrom, Cond.instanceMethod yX4_copyFrom, Cond.selects RX4 yX4_copyFrom yX4_copyFrom, Cond.initialized RX4, Cond.code yX4_copyFrom cX4_copyFrom 2 none, Cond.fieldLink RX4 9 "LocoFrames$Station" "addresses" "[I", Cond.methodLink RX4 21 arraycopyName, Cond.fieldLink RX4 15 "LocoFrames$Station" "data" "[I", Cond.fieldLink RX4 18 "LocoFrames$Station" "urgencies" "[I", Cond.fieldLink RX4 27 "LocoFrames$Station" "held" "I", Cond.methodLink RX5 76 yX1_takeTicks, Cond.instanceMethod yX1_takeTicks, Cond.selects RX1 yX1_takeTicks yX1_takeTicks, Cond.code yX1_takeTicks cX1_takeTicks 4 (some .int), Cond.constant RX1 98 (99999), Cond.methodLink RX1 99 yX1_tick, Cond.instanceMethod yX1_tick, Cond.selects RX1 yX1_tick yX1_tick]
def wsL_goesBySpeed_r7 : List Cond := [Cond.code yX1_tick cX1_tick 4 (some .int), Cond.methodLink RX1 114 Lib.Math.max.name, Cond.static Lib.Math.max.name, Cond.initialized "java/lang/Math", Cond.code Lib.Math.max.name Lib.Math.max.code 2 (some .int), Cond.methodLink RX1 102 yX1_sendFirst, Cond.instanceMethod yX1_sendFirst, Cond.selects RX1 yX1_sendFirst yX1_sendFirst, Cond.code yX1_sendFirst cX1_sendFirst 4 (some .int), Cond.fieldLink RX1 120 "LocoFrames$Station" "held" "I", Cond.fieldLink RX1 123 "LocoFrames$Station" "addresses" "[I", Cond.fieldLink RX1 126 "LocoFrames$Station" "data" "[I", Cond.methodLink RX1 129 yX4_dropFirst, Cond.instanceMethod yX4_dropFirst, Cond.selects RX4 yX4_dropFirst yX4_dropFirst, Cond.code yX4_dropFirst cX4_dropFirst 2 none, Cond.methodLink RX4 39 Lib.Math.max.name, Cond.methodLink RX4 35 yX4_setRow, Cond.instanceMethod yX4_setRow, Cond.selects RX4 yX4_setRow yX4_setRow, Cond.code yX4_setRow cX4_setRow 5 none, Cond.methodLink RX1 132 yX1_takeFrame, Cond.instanceMethod yX1_takeFrame, Cond.selects RX1 yX1_takeFrame yX1_takeFrame]
def wsL_goesBySpeed_r8 : List Cond := [Cond.code yX1_takeFrame cX1_takeFrame 7 (some .int), Cond.methodLink RX1 91 yX1_isShorted, Cond.instanceMethod yX1_isShorted, Cond.selects RX1 yX1_isShorted yX1_isShorted, Cond.code yX1_isShorted cX1_isShorted 2 (some .boolean), Cond.methodLink RX1 94 yX2_hear, Cond.instanceMethod yX2_hear, Cond.selects RX2 yX2_hear yX2_hear, Cond.code yX2_hear cX2_hear 3 none, Cond.methodLink RX1 108 yX2_changeSpeed, Cond.instanceMethod yX2_changeSpeed, Cond.selects RX2 yX2_changeSpeed yX2_changeSpeed, Cond.code yX2_changeSpeed cX2_changeSpeed 2 none, Cond.methodLink RX2 62 Lib.Math.min.name, Cond.static Lib.Math.min.name, Cond.code Lib.Math.min.name Lib.Math.min.code 2 (some .int), Cond.methodLink RX2 65 Lib.Math.max.name, Cond.methodLink RX2 49 yX2_mostGain, Cond.instanceMethod yX2_mostGain, Cond.selects RX2 yX2_mostGain yX2_mostGain, Cond.code yX2_mostGain cX2_mostGain 1 (some .int), Cond.methodLink RX1 111 yX2_roll, Cond.instanceMethod yX2_roll, Cond.selects RX2 yX2_roll yX2_roll]
def wsL_goesBySpeed_r9 : List Cond := [Cond.code yX2_roll cX2_roll 3 none, Cond.methodLink RX2 68 yJ9_floorDiv_7cf53, Cond.static yJ9_floorDiv_7cf53, Cond.initialized RJ9, Cond.code yJ9_floorDiv_7cf53 cJ9_floorDiv_7cf53 3 (some .int), Cond.methodLink RX2 71 yJ9_floorMod_7cf53, Cond.static yJ9_floorMod_7cf53, Cond.code yJ9_floorMod_7cf53 cJ9_floorMod_7cf53 3 (some .int), Cond.methodLink RX5 49 yX0_kept, Cond.instanceMethod yX0_kept, Cond.selects RX0 yX0_kept yX0_kept, Cond.code yX0_kept cX0_kept 2 (some .int), Cond.methodLink RL 68 yX5_undo, Cond.instanceMethod yX5_undo, Cond.selects RX5 yX5_undo yX5_undo, Cond.code yX5_undo cX5_undo 1 (some .int), Cond.methodLink RX5 188 yX0_takeBack, Cond.instanceMethod yX0_takeBack, Cond.selects RX0 yX0_takeBack yX0_takeBack, Cond.code yX0_takeBack cX0_takeBack 2 (some .int)]
def wsL_goesBySpeed : List Cond := .code yL_goesBySpeed cL_goesBySpeed 11 (some .boolean) :: ((wsL_goesBySpeed_r1 ++ (wsL_goesBySpeed_r2 ++ (wsL_goesBySpeed_r3 ++ (wsL_goesBySpeed_r4 ++ (wsL_goesBySpeed_r5 ++ (wsL_goesBySpeed_r6 ++ (wsL_goesBySpeed_r7 ++ (wsL_goesBySpeed_r8 ++ wsL_goesBySpeed_r9)))))))) ++ wsX50 ++ wsX10 ++ wsX20 ++ wsX40 ++ wsX30 ++ wsX00)
def wsL_law_r1 : List Cond := [Cond.classLink RL 13 RX5, Cond.instantiable RX5 6, Cond.initialized RX5, Cond.methodLink RL 72 yX5_init, Cond.instanceMethod yX5_init, Cond.code yX5_init cX5_init 2 none, Cond.methodLink RX5 3 objectInit, Cond.instanceMethod objectInit, Cond.code objectInit ⟨#[0xb1]⟩ 1 none, Cond.classLink RX5 9 RX1, Cond.instantiable RX1 10, Cond.initialized RX1, Cond.fieldLink RX5 12 "LocoFrames" "now" "LLocoFrames$Layout;", Cond.fieldLink RX5 16 "LocoFrames" "foreseen" "LLocoFrames$Layout;", Cond.classLink RX5 19 RX0, Cond.instantiable RX0 3, Cond.initialized RX0, Cond.fieldLink RX5 22 "LocoFrames" "history" "LLocoFrames$History;", Cond.fieldLink RX5 26 "LocoFrames" "slots" "[LLocoFrames$Layout;", Cond.arrayClass .boolean, Cond.fieldLink RX5 30 "LocoFrames" "saved" "[Z", Cond.classLink RX5 34 RX3, Cond.instantiable RX3 6, Cond.initialized RX3]
def wsL_law_r2 : List Cond := [Cond.fieldLink RX5 37 "LocoFrames" "pad" "LLocoFrames$Pad;", Cond.methodLink RX5 11 yX1_init, Cond.instanceMethod yX1_init, Cond.code yX1_init cX1_init 2 none, Cond.methodLink RX1 3 objectInit, Cond.classLink RX1 9 RX2, Cond.fieldLink RX1 11 "LocoFrames$Layout" "locos" "[LLocoFrames$Loco;", Cond.classLink RX1 17 RX4, Cond.instantiable RX4 4, Cond.initialized RX4, Cond.fieldLink RX1 20 "LocoFrames$Layout" "station" "LLocoFrames$Station;", Cond.arrayClass .int, Cond.fieldLink RX1 24 "LocoFrames$Layout" "shortTicks" "[I", Cond.instantiable RX2 11, Cond.initialized RX2, Cond.instanceMethod yX4_init, Cond.code yX4_init cX4_init 1 none, Cond.methodLink RX4 3 objectInit, Cond.fieldLink RX4 9 "LocoFrames$Station" "addresses" "[I", Cond.fieldLink RX4 15 "LocoFrames$Station" "data" "[I", Cond.fieldLink RX4 18 "LocoFrames$Station" "urgencies" "[I", Cond.instanceMethod yX2_init, Cond.code yX2_init cX2_init 1 none, Cond.methodLink RX2 3 objectInit]
def wsL_law_r3 : List Cond := [Cond.methodLink RX5 21 yX0_init, Cond.instanceMethod yX0_init, Cond.code yX0_init cX0_init 2 none, Cond.methodLink RX0 3 objectInit, Cond.classLink RX0 9 RX1, Cond.fieldLink RX0 11 "LocoFrames$History" "states" "[LLocoFrames$Layout;", Cond.methodLink RX0 17 yX1_init, Cond.instanceMethod yX3_init, Cond.code yX3_init cX3_init 1 none, Cond.methodLink RX3 3 objectInit, Cond.arrayClass .char, Cond.fieldLink RX3 9 "LocoFrames$Pad" "text" "[C", Cond.fieldLink RX3 15 "LocoFrames$Pad" "numbers" "[I", Cond.methodLink RL 68 yX5_undo, Cond.instanceMethod yX5_undo, Cond.selects RX5 yX5_undo yX5_undo, Cond.code yX5_undo cX5_undo 1 (some .int), Cond.methodLink RX5 188 yX0_takeBack, Cond.instanceMethod yX0_takeBack, Cond.selects RX0 yX0_takeBack yX0_takeBack, Cond.code yX0_takeBack cX0_takeBack 2 (some .int), Cond.fieldLink RX0 22 "LocoFrames$History" "held" "I", Cond.fieldLink RX0 18 "LocoFrames$History" "first" "I", Cond.methodLink RX0 25 yX1_copyFrom]
def wsL_law_r4 : List Cond := [Cond.instanceMethod yX1_copyFrom, Cond.selects RX1 yX1_copyFrom yX1_copyFrom, Cond.code yX1_copyFrom cX1_copyFrom 3 none, Cond.fieldLink RX1 29 "LocoFrames$Layout" "locoCount" "I", Cond.methodLink RX1 40 arraycopyName, Cond.native arraycopyName, Cond.static arraycopyName, Cond.initialized "java/lang/System", Cond.fieldLink RX1 46 "LocoFrames$Layout" "ticks" "I", Cond.fieldLink RX1 49 "LocoFrames$Layout" "noiseTicks" "I", Cond.fieldLink RX1 52 "LocoFrames$Layout" "spoiledAt" "I", Cond.fieldLink RX1 55 "LocoFrames$Layout" "frames" "I", Cond.fieldLink RX1 58 "LocoFrames$Layout" "broken" "I", Cond.fieldLink RX1 61 "LocoFrames$Layout" "spoiled" "I", Cond.methodLink RX1 33 yX2_copyFrom, Cond.instanceMethod yX2_copyFrom, Cond.selects RX2 yX2_copyFrom yX2_copyFrom, Cond.code yX2_copyFrom cX2_copyFrom 2 none, Cond.fieldLink RX2 9 "LocoFrames$Loco" "address" "I", Cond.fieldLink RX2 15 "LocoFrames$Loco" "mass" "I", Cond.fieldLink RX2 18 "LocoFrames$Loco" "curve" "I", Cond.fieldLink RX2 21 "LocoFrames$Loco" "place" "I", Cond.fieldLink RX2 24 "LocoFrames$Loco" "tenths" "I", Cond.fieldLink RX2 27 "LocoFrames$Loco" "speed" "I"]
def wsL_law_r5 : List Cond := [Cond.fieldLink RX2 30 "LocoFrames$Loco" "rounds" "I", Cond.fieldLink RX2 33 "LocoFrames$Loco" "step" "I", Cond.fieldLink RX2 36 "LocoFrames$Loco" "way" "I", Cond.fieldLink RX2 39 "LocoFrames$Loco" "lights" "I", Cond.fieldLink RX2 42 "LocoFrames$Loco" "heard" "I", Cond.methodLink RX1 37 yX4_copyFrom, Cond.instanceMethod yX4_copyFrom, Cond.selects RX4 yX4_copyFrom yX4_copyFrom, Cond.code yX4_copyFrom cX4_copyFrom 2 none, Cond.methodLink RX4 21 arraycopyName, Cond.fieldLink RX4 27 "LocoFrames$Station" "held" "I", Cond.methodLink RL 56 yX5_restore, Cond.instanceMethod yX5_restore, Cond.selects RX5 yX5_restore yX5_restore, Cond.code yX5_restore cX5_restore 2 (some .int), Cond.fieldLink RX5 111 "LocoFrames$Layout" "locoCount" "I", Cond.methodLink RX5 155 yX5_within, Cond.static yX5_within, Cond.code yX5_within cX5_within 3 (some .boolean), Cond.methodLink RX5 41 yX0_draft, Cond.instanceMethod yX0_draft, Cond.selects RX0 yX0_draft yX0_draft, Cond.code yX0_draft cX0_draft 2 none, Cond.methodLink RX5 143 yX1_copyFrom]
def wsL_law_r6 : List Cond := [Cond.methodLink RX5 49 yX0_kept, Cond.instanceMethod yX0_kept, Cond.selects RX0 yX0_kept yX0_kept, Cond.code yX0_kept cX0_kept 2 (some .int), Cond.methodLink RL 73 yX5_save, Cond.instanceMethod yX5_save, Cond.selects RX5 yX5_save yX5_save, Cond.code yX5_save cX5_save 2 (some .int), Cond.methodLink RL 76 yL_told, Cond.static yL_told, Cond.initialized RL, Cond.code yL_told cL_told 6 (some .long), Cond.constantLong RL 8 (3), Cond.constantLong RL 10 (31), Cond.methodLink RL 12 yX5_count, Cond.instanceMethod yX5_count, Cond.selects RX5 yX5_count yX5_count, Cond.code yX5_count cX5_count 2 (some .int), Cond.fieldLink RX5 108 "LocoFrames$Layout" "ticks" "I", Cond.fieldLink RX5 59 "LocoFrames$Layout" "station" "LLocoFrames$Station;", Cond.fieldLink RX5 114 "LocoFrames$Station" "held" "I", Cond.fieldLink RX5 117 "LocoFrames$Layout" "noiseTicks" "I", Cond.fieldLink RX5 120 "LocoFrames$Layout" "frames" "I", Cond.fieldLink RX5 123 "LocoFrames$Layout" "broken" "I"]
def wsL_law_r7 : List Cond := [Cond.fieldLink RX5 126 "LocoFrames$Layout" "spoiled" "I", Cond.fieldLink RX5 139 "LocoFrames$Pad" "length" "I", Cond.fieldLink RX5 142 "LocoFrames$History" "held" "I", Cond.methodLink RX5 129 yX1_blocksWithShort, Cond.instanceMethod yX1_blocksWithShort, Cond.selects RX1 yX1_blocksWithShort yX1_blocksWithShort, Cond.code yX1_blocksWithShort cX1_blocksWithShort 3 (some .int), Cond.methodLink RX5 133 yX1_crowdedBlocks, Cond.instanceMethod yX1_crowdedBlocks, Cond.selects RX1 yX1_crowdedBlocks yX1_crowdedBlocks, Cond.code yX1_crowdedBlocks cX1_crowdedBlocks 3 (some .int), Cond.methodLink RX1 136 yX1_locosIn, Cond.instanceMethod yX1_locosIn, Cond.selects RX1 yX1_locosIn yX1_locosIn, Cond.code yX1_locosIn cX1_locosIn 4 (some .int), Cond.methodLink RX1 87 yX2_blockNumber, Cond.instanceMethod yX2_blockNumber, Cond.selects RX2 yX2_blockNumber yX2_blockNumber, Cond.code yX2_blockNumber cX2_blockNumber 1 (some .int), Cond.methodLink RX5 136 yX1_speedSum, Cond.instanceMethod yX1_speedSum, Cond.selects RX1 yX1_speedSum yX1_speedSum, Cond.code yX1_speedSum cX1_speedSum 3 (some .int), Cond.fieldLink RX1 105 "LocoFrames$Loco" "speed" "I"]
def wsL_law_r8 : List Cond := [Cond.methodLink RL 18 yX5_address, Cond.instanceMethod yX5_address, Cond.selects RX5 yX5_address yX5_address, Cond.code yX5_address cX5_address 3 (some .int), Cond.fieldLink RX5 91 "LocoFrames$Loco" "address" "I", Cond.methodLink RX5 88 yX1_locoAt, Cond.instanceMethod yX1_locoAt, Cond.selects RX1 yX1_locoAt yX1_locoAt, Cond.code yX1_locoAt cX1_locoAt 2 (some (.object "LocoFrames$Loco")), Cond.methodLink RL 21 yX5_of, Cond.instanceMethod yX5_of, Cond.selects RX5 yX5_of yX5_of, Cond.code yX5_of cX5_of 4 (some .int), Cond.methodLink RX5 79 yX1_locoWith, Cond.instanceMethod yX1_locoWith, Cond.selects RX1 yX1_locoWith yX1_locoWith, Cond.code yX1_locoWith cX1_locoWith 2 (some (.object "LocoFrames$Loco")), Cond.methodLink RX1 68 yX1_rankOf, Cond.instanceMethod yX1_rankOf, Cond.selects RX1 yX1_rankOf yX1_rankOf, Cond.code yX1_rankOf cX1_rankOf 3 (some .int), Cond.fieldLink RX1 76 "LocoFrames$Loco" "address" "I", Cond.methodLink RX1 72 yX1_locoAt, Cond.methodLink RX5 83 yX2_told]
def wsL_law_r9 : List Cond := [Cond.instanceMethod yX2_told, Cond.selects RX2 yX2_told yX2_told, Cond.code yX2_told cX2_told 2 (some .int), Cond.methodLink RX2 53 yX2_goal, Cond.instanceMethod yX2_goal, Cond.selects RX2 yX2_goal yX2_goal, Cond.code yX2_goal cX2_goal 2 (some .int), Cond.static yX5_curveSpeed, Cond.code yX5_curveSpeed cX5_curveSpeed 3 (some .int), Cond.methodLink RX2 74 yX2_blockNumber, Cond.methodLink RL 25 yX5_waiting, Cond.instanceMethod yX5_waiting, Cond.selects RX5 yX5_waiting yX5_waiting, Cond.code yX5_waiting cX5_waiting 3 (some .int), Cond.methodLink RX5 95 yX4_told, Cond.instanceMethod yX4_told, Cond.selects RX4 yX4_told yX4_told, Cond.code yX4_told cX4_told 3 (some .int), Cond.methodLink RL 28 yX5_block, Cond.instanceMethod yX5_block, Cond.selects RX5 yX5_block yX5_block, Cond.code yX5_block cX5_block 3 (some .int), Cond.fieldLink RX5 101 "LocoFrames$Layout" "shortTicks" "[I", Cond.methodLink RX5 97 yX5_isBlock]
def wsL_law_r10 : List Cond := [Cond.static yX5_isBlock, Cond.code yX5_isBlock cX5_isBlock 1 (some .boolean), Cond.methodLink RX5 105 yX1_locosIn, Cond.methodLink RL 80 yL_cell, Cond.static yL_cell, Cond.code yL_cell cL_cell 2 (some .int), Cond.methodLink RL 84 yL_act, Cond.static yL_act, Cond.code yL_act cL_act 5 (some .int), Cond.methodLink RL 31 yL_low, Cond.static yL_low, Cond.code yL_low cL_low 2 (some .int), Cond.constant RL 7 (2147483647), Cond.methodLink RL 36 yX5_loco, Cond.instanceMethod yX5_loco, Cond.selects RX5 yX5_loco yX5_loco, Cond.code yX5_loco cX5_loco 5 (some .int), Cond.methodLink RX5 45 yX1_addLoco, Cond.instanceMethod yX1_addLoco, Cond.selects RX1 yX1_addLoco yX1_addLoco, Cond.code yX1_addLoco cX1_addLoco 7 (some .int), Cond.methodLink RX1 79 yX2_begin, Cond.instanceMethod yX2_begin, Cond.selects RX2 yX2_begin yX2_begin]
def wsL_law_r11 : List Cond := [Cond.code yX2_begin cX2_begin 5 none, Cond.methodLink RL 40 yX5_lift, Cond.instanceMethod yX5_lift, Cond.selects RX5 yX5_lift yX5_lift, Cond.code yX5_lift cX5_lift 2 (some .int), Cond.methodLink RX5 53 yX1_removeLoco, Cond.instanceMethod yX1_removeLoco, Cond.selects RX1 yX1_removeLoco yX1_removeLoco, Cond.code yX1_removeLoco cX1_removeLoco 5 (some .int), Cond.methodLink RL 43 yX5_noise, Cond.instanceMethod yX5_noise, Cond.selects RX5 yX5_noise yX5_noise, Cond.code yX5_noise cX5_noise 2 (some .int), Cond.methodLink RX5 56 yX1_changeNoise, Cond.instanceMethod yX1_changeNoise, Cond.selects RX1 yX1_changeNoise yX1_changeNoise, Cond.code yX1_changeNoise cX1_changeNoise 3 (some .int), Cond.methodLink RL 46 yX5_order, Cond.instanceMethod yX5_order, Cond.selects RX5 yX5_order yX5_order, Cond.code yX5_order cX5_order 4 (some .int), Cond.methodLink RX5 63 yX4_take, Cond.instanceMethod yX4_take, Cond.selects RX4 yX4_take yX4_take]
def wsL_law_r12 : List Cond := [Cond.code yX4_take cX4_take 5 (some .int), Cond.methodLink RX4 35 yX4_setRow, Cond.instanceMethod yX4_setRow, Cond.selects RX4 yX4_setRow yX4_setRow, Cond.code yX4_setRow cX4_setRow 5 none, Cond.methodLink RL 50 yX5_frame, Cond.instanceMethod yX5_frame, Cond.selects RX5 yX5_frame yX5_frame, Cond.code yX5_frame cX5_frame 4 (some .int), Cond.methodLink RX5 69 yX1_takeFrame, Cond.instanceMethod yX1_takeFrame, Cond.selects RX1 yX1_takeFrame yX1_takeFrame, Cond.code yX1_takeFrame cX1_takeFrame 7 (some .int), Cond.methodLink RX1 91 yX1_isShorted, Cond.instanceMethod yX1_isShorted, Cond.selects RX1 yX1_isShorted yX1_isShorted, Cond.code yX1_isShorted cX1_isShorted 2 (some .boolean), Cond.methodLink RX1 94 yX2_hear, Cond.instanceMethod yX2_hear, Cond.selects RX2 yX2_hear yX2_hear, Cond.code yX2_hear cX2_hear 3 none, Cond.methodLink RL 53 yX5_shorts, Cond.instanceMethod yX5_shorts, Cond.selects RX5 yX5_shorts yX5_shorts]
def wsL_law_r13 : List Cond := [Cond.code yX5_shorts cX5_shorts 3 (some .int), Cond.methodLink RX5 72 yX1_changeShort, Cond.instanceMethod yX1_changeShort, Cond.selects RX1 yX1_changeShort yX1_changeShort, Cond.code yX1_changeShort cX1_changeShort 4 (some .int), Cond.methodLink RL 59 yX5_pass, Cond.instanceMethod yX5_pass, Cond.selects RX5 yX5_pass yX5_pass, Cond.code yX5_pass cX5_pass 2 (some .int), Cond.methodLink RX5 76 yX1_takeTicks, Cond.instanceMethod yX1_takeTicks, Cond.selects RX1 yX1_takeTicks yX1_takeTicks, Cond.code yX1_takeTicks cX1_takeTicks 4 (some .int), Cond.constant RX1 98 (99999), Cond.methodLink RX1 99 yX1_tick, Cond.instanceMethod yX1_tick, Cond.selects RX1 yX1_tick yX1_tick, Cond.code yX1_tick cX1_tick 4 (some .int), Cond.methodLink RX1 114 Lib.Math.max.name, Cond.static Lib.Math.max.name, Cond.initialized "java/lang/Math", Cond.code Lib.Math.max.name Lib.Math.max.code 2 (some .int), Cond.methodLink RX1 102 yX1_sendFirst, Cond.instanceMethod yX1_sendFirst]
def wsL_law_r14 : List Cond := [Cond.selects RX1 yX1_sendFirst yX1_sendFirst, Cond.code yX1_sendFirst cX1_sendFirst 4 (some .int), Cond.fieldLink RX1 120 "LocoFrames$Station" "held" "I", Cond.fieldLink RX1 123 "LocoFrames$Station" "addresses" "[I", Cond.fieldLink RX1 126 "LocoFrames$Station" "data" "[I", Cond.methodLink RX1 129 yX4_dropFirst, Cond.instanceMethod yX4_dropFirst, Cond.selects RX4 yX4_dropFirst yX4_dropFirst, Cond.code yX4_dropFirst cX4_dropFirst 2 none, Cond.methodLink RX4 39 Lib.Math.max.name, Cond.methodLink RX1 132 yX1_takeFrame, Cond.methodLink RX1 108 yX2_changeSpeed, Cond.instanceMethod yX2_changeSpeed, Cond.selects RX2 yX2_changeSpeed yX2_changeSpeed, Cond.code yX2_changeSpeed cX2_changeSpeed 2 none, Cond.methodLink RX2 62 Lib.Math.min.name, Cond.static Lib.Math.min.name, Cond.code Lib.Math.min.name Lib.Math.min.code 2 (some .int), Cond.methodLink RX2 65 Lib.Math.max.name, Cond.methodLink RX2 49 yX2_mostGain, Cond.instanceMethod yX2_mostGain, Cond.selects RX2 yX2_mostGain yX2_mostGain, Cond.code yX2_mostGain cX2_mostGain 1 (some .int), Cond.methodLink RX1 111 yX2_roll]
def wsL_law_r15 : List Cond := [Cond.instanceMethod yX2_roll, Cond.selects RX2 yX2_roll yX2_roll, Cond.code yX2_roll cX2_roll 3 none, Cond.methodLink RX2 68 yJ9_floorDiv_7cf53, Cond.static yJ9_floorDiv_7cf53, Cond.initialized RJ9, Cond.code yJ9_floorDiv_7cf53 cJ9_floorDiv_7cf53 3 (some .int), Cond.methodLink RX2 71 yJ9_floorMod_7cf53, Cond.static yJ9_floorMod_7cf53, Cond.code yJ9_floorMod_7cf53 cJ9_floorMod_7cf53 3 (some .int), Cond.methodLink RL 88 yL_holds, Cond.static yL_holds, Cond.code yL_holds cL_holds 11 (some .boolean), Cond.methodLink RL 62 yX5_settles, Cond.instanceMethod yX5_settles, Cond.selects RX5 yX5_settles yX5_settles, Cond.code yX5_settles cX5_settles 3 (some .int), Cond.methodLink RX5 152 yX2_ticksToGoal, Cond.instanceMethod yX2_ticksToGoal, Cond.selects RX2 yX2_ticksToGoal yX2_ticksToGoal, Cond.code yX2_ticksToGoal cX2_ticksToGoal 3 (some .int), Cond.methodLink RX2 56 Lib.Math.abs.name, Cond.static Lib.Math.abs.name, Cond.code Lib.Math.abs.name Lib.Math.abs.code 1 (some .int)]
def wsL_law_r16 : List Cond := [Cond.methodLink RL 65 yX5_reaches, Cond.instanceMethod yX5_reaches, Cond.selects RX5 yX5_reaches yX5_reaches, Cond.code yX5_reaches cX5_reaches 5 (some .int), Cond.methodLink RX5 146 yX2_blockNumber, Cond.methodLink RX5 149 yX1_tick, Cond.methodLink RL 92 yL_goesBySpeed, Cond.static yL_goesBySpeed, Cond.code yL_goesBySpeed cL_goesBySpeed 11 (some .boolean)]
def wsL_law : List Cond := (wsL_law_r1 ++ (wsL_law_r2 ++ (wsL_law_r3 ++ (wsL_law_r4 ++ (wsL_law_r5 ++ (wsL_law_r6 ++ (wsL_law_r7 ++ (wsL_law_r8 ++ (wsL_law_r9 ++ (wsL_law_r10 ++ (wsL_law_r11 ++ (wsL_law_r12 ++ (wsL_law_r13 ++ (wsL_law_r14 ++ (wsL_law_r15 ++ wsL_law_r16))))))))))))))) ++ wsX50 ++ wsX10 ++ wsX00 ++ wsX30 ++ wsX40 ++ wsX20 ++ ([] : List Cond)
theorem inlX0 : ∀ w ∈ wsX00, w ∈ wsL_law := fun _ h => List.mem_append_left _ (List.mem_append_left _ (List.mem_append_left _ (List.mem_append_left _ (List.mem_append_right _ h))))
theorem inlX1 : ∀ w ∈ wsX10, w ∈ wsL_law := fun _ h => List.mem_append_left _ (List.mem_append_left _ (List.mem_append_left _ (List.mem_append_left _ (List.mem_append_left _ (List.mem_append_right _ h)))))
theorem inlX2 : ∀ w ∈ wsX20, w ∈ wsL_law := fun _ h => List.mem_append_left _ (List.mem_append_right _ h)
theorem inlX3 : ∀ w ∈ wsX30, w ∈ wsL_law := fun _ h => List.mem_append_left _ (List.mem_append_left _ (List.mem_append_left _ (List.mem_append_right _ h)))
theorem inlX4 : ∀ w ∈ wsX40, w ∈ wsL_law := fun _ h => List.mem_append_left _ (List.mem_append_left _ (List.mem_append_right _ h))
theorem inlX5 : ∀ w ∈ wsX50, w ∈ wsL_law := fun _ h => List.mem_append_left _ (List.mem_append_left _ (List.mem_append_left _ (List.mem_append_left _ (List.mem_append_left _ (List.mem_append_left _ (List.mem_append_right _ h))))))
abbrev vwCl : List vw_C := [(RX0, TX0, 3), (RX1, TX1, 10), (RX2, TX2, 11), (RX3, TX3, 6), (RX4, TX4, 4), (RX5, TX5, 6)]
/-! ===== END printed: names ===== -/
