section
-- ===== PART A: goes FIRST, ahead of the names: the tables' words, and 'selects' of the private methods out of them =====
/-- a private method of a class that the tables say can be made, by its rows of tables_1 -/
def lw_okq (q : MethodName × Nat) : Prop := (q.1.cls ≠ "java/lang/invoke/MethodHandle" ∧ q.1.cls ≠ "java/lang/invoke/VarHandle") ∧ Cond.instantiable q.1.cls q.2 ∈ tables_1 ∧ Cond.privateMethod q.1 ∈ tables_1 ∧ Cond.instanceMethod q.1 ∈ tables_1
theorem lw_p0 : lw_okq (⟨"LocoFrames$Layout", "rankOf", "(I)I"⟩, 10) := ⟨⟨by decide +kernel, by decide +kernel⟩, List.mem_of_getElem? (i := 18) (by decide +kernel), List.mem_of_getElem? (i := 291) (by decide +kernel), List.mem_of_getElem? (i := 292) (by decide +kernel)⟩
theorem lw_p1 : lw_okq (⟨"LocoFrames$Station", "setRow", "(IIII)V"⟩, 4) := ⟨⟨by decide +kernel, by decide +kernel⟩, List.mem_of_getElem? (i := 26) (by decide +kernel), List.mem_of_getElem? (i := 364) (by decide +kernel), List.mem_of_getElem? (i := 365) (by decide +kernel)⟩
theorem lw_p2 : lw_okq (⟨"LocoFrames$Layout", "isShorted", "(I)Z"⟩, 10) := ⟨⟨by decide +kernel, by decide +kernel⟩, List.mem_of_getElem? (i := 18) (by decide +kernel), List.mem_of_getElem? (i := 376) (by decide +kernel), List.mem_of_getElem? (i := 377) (by decide +kernel)⟩
theorem lw_p3 : lw_okq (⟨"LocoFrames$Layout", "sendFirst", "()I"⟩, 10) := ⟨⟨by decide +kernel, by decide +kernel⟩, List.mem_of_getElem? (i := 18) (by decide +kernel), List.mem_of_getElem? (i := 406) (by decide +kernel), List.mem_of_getElem? (i := 407) (by decide +kernel)⟩
def lw_privs_1 : List (MethodName × Nat) := [(⟨"LocoFrames$Layout", "rankOf", "(I)I"⟩, 10), (⟨"LocoFrames$Station", "setRow", "(IIII)V"⟩, 4), (⟨"LocoFrames$Layout", "isShorted", "(I)Z"⟩, 10), (⟨"LocoFrames$Layout", "sendFirst", "()I"⟩, 10)]
theorem lw_r1 : ∀ q ∈ lw_privs_1, lw_okq q := List.forall_mem_cons.mpr ⟨lw_p0, List.forall_mem_cons.mpr ⟨lw_p1, List.forall_mem_cons.mpr ⟨lw_p2, List.forall_mem_cons.mpr ⟨lw_p3, fun _ h => absurd h List.not_mem_nil⟩⟩⟩⟩
def lw_privs : List (MethodName × Nat) := lw_privs_1
def lw_tbl : List Cond := k2_sels lw_privs ++ tables_1
theorem lw_privs_ok : ∀ q ∈ lw_privs, lw_okq q := lw_r1
/-! ===== BEGIN words of one list among another's, by their places ===== -/
theorem goodIn_r {big : List Cond} (ws : List Cond) (ps : List Nat) (hp : ws = ps.filterMap (fun i => big[i]?)) (h : ws.all goodWord = true) : GoodIn big ws := by
  intro w hw
  have h1 := List.all_eq_true.mp h w hw
  rw [hp] at hw
  obtain ⟨i, -, hi⟩ := List.mem_filterMap.mp hw
  have hm : w ∈ big := by first | exact List.mem_of_getElem? hi | exact List.getElem?_mem hi
  exact ⟨hm, good_of_word h1⟩
theorem goodIn_app {big a b : List Cond} (ha : GoodIn big a) (hb : GoodIn big b) : GoodIn big (a ++ b) := fun w h => (List.mem_append.mp h).elim (ha w) (hb w)
theorem goodIn_ca {big a b : List Cond} {c : Cond} (ha : GoodIn big (c :: a)) (hb : GoodIn big b) : GoodIn big (c :: (a ++ b)) := fun w h => (List.mem_cons.mp h).elim (fun e => ha w (List.mem_cons.mpr (Or.inl e))) (fun h => (List.mem_append.mp h).elim (fun h => ha w (List.mem_cons.mpr (Or.inr h))) (hb w))
theorem goodIn_sub {big ws : List Cond} (hm : ∀ w ∈ ws, w ∈ big) (h : ws.all goodWord = true) : GoodIn big ws := fun w hw => ⟨hm w hw, good_of_word (List.all_eq_true.mp h w hw)⟩
/-! ===== END ===== -/
/-! ===== BEGIN printed: names, fields, word lists, decode rows ===== -/
def RX0 : String := "LocoFrames$History"
def TX0 : u_T := fun k => match k with
  | 0 => ("LocoFrames$History", "states", "[LLocoFrames$Layout;", true)
  | 1 => ("LocoFrames$History", "first", "I", false)
  | _ => ("LocoFrames$History", "held", "I", false)
def tyX0 : Nat → FieldType := fun k => match k with
  | 0 => .array (.object "LocoFrames$Layout")
  | 1 => .int
  | _ => .int
abbrev wsX00 : List Cond := u_ws RX0 TX0 3
theorem nmX0 : ∀ a, a < 3 → ∀ b, b < 3 → a ≠ b → (TX0 a).2.1 ≠ (TX0 b).2.1 := by decide +kernel
theorem tyX0_ok : ∀ k, k < 3 → parseFieldDescriptor (TX0 k).2.2.1 = some (tyX0 k) := by decide +kernel
abbrev cX0_init : ByteArray := prog_2_method_1_code
def yX0_init : MethodName := ⟨RX0, "<init>", "()V"⟩
abbrev cX0_draft : ByteArray := prog_2_method_2_code
def yX0_draft : MethodName := ⟨RX0, "draft", "(LLocoFrames$Layout;)V"⟩
abbrev cX0_kept : ByteArray := prog_2_method_3_code
def yX0_kept : MethodName := ⟨RX0, "kept", "(I)I"⟩
abbrev cX0_takeBack : ByteArray := prog_2_method_4_code
def yX0_takeBack : MethodName := ⟨RX0, "takeBack", "(LLocoFrames$Layout;)I"⟩
def RX1 : String := "LocoFrames$Layout"
def TX1 : u_T := fun k => match k with
  | 0 => ("LocoFrames$Layout", "locos", "[LLocoFrames$Loco;", true)
  | 1 => ("LocoFrames$Layout", "station", "LLocoFrames$Station;", true)
  | 2 => ("LocoFrames$Layout", "shortTicks", "[I", true)
  | 3 => ("LocoFrames$Layout", "locoCount", "I", false)
  | 4 => ("LocoFrames$Layout", "ticks", "I", false)
  | 5 => ("LocoFrames$Layout", "noiseTicks", "I", false)
  | 6 => ("LocoFrames$Layout", "spoiledAt", "I", false)
  | 7 => ("LocoFrames$Layout", "frames", "I", false)
  | 8 => ("LocoFrames$Layout", "broken", "I", false)
  | _ => ("LocoFrames$Layout", "spoiled", "I", false)
def tyX1 : Nat → FieldType := fun k => match k with
  | 0 => .array (.object "LocoFrames$Loco")
  | 1 => .object "LocoFrames$Station"
  | 2 => .array .int
  | 3 => .int
  | 4 => .int
  | 5 => .int
  | 6 => .int
  | 7 => .int
  | 8 => .int
  | _ => .int
abbrev wsX10 : List Cond := u_ws RX1 TX1 10
theorem nmX1 : ∀ a, a < 10 → ∀ b, b < 10 → a ≠ b → (TX1 a).2.1 ≠ (TX1 b).2.1 := by decide +kernel
theorem tyX1_ok : ∀ k, k < 10 → parseFieldDescriptor (TX1 k).2.2.1 = some (tyX1 k) := by decide +kernel
abbrev cX1_init : ByteArray := prog_3_method_1_code
def yX1_init : MethodName := ⟨RX1, "<init>", "()V"⟩
abbrev cX1_copyFrom : ByteArray := prog_3_method_2_code
def yX1_copyFrom : MethodName := ⟨RX1, "copyFrom", "(LLocoFrames$Layout;)V"⟩
abbrev cX1_locoAt : ByteArray := prog_3_method_3_code
def yX1_locoAt : MethodName := ⟨RX1, "locoAt", "(I)LLocoFrames$Loco;"⟩
abbrev cX1_locoWith : ByteArray := prog_3_method_4_code
def yX1_locoWith : MethodName := ⟨RX1, "locoWith", "(I)LLocoFrames$Loco;"⟩
abbrev cX1_rankOf : ByteArray := prog_3_method_5_code
def yX1_rankOf : MethodName := ⟨RX1, "rankOf", "(I)I"⟩
abbrev cX1_addLoco : ByteArray := prog_3_method_6_code
def yX1_addLoco : MethodName := ⟨RX1, "addLoco", "(IIII)I"⟩
abbrev cX1_removeLoco : ByteArray := prog_3_method_7_code
def yX1_removeLoco : MethodName := ⟨RX1, "removeLoco", "(I)I"⟩
abbrev cX1_changeNoise : ByteArray := prog_3_method_8_code
def yX1_changeNoise : MethodName := ⟨RX1, "changeNoise", "(I)I"⟩
abbrev cX1_changeShort : ByteArray := prog_3_method_9_code
def yX1_changeShort : MethodName := ⟨RX1, "changeShort", "(II)I"⟩
abbrev cX1_takeFrame : ByteArray := prog_3_method_10_code
def yX1_takeFrame : MethodName := ⟨RX1, "takeFrame", "(III)I"⟩
abbrev cX1_takeTicks : ByteArray := prog_3_method_11_code
def yX1_takeTicks : MethodName := ⟨RX1, "takeTicks", "(I)I"⟩
abbrev cX1_tick : ByteArray := prog_3_method_12_code
def yX1_tick : MethodName := ⟨RX1, "tick", "()I"⟩
abbrev cX1_sendFirst : ByteArray := prog_3_method_13_code
def yX1_sendFirst : MethodName := ⟨RX1, "sendFirst", "()I"⟩
abbrev cX1_isShorted : ByteArray := prog_3_method_14_code
def yX1_isShorted : MethodName := ⟨RX1, "isShorted", "(I)Z"⟩
abbrev cX1_locosIn : ByteArray := prog_3_method_15_code
def yX1_locosIn : MethodName := ⟨RX1, "locosIn", "(I)I"⟩
abbrev cX1_blocksWithShort : ByteArray := prog_3_method_16_code
def yX1_blocksWithShort : MethodName := ⟨RX1, "blocksWithShort", "()I"⟩
abbrev cX1_crowdedBlocks : ByteArray := prog_3_method_17_code
def yX1_crowdedBlocks : MethodName := ⟨RX1, "crowdedBlocks", "()I"⟩
abbrev cX1_speedSum : ByteArray := prog_3_method_18_code
def yX1_speedSum : MethodName := ⟨RX1, "speedSum", "()I"⟩
def RX2 : String := "LocoFrames$Loco"
def TX2 : u_T := fun k => match k with
  | 0 => ("LocoFrames$Loco", "address", "I", false)
  | 1 => ("LocoFrames$Loco", "mass", "I", false)
  | 2 => ("LocoFrames$Loco", "curve", "I", false)
  | 3 => ("LocoFrames$Loco", "place", "I", false)
  | 4 => ("LocoFrames$Loco", "tenths", "I", false)
  | 5 => ("LocoFrames$Loco", "speed", "I", false)
  | 6 => ("LocoFrames$Loco", "rounds", "I", false)
  | 7 => ("LocoFrames$Loco", "step", "I", false)
  | 8 => ("LocoFrames$Loco", "way", "I", false)
  | 9 => ("LocoFrames$Loco", "lights", "I", false)
  | _ => ("LocoFrames$Loco", "heard", "I", false)
def tyX2 : Nat → FieldType := fun k => match k with
  | 0 => .int
  | 1 => .int
  | 2 => .int
  | 3 => .int
  | 4 => .int
  | 5 => .int
  | 6 => .int
  | 7 => .int
  | 8 => .int
  | 9 => .int
  | _ => .int
abbrev wsX20 : List Cond := u_ws RX2 TX2 11
theorem nmX2 : ∀ a, a < 11 → ∀ b, b < 11 → a ≠ b → (TX2 a).2.1 ≠ (TX2 b).2.1 := by decide +kernel
theorem tyX2_ok : ∀ k, k < 11 → parseFieldDescriptor (TX2 k).2.2.1 = some (tyX2 k) := by decide +kernel
abbrev cX2_init : ByteArray := prog_4_method_1_code
def yX2_init : MethodName := ⟨RX2, "<init>", "()V"⟩
abbrev cX2_begin : ByteArray := prog_4_method_2_code
def yX2_begin : MethodName := ⟨RX2, "begin", "(IIII)V"⟩
abbrev cX2_copyFrom : ByteArray := prog_4_method_3_code
def yX2_copyFrom : MethodName := ⟨RX2, "copyFrom", "(LLocoFrames$Loco;)V"⟩
abbrev cX2_blockNumber : ByteArray := prog_4_method_4_code
def yX2_blockNumber : MethodName := ⟨RX2, "blockNumber", "()I"⟩
abbrev cX2_goal : ByteArray := prog_4_method_5_code
def yX2_goal : MethodName := ⟨RX2, "goal", "()I"⟩
abbrev cX2_mostGain : ByteArray := prog_4_method_6_code
def yX2_mostGain : MethodName := ⟨RX2, "mostGain", "()I"⟩
abbrev cX2_ticksToGoal : ByteArray := prog_4_method_7_code
def yX2_ticksToGoal : MethodName := ⟨RX2, "ticksToGoal", "()I"⟩
abbrev cX2_changeSpeed : ByteArray := prog_4_method_8_code
def yX2_changeSpeed : MethodName := ⟨RX2, "changeSpeed", "()V"⟩
abbrev cX2_roll : ByteArray := prog_4_method_9_code
def yX2_roll : MethodName := ⟨RX2, "roll", "()V"⟩
abbrev cX2_hear : ByteArray := prog_4_method_10_code
def yX2_hear : MethodName := ⟨RX2, "hear", "(I)V"⟩
abbrev cX2_told : ByteArray := prog_4_method_11_code
def yX2_told : MethodName := ⟨RX2, "told", "(I)I"⟩
def RX3 : String := "LocoFrames$Pad"
def TX3 : u_T := fun k => match k with
  | 0 => ("LocoFrames$Pad", "text", "[C", true)
  | 1 => ("LocoFrames$Pad", "length", "I", false)
  | 2 => ("LocoFrames$Pad", "at", "I", false)
  | 3 => ("LocoFrames$Pad", "kind", "I", false)
  | 4 => ("LocoFrames$Pad", "numbers", "[I", true)
  | _ => ("LocoFrames$Pad", "numbersRead", "I", false)
def tyX3 : Nat → FieldType := fun k => match k with
  | 0 => .array .char
  | 1 => .int
  | 2 => .int
  | 3 => .int
  | 4 => .array .int
  | _ => .int
abbrev wsX30 : List Cond := u_ws RX3 TX3 6
theorem nmX3 : ∀ a, a < 6 → ∀ b, b < 6 → a ≠ b → (TX3 a).2.1 ≠ (TX3 b).2.1 := by decide +kernel
theorem tyX3_ok : ∀ k, k < 6 → parseFieldDescriptor (TX3 k).2.2.1 = some (tyX3 k) := by decide +kernel
abbrev cX3_init : ByteArray := prog_5_method_1_code
def yX3_init : MethodName := ⟨RX3, "<init>", "()V"⟩
def RX4 : String := "LocoFrames$Station"
def TX4 : u_T := fun k => match k with
  | 0 => ("LocoFrames$Station", "addresses", "[I", true)
  | 1 => ("LocoFrames$Station", "data", "[I", true)
  | 2 => ("LocoFrames$Station", "urgencies", "[I", true)
  | _ => ("LocoFrames$Station", "held", "I", false)
def tyX4 : Nat → FieldType := fun k => match k with
  | 0 => .array .int
  | 1 => .array .int
  | 2 => .array .int
  | _ => .int
abbrev wsX40 : List Cond := u_ws RX4 TX4 4
theorem nmX4 : ∀ a, a < 4 → ∀ b, b < 4 → a ≠ b → (TX4 a).2.1 ≠ (TX4 b).2.1 := by decide +kernel
theorem tyX4_ok : ∀ k, k < 4 → parseFieldDescriptor (TX4 k).2.2.1 = some (tyX4 k) := by decide +kernel
abbrev cX4_init : ByteArray := prog_6_method_1_code
def yX4_init : MethodName := ⟨RX4, "<init>", "()V"⟩
abbrev cX4_copyFrom : ByteArray := prog_6_method_2_code
def yX4_copyFrom : MethodName := ⟨RX4, "copyFrom", "(LLocoFrames$Station;)V"⟩
abbrev cX4_take : ByteArray := prog_6_method_3_code
def yX4_take : MethodName := ⟨RX4, "take", "(III)I"⟩
abbrev cX4_setRow : ByteArray := prog_6_method_4_code
def yX4_setRow : MethodName := ⟨RX4, "setRow", "(IIII)V"⟩
abbrev cX4_dropFirst : ByteArray := prog_6_method_5_code
def yX4_dropFirst : MethodName := ⟨RX4, "dropFirst", "()V"⟩
abbrev cX4_told : ByteArray := prog_6_method_6_code
def yX4_told : MethodName := ⟨RX4, "told", "(II)I"⟩
def RX5 : String := "LocoFrames"
def TX5 : u_T := fun k => match k with
  | 0 => ("LocoFrames", "now", "LLocoFrames$Layout;", true)
  | 1 => ("LocoFrames", "foreseen", "LLocoFrames$Layout;", true)
  | 2 => ("LocoFrames", "history", "LLocoFrames$History;", true)
  | 3 => ("LocoFrames", "slots", "[LLocoFrames$Layout;", true)
  | 4 => ("LocoFrames", "saved", "[Z", true)
  | _ => ("LocoFrames", "pad", "LLocoFrames$Pad;", true)
def tyX5 : Nat → FieldType := fun k => match k with
  | 0 => .object "LocoFrames$Layout"
  | 1 => .object "LocoFrames$Layout"
  | 2 => .object "LocoFrames$History"
  | 3 => .array (.object "LocoFrames$Layout")
  | 4 => .array .boolean
  | _ => .object "LocoFrames$Pad"
abbrev wsX50 : List Cond := u_ws RX5 TX5 6
theorem nmX5 : ∀ a, a < 6 → ∀ b, b < 6 → a ≠ b → (TX5 a).2.1 ≠ (TX5 b).2.1 := by decide +kernel
theorem tyX5_ok : ∀ k, k < 6 → parseFieldDescriptor (TX5 k).2.2.1 = some (tyX5 k) := by decide +kernel
abbrev cX5_init : ByteArray := prog_1_method_1_code
def yX5_init : MethodName := ⟨RX5, "<init>", "()V"⟩
abbrev cX5_loco : ByteArray := prog_1_method_2_code
def yX5_loco : MethodName := ⟨RX5, "loco", "(IIII)I"⟩
abbrev cX5_lift : ByteArray := prog_1_method_3_code
def yX5_lift : MethodName := ⟨RX5, "lift", "(I)I"⟩
abbrev cX5_noise : ByteArray := prog_1_method_4_code
def yX5_noise : MethodName := ⟨RX5, "noise", "(I)I"⟩
abbrev cX5_order : ByteArray := prog_1_method_5_code
def yX5_order : MethodName := ⟨RX5, "order", "(III)I"⟩
abbrev cX5_frame : ByteArray := prog_1_method_6_code
def yX5_frame : MethodName := ⟨RX5, "frame", "(III)I"⟩
abbrev cX5_shorts : ByteArray := prog_1_method_7_code
def yX5_shorts : MethodName := ⟨RX5, "shorts", "(II)I"⟩
abbrev cX5_pass : ByteArray := prog_1_method_8_code
def yX5_pass : MethodName := ⟨RX5, "pass", "(I)I"⟩
abbrev cX5_of : ByteArray := prog_1_method_9_code
def yX5_of : MethodName := ⟨RX5, "of", "(II)I"⟩
abbrev cX5_address : ByteArray := prog_1_method_10_code
def yX5_address : MethodName := ⟨RX5, "address", "(I)I"⟩
abbrev cX5_waiting : ByteArray := prog_1_method_11_code
def yX5_waiting : MethodName := ⟨RX5, "waiting", "(II)I"⟩
abbrev cX5_block : ByteArray := prog_1_method_12_code
def yX5_block : MethodName := ⟨RX5, "block", "(II)I"⟩
abbrev cX5_count : ByteArray := prog_1_method_13_code
def yX5_count : MethodName := ⟨RX5, "count", "(I)I"⟩
abbrev cX5_reaches : ByteArray := prog_1_method_14_code
def yX5_reaches : MethodName := ⟨RX5, "reaches", "(II)I"⟩
abbrev cX5_settles : ByteArray := prog_1_method_15_code
def yX5_settles : MethodName := ⟨RX5, "settles", "(I)I"⟩
abbrev cX5_undo : ByteArray := prog_1_method_22_code
def yX5_undo : MethodName := ⟨RX5, "undo", "()I"⟩
abbrev cX5_save : ByteArray := prog_1_method_23_code
def yX5_save : MethodName := ⟨RX5, "save", "(I)I"⟩
abbrev cX5_restore : ByteArray := prog_1_method_24_code
def yX5_restore : MethodName := ⟨RX5, "restore", "(I)I"⟩
abbrev cX5_within : ByteArray := prog_1_method_26_code
def yX5_within : MethodName := ⟨RX5, "within", "(III)Z"⟩
abbrev cX5_isBlock : ByteArray := prog_1_method_27_code
def yX5_isBlock : MethodName := ⟨RX5, "isBlock", "(I)Z"⟩
abbrev cX5_curveSpeed : ByteArray := prog_1_method_28_code
def yX5_curveSpeed : MethodName := ⟨RX5, "curveSpeed", "(II)I"⟩
def RX6 : String := "LocoFramesModel"
def TX6 : u_T := fun k => match k with
  | _ => ("", "", "", false)
def tyX6 : Nat → FieldType := fun k => match k with
  | _ => .int
abbrev wsX60 : List Cond := u_ws RX6 TX6 0
theorem nmX6 : ∀ a, a < 0 → ∀ b, b < 0 → a ≠ b → (TX6 a).2.1 ≠ (TX6 b).2.1 := by decide +kernel
theorem tyX6_ok : ∀ k, k < 0 → parseFieldDescriptor (TX6 k).2.2.1 = some (tyX6 k) := by decide +kernel
def RJ9 : String := "java/lang/Math"
def TJ9 : u_T := fun k => match k with
  | _ => ("", "", "", false)
def tyJ9 : Nat → FieldType := fun k => match k with
  | _ => .int
abbrev wsJ90 : List Cond := u_ws RJ9 TJ9 0
theorem nmJ9 : ∀ a, a < 0 → ∀ b, b < 0 → a ≠ b → (TJ9 a).2.1 ≠ (TJ9 b).2.1 := by decide +kernel
theorem tyJ9_ok : ∀ k, k < 0 → parseFieldDescriptor (TJ9 k).2.2.1 = some (tyJ9 k) := by decide +kernel
abbrev cJ9_floorDiv_7cf53 : ByteArray := prog_9_method_47_code
def yJ9_floorDiv_7cf53 : MethodName := ⟨RJ9, "floorDiv", "(II)I"⟩
abbrev cJ9_floorMod_7cf53 : ByteArray := prog_9_method_50_code
def yJ9_floorMod_7cf53 : MethodName := ⟨RJ9, "floorMod", "(II)I"⟩
abbrev cJ9_abs_0f7a4 : ByteArray := prog_9_method_59_code
def yJ9_abs_0f7a4 : MethodName := ⟨RJ9, "abs", "(I)I"⟩
abbrev cJ9_max_7cf53 : ByteArray := prog_9_method_65_code
def yJ9_max_7cf53 : MethodName := ⟨RJ9, "max", "(II)I"⟩
abbrev cJ9_min_7cf53 : ByteArray := prog_9_method_69_code
def yJ9_min_7cf53 : MethodName := ⟨RJ9, "min", "(II)I"⟩
def RJ10 : String := "java/lang/System"
def TJ10 : u_T := fun k => match k with
  | _ => ("", "", "", false)
def tyJ10 : Nat → FieldType := fun k => match k with
  | _ => .int
abbrev wsJ100 : List Cond := u_ws RJ10 TJ10 0
theorem nmJ10 : ∀ a, a < 0 → ∀ b, b < 0 → a ≠ b → (TJ10 a).2.1 ≠ (TJ10 b).2.1 := by decide +kernel
theorem tyJ10_ok : ∀ k, k < 0 → parseFieldDescriptor (TJ10 k).2.2.1 = some (tyJ10 k) := by decide +kernel
def RL : String := "LocoFramesLaw"
abbrev cL_cell : ByteArray := method_2_code
def yL_cell : MethodName := ⟨RL, "cell", "([II)I"⟩
abbrev cL_low : ByteArray := method_3_code
def yL_low : MethodName := ⟨RL, "low", "(II)I"⟩
abbrev cL_told : ByteArray := method_4_code
def yL_told : MethodName := ⟨RL, "told", "(LLocoFrames;)J"⟩
abbrev cL_act : ByteArray := method_5_code
def yL_act : MethodName := ⟨RL, "act", "(LLocoFrames;II)I"⟩
abbrev cL_holds : ByteArray := method_6_code
def yL_holds : MethodName := ⟨RL, "holds", "(LLocoFrames;)Z"⟩
abbrev cL_goesBySpeed : ByteArray := method_7_code
def yL_goesBySpeed : MethodName := ⟨RL, "goesBySpeed", "(LLocoFrames;I)Z"⟩
abbrev cL_law : ByteArray := code
def yL_law : MethodName := ⟨RL, "law", "([I)Z"⟩
def wsL_cell : List Cond := .code yL_cell cL_cell 2 (some .int) :: ([])
def wsL_low : List Cond := .code yL_low cL_low 2 (some .int) :: ([.constant RL 7 (2147483647)])
def wsL_told_r1 : List Cond := [Cond.constantLong RL 8 (3), Cond.constantLong RL 10 (31), Cond.methodLink RL 12 yX5_count, Cond.instanceMethod yX5_count, Cond.selects RX5 yX5_count yX5_count, Cond.initialized RX5, Cond.code yX5_count cX5_count 2 (some .int), Cond.fieldLink RX5 12 "LocoFrames" "now" "LLocoFrames$Layout;", Cond.fieldLink RX5 108 "LocoFrames$Layout" "ticks" "I", Cond.fieldLink RX5 111 "LocoFrames$Layout" "locoCount" "I", Cond.fieldLink RX5 59 "LocoFrames$Layout" "station" "LLocoFrames$Station;", Cond.fieldLink RX5 114 "LocoFrames$Station" "held" "I", Cond.fieldLink RX5 117 "LocoFrames$Layout" "noiseTicks" "I", Cond.fieldLink RX5 120 "LocoFrames$Layout" "frames" "I", Cond.fieldLink RX5 123 "LocoFrames$Layout" "broken" "I", Cond.fieldLink RX5 126 "LocoFrames$Layout" "spoiled" "I", Cond.fieldLink RX5 37 "LocoFrames" "pad" "LLocoFrames$Pad;", Cond.fieldLink RX5 139 "LocoFrames$Pad" "length" "I", Cond.fieldLink RX5 22 "LocoFrames" "history" "LLocoFrames$History;", Cond.fieldLink RX5 142 "LocoFrames$History" "held" "I", Cond.methodLink RX5 129 yX1_blocksWithShort, Cond.instanceMethod yX1_blocksWithShort, Cond.selects RX1 yX1_blocksWithShort yX1_blocksWithShort, Cond.initialized RX1]
def wsL_told_r2 : List Cond := [Cond.code yX1_blocksWithShort cX1_blocksWithShort 3 (some .int), Cond.fieldLink RX1 24 "LocoFrames$Layout" "shortTicks" "[I", Cond.methodLink RX5 133 yX1_crowdedBlocks, Cond.instanceMethod yX1_crowdedBlocks, Cond.selects RX1 yX1_crowdedBlocks yX1_crowdedBlocks, Cond.code yX1_crowdedBlocks cX1_crowdedBlocks 3 (some .int), Cond.methodLink RX1 136 yX1_locosIn, Cond.instanceMethod yX1_locosIn, Cond.selects RX1 yX1_locosIn yX1_locosIn, Cond.code yX1_locosIn cX1_locosIn 4 (some .int), Cond.fieldLink RX1 29 "LocoFrames$Layout" "locoCount" "I", Cond.fieldLink RX1 11 "LocoFrames$Layout" "locos" "[LLocoFrames$Loco;", Cond.methodLink RX1 87 yX2_blockNumber, Cond.instanceMethod yX2_blockNumber, Cond.selects RX2 yX2_blockNumber yX2_blockNumber, Cond.initialized RX2, Cond.code yX2_blockNumber cX2_blockNumber 1 (some .int), Cond.fieldLink RX2 21 "LocoFrames$Loco" "place" "I", Cond.methodLink RX5 136 yX1_speedSum, Cond.instanceMethod yX1_speedSum, Cond.selects RX1 yX1_speedSum yX1_speedSum, Cond.code yX1_speedSum cX1_speedSum 3 (some .int), Cond.fieldLink RX1 105 "LocoFrames$Loco" "speed" "I", Cond.methodLink RL 18 yX5_address]
def wsL_told_r3 : List Cond := [Cond.instanceMethod yX5_address, Cond.selects RX5 yX5_address yX5_address, Cond.code yX5_address cX5_address 3 (some .int), Cond.fieldLink RX5 91 "LocoFrames$Loco" "address" "I", Cond.methodLink RX5 88 yX1_locoAt, Cond.instanceMethod yX1_locoAt, Cond.selects RX1 yX1_locoAt yX1_locoAt, Cond.code yX1_locoAt cX1_locoAt 2 (some (.object "LocoFrames$Loco")), Cond.static yX5_within, Cond.code yX5_within cX5_within 3 (some .boolean), Cond.methodLink RL 21 yX5_of, Cond.instanceMethod yX5_of, Cond.selects RX5 yX5_of yX5_of, Cond.code yX5_of cX5_of 4 (some .int), Cond.methodLink RX5 79 yX1_locoWith, Cond.instanceMethod yX1_locoWith, Cond.selects RX1 yX1_locoWith yX1_locoWith, Cond.code yX1_locoWith cX1_locoWith 2 (some (.object "LocoFrames$Loco")), Cond.methodLink RX1 68 yX1_rankOf, Cond.instanceMethod yX1_rankOf, Cond.selects RX1 yX1_rankOf yX1_rankOf, Cond.code yX1_rankOf cX1_rankOf 3 (some .int), Cond.fieldLink RX1 76 "LocoFrames$Loco" "address" "I", Cond.methodLink RX1 72 yX1_locoAt]
def wsL_told_r4 : List Cond := [Cond.methodLink RX5 83 yX2_told, Cond.instanceMethod yX2_told, Cond.selects RX2 yX2_told yX2_told, Cond.code yX2_told cX2_told 2 (some .int), Cond.fieldLink RX2 15 "LocoFrames$Loco" "mass" "I", Cond.fieldLink RX2 18 "LocoFrames$Loco" "curve" "I", Cond.fieldLink RX2 24 "LocoFrames$Loco" "tenths" "I", Cond.fieldLink RX2 27 "LocoFrames$Loco" "speed" "I", Cond.fieldLink RX2 33 "LocoFrames$Loco" "step" "I", Cond.fieldLink RX2 36 "LocoFrames$Loco" "way" "I", Cond.fieldLink RX2 39 "LocoFrames$Loco" "lights" "I", Cond.fieldLink RX2 42 "LocoFrames$Loco" "heard" "I", Cond.fieldLink RX2 30 "LocoFrames$Loco" "rounds" "I", Cond.methodLink RX2 53 yX2_goal, Cond.instanceMethod yX2_goal, Cond.selects RX2 yX2_goal yX2_goal, Cond.code yX2_goal cX2_goal 2 (some .int), Cond.static yX5_curveSpeed, Cond.code yX5_curveSpeed cX5_curveSpeed 3 (some .int), Cond.methodLink RX2 74 yX2_blockNumber, Cond.methodLink RL 25 yX5_waiting, Cond.instanceMethod yX5_waiting, Cond.selects RX5 yX5_waiting yX5_waiting, Cond.code yX5_waiting cX5_waiting 3 (some .int)]
def wsL_told_r5 : List Cond := [Cond.methodLink RX5 95 yX4_told, Cond.instanceMethod yX4_told, Cond.selects RX4 yX4_told yX4_told, Cond.initialized RX4, Cond.code yX4_told cX4_told 3 (some .int), Cond.fieldLink RX4 27 "LocoFrames$Station" "held" "I", Cond.fieldLink RX4 9 "LocoFrames$Station" "addresses" "[I", Cond.fieldLink RX4 15 "LocoFrames$Station" "data" "[I", Cond.fieldLink RX4 18 "LocoFrames$Station" "urgencies" "[I", Cond.methodLink RL 28 yX5_block, Cond.instanceMethod yX5_block, Cond.selects RX5 yX5_block yX5_block, Cond.code yX5_block cX5_block 3 (some .int), Cond.fieldLink RX5 101 "LocoFrames$Layout" "shortTicks" "[I", Cond.methodLink RX5 97 yX5_isBlock, Cond.static yX5_isBlock, Cond.code yX5_isBlock cX5_isBlock 1 (some .boolean), Cond.methodLink RX5 155 yX5_within, Cond.methodLink RX5 105 yX1_locosIn]
def wsL_told : List Cond := .code yL_told cL_told 6 (some .long) :: ((wsL_told_r1 ++ (wsL_told_r2 ++ (wsL_told_r3 ++ (wsL_told_r4 ++ wsL_told_r5)))) ++ wsX50 ++ wsX10 ++ wsX40 ++ wsX30 ++ wsX00 ++ wsX20)
def wsL_act_r1 : List Cond := [Cond.methodLink RL 31 yL_low, Cond.static yL_low, Cond.initialized RL, Cond.code yL_low cL_low 2 (some .int), Cond.constant RL 7 (2147483647), Cond.methodLink RL 36 yX5_loco, Cond.instanceMethod yX5_loco, Cond.selects RX5 yX5_loco yX5_loco, Cond.initialized RX5, Cond.code yX5_loco cX5_loco 5 (some .int), Cond.fieldLink RX5 22 "LocoFrames" "history" "LLocoFrames$History;", Cond.fieldLink RX5 12 "LocoFrames" "now" "LLocoFrames$Layout;", Cond.methodLink RX5 41 yX0_draft, Cond.instanceMethod yX0_draft, Cond.selects RX0 yX0_draft yX0_draft, Cond.initialized RX0, Cond.code yX0_draft cX0_draft 2 none, Cond.fieldLink RX0 11 "LocoFrames$History" "states" "[LLocoFrames$Layout;", Cond.fieldLink RX0 18 "LocoFrames$History" "first" "I", Cond.fieldLink RX0 22 "LocoFrames$History" "held" "I", Cond.methodLink RX0 25 yX1_copyFrom, Cond.instanceMethod yX1_copyFrom, Cond.selects RX1 yX1_copyFrom yX1_copyFrom, Cond.initialized RX1]
def wsL_act_r2 : List Cond := [Cond.code yX1_copyFrom cX1_copyFrom 3 none, Cond.fieldLink RX1 29 "LocoFrames$Layout" "locoCount" "I", Cond.fieldLink RX1 11 "LocoFrames$Layout" "locos" "[LLocoFrames$Loco;", Cond.fieldLink RX1 20 "LocoFrames$Layout" "station" "LLocoFrames$Station;", Cond.fieldLink RX1 24 "LocoFrames$Layout" "shortTicks" "[I", Cond.methodLink RX1 40 arraycopyName, Cond.native arraycopyName, Cond.static arraycopyName, Cond.initialized "java/lang/System", Cond.fieldLink RX1 46 "LocoFrames$Layout" "ticks" "I", Cond.fieldLink RX1 49 "LocoFrames$Layout" "noiseTicks" "I", Cond.fieldLink RX1 52 "LocoFrames$Layout" "spoiledAt" "I", Cond.fieldLink RX1 55 "LocoFrames$Layout" "frames" "I", Cond.fieldLink RX1 58 "LocoFrames$Layout" "broken" "I", Cond.fieldLink RX1 61 "LocoFrames$Layout" "spoiled" "I", Cond.methodLink RX1 33 yX2_copyFrom, Cond.instanceMethod yX2_copyFrom, Cond.selects RX2 yX2_copyFrom yX2_copyFrom, Cond.initialized RX2, Cond.code yX2_copyFrom cX2_copyFrom 2 none, Cond.fieldLink RX2 9 "LocoFrames$Loco" "address" "I", Cond.fieldLink RX2 15 "LocoFrames$Loco" "mass" "I", Cond.fieldLink RX2 18 "LocoFrames$Loco" "curve" "I", Cond.fieldLink RX2 21 "LocoFrames$Loco" "place" "I"]
def wsL_act_r3 : List Cond := [Cond.fieldLink RX2 24 "LocoFrames$Loco" "tenths" "I", Cond.fieldLink RX2 27 "LocoFrames$Loco" "speed" "I", Cond.fieldLink RX2 30 "LocoFrames$Loco" "rounds" "I", Cond.fieldLink RX2 33 "LocoFrames$Loco" "step" "I", Cond.fieldLink RX2 36 "LocoFrames$Loco" "way" "I", Cond.fieldLink RX2 39 "LocoFrames$Loco" "lights" "I", Cond.fieldLink RX2 42 "LocoFrames$Loco" "heard" "I", Cond.methodLink RX1 37 yX4_copyFrom, Cond.instanceMethod yX4_copyFrom, Cond.selects RX4 yX4_copyFrom yX4_copyFrom, Cond.initialized RX4, Cond.code yX4_copyFrom cX4_copyFrom 2 none, Cond.fieldLink RX4 9 "LocoFrames$Station" "addresses" "[I", Cond.methodLink RX4 21 arraycopyName, Cond.fieldLink RX4 15 "LocoFrames$Station" "data" "[I", Cond.fieldLink RX4 18 "LocoFrames$Station" "urgencies" "[I", Cond.fieldLink RX4 27 "LocoFrames$Station" "held" "I", Cond.methodLink RX5 45 yX1_addLoco, Cond.instanceMethod yX1_addLoco, Cond.selects RX1 yX1_addLoco yX1_addLoco, Cond.code yX1_addLoco cX1_addLoco 7 (some .int), Cond.fieldLink RX1 76 "LocoFrames$Loco" "address" "I", Cond.static yX5_within, Cond.code yX5_within cX5_within 3 (some .boolean)]
def wsL_act_r4 : List Cond := [Cond.methodLink RX1 68 yX1_rankOf, Cond.instanceMethod yX1_rankOf, Cond.selects RX1 yX1_rankOf yX1_rankOf, Cond.code yX1_rankOf cX1_rankOf 3 (some .int), Cond.methodLink RX1 79 yX2_begin, Cond.instanceMethod yX2_begin, Cond.selects RX2 yX2_begin yX2_begin, Cond.code yX2_begin cX2_begin 5 none, Cond.methodLink RX5 49 yX0_kept, Cond.instanceMethod yX0_kept, Cond.selects RX0 yX0_kept yX0_kept, Cond.code yX0_kept cX0_kept 2 (some .int), Cond.methodLink RL 40 yX5_lift, Cond.instanceMethod yX5_lift, Cond.selects RX5 yX5_lift yX5_lift, Cond.code yX5_lift cX5_lift 2 (some .int), Cond.methodLink RX5 53 yX1_removeLoco, Cond.instanceMethod yX1_removeLoco, Cond.selects RX1 yX1_removeLoco yX1_removeLoco, Cond.code yX1_removeLoco cX1_removeLoco 5 (some .int), Cond.methodLink RL 43 yX5_noise, Cond.instanceMethod yX5_noise, Cond.selects RX5 yX5_noise yX5_noise, Cond.code yX5_noise cX5_noise 2 (some .int)]
def wsL_act_r5 : List Cond := [Cond.methodLink RX5 56 yX1_changeNoise, Cond.instanceMethod yX1_changeNoise, Cond.selects RX1 yX1_changeNoise yX1_changeNoise, Cond.code yX1_changeNoise cX1_changeNoise 3 (some .int), Cond.methodLink RL 46 yX5_order, Cond.instanceMethod yX5_order, Cond.selects RX5 yX5_order yX5_order, Cond.code yX5_order cX5_order 4 (some .int), Cond.fieldLink RX5 59 "LocoFrames$Layout" "station" "LLocoFrames$Station;", Cond.methodLink RX5 63 yX4_take, Cond.instanceMethod yX4_take, Cond.selects RX4 yX4_take yX4_take, Cond.code yX4_take cX4_take 5 (some .int), Cond.methodLink RX4 35 yX4_setRow, Cond.instanceMethod yX4_setRow, Cond.selects RX4 yX4_setRow yX4_setRow, Cond.code yX4_setRow cX4_setRow 5 none, Cond.methodLink RL 50 yX5_frame, Cond.instanceMethod yX5_frame, Cond.selects RX5 yX5_frame yX5_frame, Cond.code yX5_frame cX5_frame 4 (some .int), Cond.methodLink RX5 69 yX1_takeFrame, Cond.instanceMethod yX1_takeFrame, Cond.selects RX1 yX1_takeFrame yX1_takeFrame]
def wsL_act_r6 : List Cond := [Cond.code yX1_takeFrame cX1_takeFrame 7 (some .int), Cond.methodLink RX1 87 yX2_blockNumber, Cond.instanceMethod yX2_blockNumber, Cond.selects RX2 yX2_blockNumber yX2_blockNumber, Cond.code yX2_blockNumber cX2_blockNumber 1 (some .int), Cond.methodLink RX1 91 yX1_isShorted, Cond.instanceMethod yX1_isShorted, Cond.selects RX1 yX1_isShorted yX1_isShorted, Cond.code yX1_isShorted cX1_isShorted 2 (some .boolean), Cond.methodLink RX1 94 yX2_hear, Cond.instanceMethod yX2_hear, Cond.selects RX2 yX2_hear yX2_hear, Cond.code yX2_hear cX2_hear 3 none, Cond.methodLink RL 53 yX5_shorts, Cond.instanceMethod yX5_shorts, Cond.selects RX5 yX5_shorts yX5_shorts, Cond.code yX5_shorts cX5_shorts 3 (some .int), Cond.methodLink RX5 72 yX1_changeShort, Cond.instanceMethod yX1_changeShort, Cond.selects RX1 yX1_changeShort yX1_changeShort, Cond.code yX1_changeShort cX1_changeShort 4 (some .int), Cond.static yX5_isBlock, Cond.code yX5_isBlock cX5_isBlock 1 (some .boolean), Cond.methodLink RX5 155 yX5_within]
def wsL_act_r7 : List Cond := [Cond.methodLink RL 56 yX5_restore, Cond.instanceMethod yX5_restore, Cond.selects RX5 yX5_restore yX5_restore, Cond.code yX5_restore cX5_restore 2 (some .int), Cond.fieldLink RX5 30 "LocoFrames" "saved" "[Z", Cond.fieldLink RX5 26 "LocoFrames" "slots" "[LLocoFrames$Layout;", Cond.fieldLink RX5 111 "LocoFrames$Layout" "locoCount" "I", Cond.methodLink RX5 143 yX1_copyFrom, Cond.methodLink RL 59 yX5_pass, Cond.instanceMethod yX5_pass, Cond.selects RX5 yX5_pass yX5_pass, Cond.code yX5_pass cX5_pass 2 (some .int), Cond.methodLink RX5 76 yX1_takeTicks, Cond.instanceMethod yX1_takeTicks, Cond.selects RX1 yX1_takeTicks yX1_takeTicks, Cond.code yX1_takeTicks cX1_takeTicks 4 (some .int), Cond.constant RX1 98 (99999), Cond.methodLink RX1 99 yX1_tick, Cond.instanceMethod yX1_tick, Cond.selects RX1 yX1_tick yX1_tick, Cond.code yX1_tick cX1_tick 4 (some .int), Cond.fieldLink RX1 105 "LocoFrames$Loco" "speed" "I", Cond.methodLink RX1 114 Lib.Math.max.name, Cond.static Lib.Math.max.name]
def wsL_act_r8 : List Cond := [Cond.initialized "java/lang/Math", Cond.code Lib.Math.max.name Lib.Math.max.code 2 (some .int), Cond.methodLink RX1 102 yX1_sendFirst, Cond.instanceMethod yX1_sendFirst, Cond.selects RX1 yX1_sendFirst yX1_sendFirst, Cond.code yX1_sendFirst cX1_sendFirst 4 (some .int), Cond.fieldLink RX1 120 "LocoFrames$Station" "held" "I", Cond.fieldLink RX1 123 "LocoFrames$Station" "addresses" "[I", Cond.fieldLink RX1 126 "LocoFrames$Station" "data" "[I", Cond.methodLink RX1 129 yX4_dropFirst, Cond.instanceMethod yX4_dropFirst, Cond.selects RX4 yX4_dropFirst yX4_dropFirst, Cond.code yX4_dropFirst cX4_dropFirst 2 none, Cond.methodLink RX4 39 Lib.Math.max.name, Cond.methodLink RX1 132 yX1_takeFrame, Cond.methodLink RX1 108 yX2_changeSpeed, Cond.instanceMethod yX2_changeSpeed, Cond.selects RX2 yX2_changeSpeed yX2_changeSpeed, Cond.code yX2_changeSpeed cX2_changeSpeed 2 none, Cond.methodLink RX2 62 Lib.Math.min.name, Cond.static Lib.Math.min.name, Cond.code Lib.Math.min.name Lib.Math.min.code 2 (some .int), Cond.methodLink RX2 65 Lib.Math.max.name, Cond.methodLink RX2 49 yX2_mostGain]
def wsL_act_r9 : List Cond := [Cond.instanceMethod yX2_mostGain, Cond.selects RX2 yX2_mostGain yX2_mostGain, Cond.code yX2_mostGain cX2_mostGain 1 (some .int), Cond.methodLink RX2 53 yX2_goal, Cond.instanceMethod yX2_goal, Cond.selects RX2 yX2_goal yX2_goal, Cond.code yX2_goal cX2_goal 2 (some .int), Cond.static yX5_curveSpeed, Cond.code yX5_curveSpeed cX5_curveSpeed 3 (some .int), Cond.methodLink RX1 111 yX2_roll, Cond.instanceMethod yX2_roll, Cond.selects RX2 yX2_roll yX2_roll, Cond.code yX2_roll cX2_roll 3 none, Cond.methodLink RX2 68 yJ9_floorDiv_7cf53, Cond.static yJ9_floorDiv_7cf53, Cond.initialized RJ9, Cond.code yJ9_floorDiv_7cf53 cJ9_floorDiv_7cf53 3 (some .int), Cond.methodLink RX2 71 yJ9_floorMod_7cf53, Cond.static yJ9_floorMod_7cf53, Cond.code yJ9_floorMod_7cf53 cJ9_floorMod_7cf53 3 (some .int)]
def wsL_act : List Cond := .code yL_act cL_act 5 (some .int) :: ((wsL_act_r1 ++ (wsL_act_r2 ++ (wsL_act_r3 ++ (wsL_act_r4 ++ (wsL_act_r5 ++ (wsL_act_r6 ++ (wsL_act_r7 ++ (wsL_act_r8 ++ wsL_act_r9)))))))) ++ wsX50 ++ wsX00 ++ wsX10 ++ wsX20 ++ wsX40)
def wsL_holds_r1 : List Cond := [Cond.methodLink RL 12 yX5_count, Cond.instanceMethod yX5_count, Cond.selects RX5 yX5_count yX5_count, Cond.initialized RX5, Cond.code yX5_count cX5_count 2 (some .int), Cond.fieldLink RX5 12 "LocoFrames" "now" "LLocoFrames$Layout;", Cond.fieldLink RX5 108 "LocoFrames$Layout" "ticks" "I", Cond.fieldLink RX5 111 "LocoFrames$Layout" "locoCount" "I", Cond.fieldLink RX5 59 "LocoFrames$Layout" "station" "LLocoFrames$Station;", Cond.fieldLink RX5 114 "LocoFrames$Station" "held" "I", Cond.fieldLink RX5 117 "LocoFrames$Layout" "noiseTicks" "I", Cond.fieldLink RX5 120 "LocoFrames$Layout" "frames" "I", Cond.fieldLink RX5 123 "LocoFrames$Layout" "broken" "I", Cond.fieldLink RX5 126 "LocoFrames$Layout" "spoiled" "I", Cond.fieldLink RX5 37 "LocoFrames" "pad" "LLocoFrames$Pad;", Cond.fieldLink RX5 139 "LocoFrames$Pad" "length" "I", Cond.fieldLink RX5 22 "LocoFrames" "history" "LLocoFrames$History;", Cond.fieldLink RX5 142 "LocoFrames$History" "held" "I", Cond.methodLink RX5 129 yX1_blocksWithShort, Cond.instanceMethod yX1_blocksWithShort, Cond.selects RX1 yX1_blocksWithShort yX1_blocksWithShort, Cond.initialized RX1, Cond.code yX1_blocksWithShort cX1_blocksWithShort 3 (some .int), Cond.fieldLink RX1 24 "LocoFrames$Layout" "shortTicks" "[I"]
def wsL_holds_r2 : List Cond := [Cond.methodLink RX5 133 yX1_crowdedBlocks, Cond.instanceMethod yX1_crowdedBlocks, Cond.selects RX1 yX1_crowdedBlocks yX1_crowdedBlocks, Cond.code yX1_crowdedBlocks cX1_crowdedBlocks 3 (some .int), Cond.methodLink RX1 136 yX1_locosIn, Cond.instanceMethod yX1_locosIn, Cond.selects RX1 yX1_locosIn yX1_locosIn, Cond.code yX1_locosIn cX1_locosIn 4 (some .int), Cond.fieldLink RX1 29 "LocoFrames$Layout" "locoCount" "I", Cond.fieldLink RX1 11 "LocoFrames$Layout" "locos" "[LLocoFrames$Loco;", Cond.methodLink RX1 87 yX2_blockNumber, Cond.instanceMethod yX2_blockNumber, Cond.selects RX2 yX2_blockNumber yX2_blockNumber, Cond.initialized RX2, Cond.code yX2_blockNumber cX2_blockNumber 1 (some .int), Cond.fieldLink RX2 21 "LocoFrames$Loco" "place" "I", Cond.methodLink RX5 136 yX1_speedSum, Cond.instanceMethod yX1_speedSum, Cond.selects RX1 yX1_speedSum yX1_speedSum, Cond.code yX1_speedSum cX1_speedSum 3 (some .int), Cond.fieldLink RX1 105 "LocoFrames$Loco" "speed" "I", Cond.methodLink RL 18 yX5_address, Cond.instanceMethod yX5_address, Cond.selects RX5 yX5_address yX5_address]
def wsL_holds_r3 : List Cond := [Cond.code yX5_address cX5_address 3 (some .int), Cond.fieldLink RX5 91 "LocoFrames$Loco" "address" "I", Cond.methodLink RX5 88 yX1_locoAt, Cond.instanceMethod yX1_locoAt, Cond.selects RX1 yX1_locoAt yX1_locoAt, Cond.code yX1_locoAt cX1_locoAt 2 (some (.object "LocoFrames$Loco")), Cond.static yX5_within, Cond.code yX5_within cX5_within 3 (some .boolean), Cond.methodLink RL 21 yX5_of, Cond.instanceMethod yX5_of, Cond.selects RX5 yX5_of yX5_of, Cond.code yX5_of cX5_of 4 (some .int), Cond.methodLink RX5 79 yX1_locoWith, Cond.instanceMethod yX1_locoWith, Cond.selects RX1 yX1_locoWith yX1_locoWith, Cond.code yX1_locoWith cX1_locoWith 2 (some (.object "LocoFrames$Loco")), Cond.methodLink RX1 68 yX1_rankOf, Cond.instanceMethod yX1_rankOf, Cond.selects RX1 yX1_rankOf yX1_rankOf, Cond.code yX1_rankOf cX1_rankOf 3 (some .int), Cond.fieldLink RX1 76 "LocoFrames$Loco" "address" "I", Cond.methodLink RX1 72 yX1_locoAt, Cond.methodLink RX5 83 yX2_told, Cond.instanceMethod yX2_told]
def wsL_holds_r4 : List Cond := [Cond.selects RX2 yX2_told yX2_told, Cond.code yX2_told cX2_told 2 (some .int), Cond.fieldLink RX2 15 "LocoFrames$Loco" "mass" "I", Cond.fieldLink RX2 18 "LocoFrames$Loco" "curve" "I", Cond.fieldLink RX2 24 "LocoFrames$Loco" "tenths" "I", Cond.fieldLink RX2 27 "LocoFrames$Loco" "speed" "I", Cond.fieldLink RX2 33 "LocoFrames$Loco" "step" "I", Cond.fieldLink RX2 36 "LocoFrames$Loco" "way" "I", Cond.fieldLink RX2 39 "LocoFrames$Loco" "lights" "I", Cond.fieldLink RX2 42 "LocoFrames$Loco" "heard" "I", Cond.fieldLink RX2 30 "LocoFrames$Loco" "rounds" "I", Cond.methodLink RX2 53 yX2_goal, Cond.instanceMethod yX2_goal, Cond.selects RX2 yX2_goal yX2_goal, Cond.code yX2_goal cX2_goal 2 (some .int), Cond.static yX5_curveSpeed, Cond.code yX5_curveSpeed cX5_curveSpeed 3 (some .int), Cond.methodLink RX2 74 yX2_blockNumber, Cond.methodLink RL 62 yX5_settles, Cond.instanceMethod yX5_settles, Cond.selects RX5 yX5_settles yX5_settles, Cond.code yX5_settles cX5_settles 3 (some .int), Cond.methodLink RX5 152 yX2_ticksToGoal, Cond.instanceMethod yX2_ticksToGoal]
def wsL_holds_r5 : List Cond := [Cond.selects RX2 yX2_ticksToGoal yX2_ticksToGoal, Cond.code yX2_ticksToGoal cX2_ticksToGoal 3 (some .int), Cond.methodLink RX2 56 Lib.Math.abs.name, Cond.static Lib.Math.abs.name, Cond.initialized "java/lang/Math", Cond.code Lib.Math.abs.name Lib.Math.abs.code 1 (some .int), Cond.methodLink RX2 49 yX2_mostGain, Cond.instanceMethod yX2_mostGain, Cond.selects RX2 yX2_mostGain yX2_mostGain, Cond.code yX2_mostGain cX2_mostGain 1 (some .int), Cond.methodLink RL 65 yX5_reaches, Cond.instanceMethod yX5_reaches, Cond.selects RX5 yX5_reaches yX5_reaches, Cond.code yX5_reaches cX5_reaches 5 (some .int), Cond.fieldLink RX5 16 "LocoFrames" "foreseen" "LLocoFrames$Layout;", Cond.methodLink RX5 143 yX1_copyFrom, Cond.instanceMethod yX1_copyFrom, Cond.selects RX1 yX1_copyFrom yX1_copyFrom, Cond.code yX1_copyFrom cX1_copyFrom 3 none, Cond.fieldLink RX1 20 "LocoFrames$Layout" "station" "LLocoFrames$Station;", Cond.methodLink RX1 40 arraycopyName, Cond.native arraycopyName, Cond.static arraycopyName, Cond.initialized "java/lang/System"]
def wsL_holds_r6 : List Cond := [Cond.fieldLink RX1 46 "LocoFrames$Layout" "ticks" "I", Cond.fieldLink RX1 49 "LocoFrames$Layout" "noiseTicks" "I", Cond.fieldLink RX1 52 "LocoFrames$Layout" "spoiledAt" "I", Cond.fieldLink RX1 55 "LocoFrames$Layout" "frames" "I", Cond.fieldLink RX1 58 "LocoFrames$Layout" "broken" "I", Cond.fieldLink RX1 61 "LocoFrames$Layout" "spoiled" "I", Cond.methodLink RX1 33 yX2_copyFrom, Cond.instanceMethod yX2_copyFrom, Cond.selects RX2 yX2_copyFrom yX2_copyFrom, Cond.code yX2_copyFrom cX2_copyFrom 2 none, Cond.fieldLink RX2 9 "LocoFrames$Loco" "address" "I", Cond.methodLink RX1 37 yX4_copyFrom, Cond.instanceMethod yX4_copyFrom, Cond.selects RX4 yX4_copyFrom yX4_copyFrom, Cond.initialized RX4, Cond.code yX4_copyFrom cX4_copyFrom 2 none, Cond.fieldLink RX4 9 "LocoFrames$Station" "addresses" "[I", Cond.methodLink RX4 21 arraycopyName, Cond.fieldLink RX4 15 "LocoFrames$Station" "data" "[I", Cond.fieldLink RX4 18 "LocoFrames$Station" "urgencies" "[I", Cond.fieldLink RX4 27 "LocoFrames$Station" "held" "I", Cond.methodLink RX5 97 yX5_isBlock, Cond.static yX5_isBlock, Cond.code yX5_isBlock cX5_isBlock 1 (some .boolean)]
def wsL_holds_r7 : List Cond := [Cond.methodLink RX5 155 yX5_within, Cond.methodLink RX5 146 yX2_blockNumber, Cond.methodLink RX5 149 yX1_tick, Cond.instanceMethod yX1_tick, Cond.selects RX1 yX1_tick yX1_tick, Cond.code yX1_tick cX1_tick 4 (some .int), Cond.methodLink RX1 114 Lib.Math.max.name, Cond.static Lib.Math.max.name, Cond.code Lib.Math.max.name Lib.Math.max.code 2 (some .int), Cond.methodLink RX1 102 yX1_sendFirst, Cond.instanceMethod yX1_sendFirst, Cond.selects RX1 yX1_sendFirst yX1_sendFirst, Cond.code yX1_sendFirst cX1_sendFirst 4 (some .int), Cond.fieldLink RX1 120 "LocoFrames$Station" "held" "I", Cond.fieldLink RX1 123 "LocoFrames$Station" "addresses" "[I", Cond.fieldLink RX1 126 "LocoFrames$Station" "data" "[I", Cond.methodLink RX1 129 yX4_dropFirst, Cond.instanceMethod yX4_dropFirst, Cond.selects RX4 yX4_dropFirst yX4_dropFirst, Cond.code yX4_dropFirst cX4_dropFirst 2 none, Cond.methodLink RX4 39 Lib.Math.max.name, Cond.methodLink RX4 35 yX4_setRow, Cond.instanceMethod yX4_setRow, Cond.selects RX4 yX4_setRow yX4_setRow]
def wsL_holds_r8 : List Cond := [Cond.code yX4_setRow cX4_setRow 5 none, Cond.methodLink RX1 132 yX1_takeFrame, Cond.instanceMethod yX1_takeFrame, Cond.selects RX1 yX1_takeFrame yX1_takeFrame, Cond.code yX1_takeFrame cX1_takeFrame 7 (some .int), Cond.methodLink RX1 91 yX1_isShorted, Cond.instanceMethod yX1_isShorted, Cond.selects RX1 yX1_isShorted yX1_isShorted, Cond.code yX1_isShorted cX1_isShorted 2 (some .boolean), Cond.methodLink RX1 94 yX2_hear, Cond.instanceMethod yX2_hear, Cond.selects RX2 yX2_hear yX2_hear, Cond.code yX2_hear cX2_hear 3 none, Cond.methodLink RX1 108 yX2_changeSpeed, Cond.instanceMethod yX2_changeSpeed, Cond.selects RX2 yX2_changeSpeed yX2_changeSpeed, Cond.code yX2_changeSpeed cX2_changeSpeed 2 none, Cond.methodLink RX2 62 Lib.Math.min.name, Cond.static Lib.Math.min.name, Cond.code Lib.Math.min.name Lib.Math.min.code 2 (some .int), Cond.methodLink RX2 65 Lib.Math.max.name, Cond.methodLink RX1 111 yX2_roll, Cond.instanceMethod yX2_roll, Cond.selects RX2 yX2_roll yX2_roll]
def wsL_holds_r9 : List Cond := [Cond.code yX2_roll cX2_roll 3 none, Cond.methodLink RX2 68 yJ9_floorDiv_7cf53, Cond.static yJ9_floorDiv_7cf53, Cond.initialized RJ9, Cond.code yJ9_floorDiv_7cf53 cJ9_floorDiv_7cf53 3 (some .int), Cond.methodLink RX2 71 yJ9_floorMod_7cf53, Cond.static yJ9_floorMod_7cf53, Cond.code yJ9_floorMod_7cf53 cJ9_floorMod_7cf53 3 (some .int), Cond.methodLink RL 28 yX5_block, Cond.instanceMethod yX5_block, Cond.selects RX5 yX5_block yX5_block, Cond.code yX5_block cX5_block 3 (some .int), Cond.fieldLink RX5 101 "LocoFrames$Layout" "shortTicks" "[I", Cond.methodLink RX5 105 yX1_locosIn, Cond.methodLink RL 25 yX5_waiting, Cond.instanceMethod yX5_waiting, Cond.selects RX5 yX5_waiting yX5_waiting, Cond.code yX5_waiting cX5_waiting 3 (some .int), Cond.methodLink RX5 95 yX4_told, Cond.instanceMethod yX4_told, Cond.selects RX4 yX4_told yX4_told, Cond.code yX4_told cX4_told 3 (some .int)]
def wsL_holds : List Cond := .code yL_holds cL_holds 11 (some .boolean) :: ((wsL_holds_r1 ++ (wsL_holds_r2 ++ (wsL_holds_r3 ++ (wsL_holds_r4 ++ (wsL_holds_r5 ++ (wsL_holds_r6 ++ (wsL_holds_r7 ++ (wsL_holds_r8 ++ wsL_holds_r9)))))))) ++ wsX50 ++ wsX10 ++ wsX40 ++ wsX30 ++ wsX00 ++ wsX20)
def wsL_goesBySpeed_r1 : List Cond := [Cond.methodLink RL 21 yX5_of, Cond.instanceMethod yX5_of, Cond.selects RX5 yX5_of yX5_of, Cond.initialized RX5, Cond.code yX5_of cX5_of 4 (some .int), Cond.fieldLink RX5 12 "LocoFrames" "now" "LLocoFrames$Layout;", Cond.methodLink RX5 79 yX1_locoWith, Cond.instanceMethod yX1_locoWith, Cond.selects RX1 yX1_locoWith yX1_locoWith, Cond.initialized RX1, Cond.code yX1_locoWith cX1_locoWith 2 (some (.object "LocoFrames$Loco")), Cond.methodLink RX1 68 yX1_rankOf, Cond.instanceMethod yX1_rankOf, Cond.selects RX1 yX1_rankOf yX1_rankOf, Cond.code yX1_rankOf cX1_rankOf 3 (some .int), Cond.fieldLink RX1 29 "LocoFrames$Layout" "locoCount" "I", Cond.fieldLink RX1 11 "LocoFrames$Layout" "locos" "[LLocoFrames$Loco;", Cond.fieldLink RX1 76 "LocoFrames$Loco" "address" "I", Cond.methodLink RX1 72 yX1_locoAt, Cond.instanceMethod yX1_locoAt, Cond.selects RX1 yX1_locoAt yX1_locoAt, Cond.code yX1_locoAt cX1_locoAt 2 (some (.object "LocoFrames$Loco")), Cond.static yX5_within, Cond.code yX5_within cX5_within 3 (some .boolean)]
def wsL_goesBySpeed_r2 : List Cond := [Cond.methodLink RX5 83 yX2_told, Cond.instanceMethod yX2_told, Cond.selects RX2 yX2_told yX2_told, Cond.initialized RX2, Cond.code yX2_told cX2_told 2 (some .int), Cond.fieldLink RX2 15 "LocoFrames$Loco" "mass" "I", Cond.fieldLink RX2 18 "LocoFrames$Loco" "curve" "I", Cond.fieldLink RX2 21 "LocoFrames$Loco" "place" "I", Cond.fieldLink RX2 24 "LocoFrames$Loco" "tenths" "I", Cond.fieldLink RX2 27 "LocoFrames$Loco" "speed" "I", Cond.fieldLink RX2 33 "LocoFrames$Loco" "step" "I", Cond.fieldLink RX2 36 "LocoFrames$Loco" "way" "I", Cond.fieldLink RX2 39 "LocoFrames$Loco" "lights" "I", Cond.fieldLink RX2 42 "LocoFrames$Loco" "heard" "I", Cond.fieldLink RX2 30 "LocoFrames$Loco" "rounds" "I", Cond.methodLink RX2 53 yX2_goal, Cond.instanceMethod yX2_goal, Cond.selects RX2 yX2_goal yX2_goal, Cond.code yX2_goal cX2_goal 2 (some .int), Cond.static yX5_curveSpeed, Cond.code yX5_curveSpeed cX5_curveSpeed 3 (some .int), Cond.methodLink RX2 74 yX2_blockNumber, Cond.instanceMethod yX2_blockNumber, Cond.selects RX2 yX2_blockNumber yX2_blockNumber]
def wsL_goesBySpeed_r3 : List Cond := [Cond.code yX2_blockNumber cX2_blockNumber 1 (some .int), Cond.methodLink RL 28 yX5_block, Cond.instanceMethod yX5_block, Cond.selects RX5 yX5_block yX5_block, Cond.code yX5_block cX5_block 3 (some .int), Cond.fieldLink RX5 101 "LocoFrames$Layout" "shortTicks" "[I", Cond.methodLink RX5 97 yX5_isBlock, Cond.static yX5_isBlock, Cond.code yX5_isBlock cX5_isBlock 1 (some .boolean), Cond.methodLink RX5 155 yX5_within, Cond.methodLink RX5 105 yX1_locosIn, Cond.instanceMethod yX1_locosIn, Cond.selects RX1 yX1_locosIn yX1_locosIn, Cond.code yX1_locosIn cX1_locosIn 4 (some .int), Cond.methodLink RX1 87 yX2_blockNumber, Cond.methodLink RL 12 yX5_count, Cond.instanceMethod yX5_count, Cond.selects RX5 yX5_count yX5_count, Cond.code yX5_count cX5_count 2 (some .int), Cond.fieldLink RX5 108 "LocoFrames$Layout" "ticks" "I", Cond.fieldLink RX5 111 "LocoFrames$Layout" "locoCount" "I", Cond.fieldLink RX5 59 "LocoFrames$Layout" "station" "LLocoFrames$Station;", Cond.fieldLink RX5 114 "LocoFrames$Station" "held" "I", Cond.fieldLink RX5 117 "LocoFrames$Layout" "noiseTicks" "I"]
def wsL_goesBySpeed_r4 : List Cond := [Cond.fieldLink RX5 120 "LocoFrames$Layout" "frames" "I", Cond.fieldLink RX5 123 "LocoFrames$Layout" "broken" "I", Cond.fieldLink RX5 126 "LocoFrames$Layout" "spoiled" "I", Cond.fieldLink RX5 37 "LocoFrames" "pad" "LLocoFrames$Pad;", Cond.fieldLink RX5 139 "LocoFrames$Pad" "length" "I", Cond.fieldLink RX5 22 "LocoFrames" "history" "LLocoFrames$History;", Cond.fieldLink RX5 142 "LocoFrames$History" "held" "I", Cond.methodLink RX5 129 yX1_blocksWithShort, Cond.instanceMethod yX1_blocksWithShort, Cond.selects RX1 yX1_blocksWithShort yX1_blocksWithShort, Cond.code yX1_blocksWithShort cX1_blocksWithShort 3 (some .int), Cond.fieldLink RX1 24 "LocoFrames$Layout" "shortTicks" "[I", Cond.methodLink RX5 133 yX1_crowdedBlocks, Cond.instanceMethod yX1_crowdedBlocks, Cond.selects RX1 yX1_crowdedBlocks yX1_crowdedBlocks, Cond.code yX1_crowdedBlocks cX1_crowdedBlocks 3 (some .int), Cond.methodLink RX1 136 yX1_locosIn, Cond.methodLink RX5 136 yX1_speedSum, Cond.instanceMethod yX1_speedSum, Cond.selects RX1 yX1_speedSum yX1_speedSum, Cond.code yX1_speedSum cX1_speedSum 3 (some .int), Cond.fieldLink RX1 105 "LocoFrames$Loco" "speed" "I", Cond.methodLink RL 59 yX5_pass, Cond.instanceMethod yX5_pass]
def wsL_goesBySpeed_r5 : List Cond := [Cond.selects RX5 yX5_pass yX5_pass, Cond.code yX5_pass cX5_pass 2 (some .int), Cond.methodLink RX5 41 yX0_draft, Cond.instanceMethod yX0_draft, Cond.selects RX0 yX0_draft yX0_draft, Cond.initialized RX0, Cond.code yX0_draft cX0_draft 2 none, Cond.fieldLink RX0 11 "LocoFrames$History" "states" "[LLocoFrames$Layout;", Cond.fieldLink RX0 18 "LocoFrames$History" "first" "I", Cond.fieldLink RX0 22 "LocoFrames$History" "held" "I", Cond.methodLink RX0 25 yX1_copyFrom, Cond.instanceMethod yX1_copyFrom, Cond.selects RX1 yX1_copyFrom yX1_copyFrom, Cond.code yX1_copyFrom cX1_copyFrom 3 none, Cond.fieldLink RX1 20 "LocoFrames$Layout" "station" "LLocoFrames$Station;", Cond.methodLink RX1 40 arraycopyName, Cond.native arraycopyName, Cond.static arraycopyName, Cond.initialized "java/lang/System", Cond.fieldLink RX1 46 "LocoFrames$Layout" "ticks" "I", Cond.fieldLink RX1 49 "LocoFrames$Layout" "noiseTicks" "I", Cond.fieldLink RX1 52 "LocoFrames$Layout" "spoiledAt" "I", Cond.fieldLink RX1 55 "LocoFrames$Layout" "frames" "I", Cond.fieldLink RX1 58 "LocoFrames$Layout" "broken" "I"]
def wsL_goesBySpeed_r6 : List Cond := [Cond.fieldLink RX1 61 "LocoFrames$Layout" "spoiled" "I", Cond.methodLink RX1 33 yX2_copyFrom, Cond.instanceMethod yX2_copyFrom, Cond.selects RX2 yX2_copyFrom yX2_copyFrom, Cond.code yX2_copyFrom cX2_copyFrom 2 none, Cond.fieldLink RX2 9 "LocoFrames$Loco" "address" "I", Cond.methodLink RX1 37 yX4_copyFrom, Cond.instanceMethod yX4_copyFrom, Cond.selects RX4 yX4_copyFrom yX4_copyFrom, Cond.initialized RX4, Cond.code yX4_copyFrom cX4_copyFrom 2 none, Cond.fieldLink RX4 9 "LocoFrames$Station" "addresses" "[I", Cond.methodLink RX4 21 arraycopyName, Cond.fieldLink RX4 15 "LocoFrames$Station" "data" "[I", Cond.fieldLink RX4 18 "LocoFrames$Station" "urgencies" "[I", Cond.fieldLink RX4 27 "LocoFrames$Station" "held" "I", Cond.methodLink RX5 76 yX1_takeTicks, Cond.instanceMethod yX1_takeTicks, Cond.selects RX1 yX1_takeTicks yX1_takeTicks, Cond.code yX1_takeTicks cX1_takeTicks 4 (some .int), Cond.constant RX1 98 (99999), Cond.methodLink RX1 99 yX1_tick, Cond.instanceMethod yX1_tick, Cond.selects RX1 yX1_tick yX1_tick]
def wsL_goesBySpeed_r7 : List Cond := [Cond.code yX1_tick cX1_tick 4 (some .int), Cond.methodLink RX1 114 Lib.Math.max.name, Cond.static Lib.Math.max.name, Cond.initialized "java/lang/Math", Cond.code Lib.Math.max.name Lib.Math.max.code 2 (some .int), Cond.methodLink RX1 102 yX1_sendFirst, Cond.instanceMethod yX1_sendFirst, Cond.selects RX1 yX1_sendFirst yX1_sendFirst, Cond.code yX1_sendFirst cX1_sendFirst 4 (some .int), Cond.fieldLink RX1 120 "LocoFrames$Station" "held" "I", Cond.fieldLink RX1 123 "LocoFrames$Station" "addresses" "[I", Cond.fieldLink RX1 126 "LocoFrames$Station" "data" "[I", Cond.methodLink RX1 129 yX4_dropFirst, Cond.instanceMethod yX4_dropFirst, Cond.selects RX4 yX4_dropFirst yX4_dropFirst, Cond.code yX4_dropFirst cX4_dropFirst 2 none, Cond.methodLink RX4 39 Lib.Math.max.name, Cond.methodLink RX4 35 yX4_setRow, Cond.instanceMethod yX4_setRow, Cond.selects RX4 yX4_setRow yX4_setRow, Cond.code yX4_setRow cX4_setRow 5 none, Cond.methodLink RX1 132 yX1_takeFrame, Cond.instanceMethod yX1_takeFrame, Cond.selects RX1 yX1_takeFrame yX1_takeFrame]
def wsL_goesBySpeed_r8 : List Cond := [Cond.code yX1_takeFrame cX1_takeFrame 7 (some .int), Cond.methodLink RX1 91 yX1_isShorted, Cond.instanceMethod yX1_isShorted, Cond.selects RX1 yX1_isShorted yX1_isShorted, Cond.code yX1_isShorted cX1_isShorted 2 (some .boolean), Cond.methodLink RX1 94 yX2_hear, Cond.instanceMethod yX2_hear, Cond.selects RX2 yX2_hear yX2_hear, Cond.code yX2_hear cX2_hear 3 none, Cond.methodLink RX1 108 yX2_changeSpeed, Cond.instanceMethod yX2_changeSpeed, Cond.selects RX2 yX2_changeSpeed yX2_changeSpeed, Cond.code yX2_changeSpeed cX2_changeSpeed 2 none, Cond.methodLink RX2 62 Lib.Math.min.name, Cond.static Lib.Math.min.name, Cond.code Lib.Math.min.name Lib.Math.min.code 2 (some .int), Cond.methodLink RX2 65 Lib.Math.max.name, Cond.methodLink RX2 49 yX2_mostGain, Cond.instanceMethod yX2_mostGain, Cond.selects RX2 yX2_mostGain yX2_mostGain, Cond.code yX2_mostGain cX2_mostGain 1 (some .int), Cond.methodLink RX1 111 yX2_roll, Cond.instanceMethod yX2_roll, Cond.selects RX2 yX2_roll yX2_roll]
def wsL_goesBySpeed_r9 : List Cond := [Cond.code yX2_roll cX2_roll 3 none, Cond.methodLink RX2 68 yJ9_floorDiv_7cf53, Cond.static yJ9_floorDiv_7cf53, Cond.initialized RJ9, Cond.code yJ9_floorDiv_7cf53 cJ9_floorDiv_7cf53 3 (some .int), Cond.methodLink RX2 71 yJ9_floorMod_7cf53, Cond.static yJ9_floorMod_7cf53, Cond.code yJ9_floorMod_7cf53 cJ9_floorMod_7cf53 3 (some .int), Cond.methodLink RX5 49 yX0_kept, Cond.instanceMethod yX0_kept, Cond.selects RX0 yX0_kept yX0_kept, Cond.code yX0_kept cX0_kept 2 (some .int), Cond.methodLink RL 68 yX5_undo, Cond.instanceMethod yX5_undo, Cond.selects RX5 yX5_undo yX5_undo, Cond.code yX5_undo cX5_undo 1 (some .int), Cond.methodLink RX5 188 yX0_takeBack, Cond.instanceMethod yX0_takeBack, Cond.selects RX0 yX0_takeBack yX0_takeBack, Cond.code yX0_takeBack cX0_takeBack 2 (some .int)]
def wsL_goesBySpeed : List Cond := .code yL_goesBySpeed cL_goesBySpeed 11 (some .boolean) :: ((wsL_goesBySpeed_r1 ++ (wsL_goesBySpeed_r2 ++ (wsL_goesBySpeed_r3 ++ (wsL_goesBySpeed_r4 ++ (wsL_goesBySpeed_r5 ++ (wsL_goesBySpeed_r6 ++ (wsL_goesBySpeed_r7 ++ (wsL_goesBySpeed_r8 ++ wsL_goesBySpeed_r9)))))))) ++ wsX50 ++ wsX10 ++ wsX20 ++ wsX40 ++ wsX30 ++ wsX00)
def wsL_law_r1 : List Cond := [Cond.classLink RL 13 RX5, Cond.instantiable RX5 6, Cond.initialized RX5, Cond.methodLink RL 72 yX5_init, Cond.instanceMethod yX5_init, Cond.code yX5_init cX5_init 2 none, Cond.methodLink RX5 3 objectInit, Cond.instanceMethod objectInit, Cond.code objectInit ⟨#[0xb1]⟩ 1 none, Cond.classLink RX5 9 RX1, Cond.instantiable RX1 10, Cond.initialized RX1, Cond.fieldLink RX5 12 "LocoFrames" "now" "LLocoFrames$Layout;", Cond.fieldLink RX5 16 "LocoFrames" "foreseen" "LLocoFrames$Layout;", Cond.classLink RX5 19 RX0, Cond.instantiable RX0 3, Cond.initialized RX0, Cond.fieldLink RX5 22 "LocoFrames" "history" "LLocoFrames$History;", Cond.fieldLink RX5 26 "LocoFrames" "slots" "[LLocoFrames$Layout;", Cond.arrayClass .boolean, Cond.fieldLink RX5 30 "LocoFrames" "saved" "[Z", Cond.classLink RX5 34 RX3, Cond.instantiable RX3 6, Cond.initialized RX3]
def wsL_law_r2 : List Cond := [Cond.fieldLink RX5 37 "LocoFrames" "pad" "LLocoFrames$Pad;", Cond.methodLink RX5 11 yX1_init, Cond.instanceMethod yX1_init, Cond.code yX1_init cX1_init 2 none, Cond.methodLink RX1 3 objectInit, Cond.classLink RX1 9 RX2, Cond.fieldLink RX1 11 "LocoFrames$Layout" "locos" "[LLocoFrames$Loco;", Cond.classLink RX1 17 RX4, Cond.instantiable RX4 4, Cond.initialized RX4, Cond.fieldLink RX1 20 "LocoFrames$Layout" "station" "LLocoFrames$Station;", Cond.arrayClass .int, Cond.fieldLink RX1 24 "LocoFrames$Layout" "shortTicks" "[I", Cond.instantiable RX2 11, Cond.initialized RX2, Cond.instanceMethod yX4_init, Cond.code yX4_init cX4_init 1 none, Cond.methodLink RX4 3 objectInit, Cond.fieldLink RX4 9 "LocoFrames$Station" "addresses" "[I", Cond.fieldLink RX4 15 "LocoFrames$Station" "data" "[I", Cond.fieldLink RX4 18 "LocoFrames$Station" "urgencies" "[I", Cond.instanceMethod yX2_init, Cond.code yX2_init cX2_init 1 none, Cond.methodLink RX2 3 objectInit]
def wsL_law_r3 : List Cond := [Cond.methodLink RX5 21 yX0_init, Cond.instanceMethod yX0_init, Cond.code yX0_init cX0_init 2 none, Cond.methodLink RX0 3 objectInit, Cond.classLink RX0 9 RX1, Cond.fieldLink RX0 11 "LocoFrames$History" "states" "[LLocoFrames$Layout;", Cond.methodLink RX0 17 yX1_init, Cond.instanceMethod yX3_init, Cond.code yX3_init cX3_init 1 none, Cond.methodLink RX3 3 objectInit, Cond.arrayClass .char, Cond.fieldLink RX3 9 "LocoFrames$Pad" "text" "[C", Cond.fieldLink RX3 15 "LocoFrames$Pad" "numbers" "[I", Cond.methodLink RL 68 yX5_undo, Cond.instanceMethod yX5_undo, Cond.selects RX5 yX5_undo yX5_undo, Cond.code yX5_undo cX5_undo 1 (some .int), Cond.methodLink RX5 188 yX0_takeBack, Cond.instanceMethod yX0_takeBack, Cond.selects RX0 yX0_takeBack yX0_takeBack, Cond.code yX0_takeBack cX0_takeBack 2 (some .int), Cond.fieldLink RX0 22 "LocoFrames$History" "held" "I", Cond.fieldLink RX0 18 "LocoFrames$History" "first" "I", Cond.methodLink RX0 25 yX1_copyFrom]
def wsL_law_r4 : List Cond := [Cond.instanceMethod yX1_copyFrom, Cond.selects RX1 yX1_copyFrom yX1_copyFrom, Cond.code yX1_copyFrom cX1_copyFrom 3 none, Cond.fieldLink RX1 29 "LocoFrames$Layout" "locoCount" "I", Cond.methodLink RX1 40 arraycopyName, Cond.native arraycopyName, Cond.static arraycopyName, Cond.initialized "java/lang/System", Cond.fieldLink RX1 46 "LocoFrames$Layout" "ticks" "I", Cond.fieldLink RX1 49 "LocoFrames$Layout" "noiseTicks" "I", Cond.fieldLink RX1 52 "LocoFrames$Layout" "spoiledAt" "I", Cond.fieldLink RX1 55 "LocoFrames$Layout" "frames" "I", Cond.fieldLink RX1 58 "LocoFrames$Layout" "broken" "I", Cond.fieldLink RX1 61 "LocoFrames$Layout" "spoiled" "I", Cond.methodLink RX1 33 yX2_copyFrom, Cond.instanceMethod yX2_copyFrom, Cond.selects RX2 yX2_copyFrom yX2_copyFrom, Cond.code yX2_copyFrom cX2_copyFrom 2 none, Cond.fieldLink RX2 9 "LocoFrames$Loco" "address" "I", Cond.fieldLink RX2 15 "LocoFrames$Loco" "mass" "I", Cond.fieldLink RX2 18 "LocoFrames$Loco" "curve" "I", Cond.fieldLink RX2 21 "LocoFrames$Loco" "place" "I", Cond.fieldLink RX2 24 "LocoFrames$Loco" "tenths" "I", Cond.fieldLink RX2 27 "LocoFrames$Loco" "speed" "I"]
def wsL_law_r5 : List Cond := [Cond.fieldLink RX2 30 "LocoFrames$Loco" "rounds" "I", Cond.fieldLink RX2 33 "LocoFrames$Loco" "step" "I", Cond.fieldLink RX2 36 "LocoFrames$Loco" "way" "I", Cond.fieldLink RX2 39 "LocoFrames$Loco" "lights" "I", Cond.fieldLink RX2 42 "LocoFrames$Loco" "heard" "I", Cond.methodLink RX1 37 yX4_copyFrom, Cond.instanceMethod yX4_copyFrom, Cond.selects RX4 yX4_copyFrom yX4_copyFrom, Cond.code yX4_copyFrom cX4_copyFrom 2 none, Cond.methodLink RX4 21 arraycopyName, Cond.fieldLink RX4 27 "LocoFrames$Station" "held" "I", Cond.methodLink RL 56 yX5_restore, Cond.instanceMethod yX5_restore, Cond.selects RX5 yX5_restore yX5_restore, Cond.code yX5_restore cX5_restore 2 (some .int), Cond.fieldLink RX5 111 "LocoFrames$Layout" "locoCount" "I", Cond.methodLink RX5 155 yX5_within, Cond.static yX5_within, Cond.code yX5_within cX5_within 3 (some .boolean), Cond.methodLink RX5 41 yX0_draft, Cond.instanceMethod yX0_draft, Cond.selects RX0 yX0_draft yX0_draft, Cond.code yX0_draft cX0_draft 2 none, Cond.methodLink RX5 143 yX1_copyFrom]
def wsL_law_r6 : List Cond := [Cond.methodLink RX5 49 yX0_kept, Cond.instanceMethod yX0_kept, Cond.selects RX0 yX0_kept yX0_kept, Cond.code yX0_kept cX0_kept 2 (some .int), Cond.methodLink RL 73 yX5_save, Cond.instanceMethod yX5_save, Cond.selects RX5 yX5_save yX5_save, Cond.code yX5_save cX5_save 2 (some .int), Cond.methodLink RL 76 yL_told, Cond.static yL_told, Cond.initialized RL, Cond.code yL_told cL_told 6 (some .long), Cond.constantLong RL 8 (3), Cond.constantLong RL 10 (31), Cond.methodLink RL 12 yX5_count, Cond.instanceMethod yX5_count, Cond.selects RX5 yX5_count yX5_count, Cond.code yX5_count cX5_count 2 (some .int), Cond.fieldLink RX5 108 "LocoFrames$Layout" "ticks" "I", Cond.fieldLink RX5 59 "LocoFrames$Layout" "station" "LLocoFrames$Station;", Cond.fieldLink RX5 114 "LocoFrames$Station" "held" "I", Cond.fieldLink RX5 117 "LocoFrames$Layout" "noiseTicks" "I", Cond.fieldLink RX5 120 "LocoFrames$Layout" "frames" "I", Cond.fieldLink RX5 123 "LocoFrames$Layout" "broken" "I"]
def wsL_law_r7 : List Cond := [Cond.fieldLink RX5 126 "LocoFrames$Layout" "spoiled" "I", Cond.fieldLink RX5 139 "LocoFrames$Pad" "length" "I", Cond.fieldLink RX5 142 "LocoFrames$History" "held" "I", Cond.methodLink RX5 129 yX1_blocksWithShort, Cond.instanceMethod yX1_blocksWithShort, Cond.selects RX1 yX1_blocksWithShort yX1_blocksWithShort, Cond.code yX1_blocksWithShort cX1_blocksWithShort 3 (some .int), Cond.methodLink RX5 133 yX1_crowdedBlocks, Cond.instanceMethod yX1_crowdedBlocks, Cond.selects RX1 yX1_crowdedBlocks yX1_crowdedBlocks, Cond.code yX1_crowdedBlocks cX1_crowdedBlocks 3 (some .int), Cond.methodLink RX1 136 yX1_locosIn, Cond.instanceMethod yX1_locosIn, Cond.selects RX1 yX1_locosIn yX1_locosIn, Cond.code yX1_locosIn cX1_locosIn 4 (some .int), Cond.methodLink RX1 87 yX2_blockNumber, Cond.instanceMethod yX2_blockNumber, Cond.selects RX2 yX2_blockNumber yX2_blockNumber, Cond.code yX2_blockNumber cX2_blockNumber 1 (some .int), Cond.methodLink RX5 136 yX1_speedSum, Cond.instanceMethod yX1_speedSum, Cond.selects RX1 yX1_speedSum yX1_speedSum, Cond.code yX1_speedSum cX1_speedSum 3 (some .int), Cond.fieldLink RX1 105 "LocoFrames$Loco" "speed" "I"]
def wsL_law_r8 : List Cond := [Cond.methodLink RL 18 yX5_address, Cond.instanceMethod yX5_address, Cond.selects RX5 yX5_address yX5_address, Cond.code yX5_address cX5_address 3 (some .int), Cond.fieldLink RX5 91 "LocoFrames$Loco" "address" "I", Cond.methodLink RX5 88 yX1_locoAt, Cond.instanceMethod yX1_locoAt, Cond.selects RX1 yX1_locoAt yX1_locoAt, Cond.code yX1_locoAt cX1_locoAt 2 (some (.object "LocoFrames$Loco")), Cond.methodLink RL 21 yX5_of, Cond.instanceMethod yX5_of, Cond.selects RX5 yX5_of yX5_of, Cond.code yX5_of cX5_of 4 (some .int), Cond.methodLink RX5 79 yX1_locoWith, Cond.instanceMethod yX1_locoWith, Cond.selects RX1 yX1_locoWith yX1_locoWith, Cond.code yX1_locoWith cX1_locoWith 2 (some (.object "LocoFrames$Loco")), Cond.methodLink RX1 68 yX1_rankOf, Cond.instanceMethod yX1_rankOf, Cond.selects RX1 yX1_rankOf yX1_rankOf, Cond.code yX1_rankOf cX1_rankOf 3 (some .int), Cond.fieldLink RX1 76 "LocoFrames$Loco" "address" "I", Cond.methodLink RX1 72 yX1_locoAt, Cond.methodLink RX5 83 yX2_told]
def wsL_law_r9 : List Cond := [Cond.instanceMethod yX2_told, Cond.selects RX2 yX2_told yX2_told, Cond.code yX2_told cX2_told 2 (some .int), Cond.methodLink RX2 53 yX2_goal, Cond.instanceMethod yX2_goal, Cond.selects RX2 yX2_goal yX2_goal, Cond.code yX2_goal cX2_goal 2 (some .int), Cond.static yX5_curveSpeed, Cond.code yX5_curveSpeed cX5_curveSpeed 3 (some .int), Cond.methodLink RX2 74 yX2_blockNumber, Cond.methodLink RL 25 yX5_waiting, Cond.instanceMethod yX5_waiting, Cond.selects RX5 yX5_waiting yX5_waiting, Cond.code yX5_waiting cX5_waiting 3 (some .int), Cond.methodLink RX5 95 yX4_told, Cond.instanceMethod yX4_told, Cond.selects RX4 yX4_told yX4_told, Cond.code yX4_told cX4_told 3 (some .int), Cond.methodLink RL 28 yX5_block, Cond.instanceMethod yX5_block, Cond.selects RX5 yX5_block yX5_block, Cond.code yX5_block cX5_block 3 (some .int), Cond.fieldLink RX5 101 "LocoFrames$Layout" "shortTicks" "[I", Cond.methodLink RX5 97 yX5_isBlock]
def wsL_law_r10 : List Cond := [Cond.static yX5_isBlock, Cond.code yX5_isBlock cX5_isBlock 1 (some .boolean), Cond.methodLink RX5 105 yX1_locosIn, Cond.methodLink RL 80 yL_cell, Cond.static yL_cell, Cond.code yL_cell cL_cell 2 (some .int), Cond.methodLink RL 84 yL_act, Cond.static yL_act, Cond.code yL_act cL_act 5 (some .int), Cond.methodLink RL 31 yL_low, Cond.static yL_low, Cond.code yL_low cL_low 2 (some .int), Cond.constant RL 7 (2147483647), Cond.methodLink RL 36 yX5_loco, Cond.instanceMethod yX5_loco, Cond.selects RX5 yX5_loco yX5_loco, Cond.code yX5_loco cX5_loco 5 (some .int), Cond.methodLink RX5 45 yX1_addLoco, Cond.instanceMethod yX1_addLoco, Cond.selects RX1 yX1_addLoco yX1_addLoco, Cond.code yX1_addLoco cX1_addLoco 7 (some .int), Cond.methodLink RX1 79 yX2_begin, Cond.instanceMethod yX2_begin, Cond.selects RX2 yX2_begin yX2_begin]
def wsL_law_r11 : List Cond := [Cond.code yX2_begin cX2_begin 5 none, Cond.methodLink RL 40 yX5_lift, Cond.instanceMethod yX5_lift, Cond.selects RX5 yX5_lift yX5_lift, Cond.code yX5_lift cX5_lift 2 (some .int), Cond.methodLink RX5 53 yX1_removeLoco, Cond.instanceMethod yX1_removeLoco, Cond.selects RX1 yX1_removeLoco yX1_removeLoco, Cond.code yX1_removeLoco cX1_removeLoco 5 (some .int), Cond.methodLink RL 43 yX5_noise, Cond.instanceMethod yX5_noise, Cond.selects RX5 yX5_noise yX5_noise, Cond.code yX5_noise cX5_noise 2 (some .int), Cond.methodLink RX5 56 yX1_changeNoise, Cond.instanceMethod yX1_changeNoise, Cond.selects RX1 yX1_changeNoise yX1_changeNoise, Cond.code yX1_changeNoise cX1_changeNoise 3 (some .int), Cond.methodLink RL 46 yX5_order, Cond.instanceMethod yX5_order, Cond.selects RX5 yX5_order yX5_order, Cond.code yX5_order cX5_order 4 (some .int), Cond.methodLink RX5 63 yX4_take, Cond.instanceMethod yX4_take, Cond.selects RX4 yX4_take yX4_take]
def wsL_law_r12 : List Cond := [Cond.code yX4_take cX4_take 5 (some .int), Cond.methodLink RX4 35 yX4_setRow, Cond.instanceMethod yX4_setRow, Cond.selects RX4 yX4_setRow yX4_setRow, Cond.code yX4_setRow cX4_setRow 5 none, Cond.methodLink RL 50 yX5_frame, Cond.instanceMethod yX5_frame, Cond.selects RX5 yX5_frame yX5_frame, Cond.code yX5_frame cX5_frame 4 (some .int), Cond.methodLink RX5 69 yX1_takeFrame, Cond.instanceMethod yX1_takeFrame, Cond.selects RX1 yX1_takeFrame yX1_takeFrame, Cond.code yX1_takeFrame cX1_takeFrame 7 (some .int), Cond.methodLink RX1 91 yX1_isShorted, Cond.instanceMethod yX1_isShorted, Cond.selects RX1 yX1_isShorted yX1_isShorted, Cond.code yX1_isShorted cX1_isShorted 2 (some .boolean), Cond.methodLink RX1 94 yX2_hear, Cond.instanceMethod yX2_hear, Cond.selects RX2 yX2_hear yX2_hear, Cond.code yX2_hear cX2_hear 3 none, Cond.methodLink RL 53 yX5_shorts, Cond.instanceMethod yX5_shorts, Cond.selects RX5 yX5_shorts yX5_shorts]
def wsL_law_r13 : List Cond := [Cond.code yX5_shorts cX5_shorts 3 (some .int), Cond.methodLink RX5 72 yX1_changeShort, Cond.instanceMethod yX1_changeShort, Cond.selects RX1 yX1_changeShort yX1_changeShort, Cond.code yX1_changeShort cX1_changeShort 4 (some .int), Cond.methodLink RL 59 yX5_pass, Cond.instanceMethod yX5_pass, Cond.selects RX5 yX5_pass yX5_pass, Cond.code yX5_pass cX5_pass 2 (some .int), Cond.methodLink RX5 76 yX1_takeTicks, Cond.instanceMethod yX1_takeTicks, Cond.selects RX1 yX1_takeTicks yX1_takeTicks, Cond.code yX1_takeTicks cX1_takeTicks 4 (some .int), Cond.constant RX1 98 (99999), Cond.methodLink RX1 99 yX1_tick, Cond.instanceMethod yX1_tick, Cond.selects RX1 yX1_tick yX1_tick, Cond.code yX1_tick cX1_tick 4 (some .int), Cond.methodLink RX1 114 Lib.Math.max.name, Cond.static Lib.Math.max.name, Cond.initialized "java/lang/Math", Cond.code Lib.Math.max.name Lib.Math.max.code 2 (some .int), Cond.methodLink RX1 102 yX1_sendFirst, Cond.instanceMethod yX1_sendFirst]
def wsL_law_r14 : List Cond := [Cond.selects RX1 yX1_sendFirst yX1_sendFirst, Cond.code yX1_sendFirst cX1_sendFirst 4 (some .int), Cond.fieldLink RX1 120 "LocoFrames$Station" "held" "I", Cond.fieldLink RX1 123 "LocoFrames$Station" "addresses" "[I", Cond.fieldLink RX1 126 "LocoFrames$Station" "data" "[I", Cond.methodLink RX1 129 yX4_dropFirst, Cond.instanceMethod yX4_dropFirst, Cond.selects RX4 yX4_dropFirst yX4_dropFirst, Cond.code yX4_dropFirst cX4_dropFirst 2 none, Cond.methodLink RX4 39 Lib.Math.max.name, Cond.methodLink RX1 132 yX1_takeFrame, Cond.methodLink RX1 108 yX2_changeSpeed, Cond.instanceMethod yX2_changeSpeed, Cond.selects RX2 yX2_changeSpeed yX2_changeSpeed, Cond.code yX2_changeSpeed cX2_changeSpeed 2 none, Cond.methodLink RX2 62 Lib.Math.min.name, Cond.static Lib.Math.min.name, Cond.code Lib.Math.min.name Lib.Math.min.code 2 (some .int), Cond.methodLink RX2 65 Lib.Math.max.name, Cond.methodLink RX2 49 yX2_mostGain, Cond.instanceMethod yX2_mostGain, Cond.selects RX2 yX2_mostGain yX2_mostGain, Cond.code yX2_mostGain cX2_mostGain 1 (some .int), Cond.methodLink RX1 111 yX2_roll]
def wsL_law_r15 : List Cond := [Cond.instanceMethod yX2_roll, Cond.selects RX2 yX2_roll yX2_roll, Cond.code yX2_roll cX2_roll 3 none, Cond.methodLink RX2 68 yJ9_floorDiv_7cf53, Cond.static yJ9_floorDiv_7cf53, Cond.initialized RJ9, Cond.code yJ9_floorDiv_7cf53 cJ9_floorDiv_7cf53 3 (some .int), Cond.methodLink RX2 71 yJ9_floorMod_7cf53, Cond.static yJ9_floorMod_7cf53, Cond.code yJ9_floorMod_7cf53 cJ9_floorMod_7cf53 3 (some .int), Cond.methodLink RL 88 yL_holds, Cond.static yL_holds, Cond.code yL_holds cL_holds 11 (some .boolean), Cond.methodLink RL 62 yX5_settles, Cond.instanceMethod yX5_settles, Cond.selects RX5 yX5_settles yX5_settles, Cond.code yX5_settles cX5_settles 3 (some .int), Cond.methodLink RX5 152 yX2_ticksToGoal, Cond.instanceMethod yX2_ticksToGoal, Cond.selects RX2 yX2_ticksToGoal yX2_ticksToGoal, Cond.code yX2_ticksToGoal cX2_ticksToGoal 3 (some .int), Cond.methodLink RX2 56 Lib.Math.abs.name, Cond.static Lib.Math.abs.name, Cond.code Lib.Math.abs.name Lib.Math.abs.code 1 (some .int)]
def wsL_law_r16 : List Cond := [Cond.methodLink RL 65 yX5_reaches, Cond.instanceMethod yX5_reaches, Cond.selects RX5 yX5_reaches yX5_reaches, Cond.code yX5_reaches cX5_reaches 5 (some .int), Cond.methodLink RX5 146 yX2_blockNumber, Cond.methodLink RX5 149 yX1_tick, Cond.methodLink RL 92 yL_goesBySpeed, Cond.static yL_goesBySpeed, Cond.code yL_goesBySpeed cL_goesBySpeed 11 (some .boolean)]
def wsL_law : List Cond := (wsL_law_r1 ++ (wsL_law_r2 ++ (wsL_law_r3 ++ (wsL_law_r4 ++ (wsL_law_r5 ++ (wsL_law_r6 ++ (wsL_law_r7 ++ (wsL_law_r8 ++ (wsL_law_r9 ++ (wsL_law_r10 ++ (wsL_law_r11 ++ (wsL_law_r12 ++ (wsL_law_r13 ++ (wsL_law_r14 ++ (wsL_law_r15 ++ wsL_law_r16))))))))))))))) ++ wsX50 ++ wsX10 ++ wsX00 ++ wsX30 ++ wsX40 ++ wsX20 ++ ([] : List Cond)
theorem inlX0 : ∀ w ∈ wsX00, w ∈ wsL_law := fun _ h => List.mem_append_left _ (List.mem_append_left _ (List.mem_append_left _ (List.mem_append_left _ (List.mem_append_right _ h))))
theorem inlX1 : ∀ w ∈ wsX10, w ∈ wsL_law := fun _ h => List.mem_append_left _ (List.mem_append_left _ (List.mem_append_left _ (List.mem_append_left _ (List.mem_append_left _ (List.mem_append_right _ h)))))
theorem inlX2 : ∀ w ∈ wsX20, w ∈ wsL_law := fun _ h => List.mem_append_left _ (List.mem_append_right _ h)
theorem inlX3 : ∀ w ∈ wsX30, w ∈ wsL_law := fun _ h => List.mem_append_left _ (List.mem_append_left _ (List.mem_append_left _ (List.mem_append_right _ h)))
theorem inlX4 : ∀ w ∈ wsX40, w ∈ wsL_law := fun _ h => List.mem_append_left _ (List.mem_append_left _ (List.mem_append_right _ h))
theorem inlX5 : ∀ w ∈ wsX50, w ∈ wsL_law := fun _ h => List.mem_append_left _ (List.mem_append_left _ (List.mem_append_left _ (List.mem_append_left _ (List.mem_append_left _ (List.mem_append_left _ (List.mem_append_right _ h))))))
abbrev vwCl : List vw_C := [(RX0, TX0, 3), (RX1, TX1, 10), (RX2, TX2, 11), (RX3, TX3, 6), (RX4, TX4, 4), (RX5, TX5, 6)]
/-! ===== END printed: names ===== -/
end
section
/-! THE WORLD of this claim: every cell has a name (kind, number); ad gives its address. Kinds: 0 Layout, 1 its row of locos, 2 Station, 3..5 its rows, 6 shortTicks, 7 Loco (8 * layout + number), 8 the class, 9 History, 10 its row, 11 slots, 12 saved, 13 Pad, 14 text, 15 numbers, 16 the reference, 17 s, 18 aside, 19 undos, 20 slots, 21 hasSlot, 22 pad, 23 told -/
abbrev Ii : Type := Nat → Nat → Nat → Int32
abbrev Pm : Type := Nat → Nat → Nat
abbrev Gm : Type := va_G × (Nat → ClassId) × (Nat → Nat → Nat)
def cbK : Nat → Nat
  | 0 => 11
  | 1 => 11
  | 2 => 11
  | 3 => 11
  | 4 => 11
  | 5 => 11
  | 6 => 11
  | 7 => 88
  | 8 => 1
  | 9 => 1
  | 10 => 1
  | 11 => 1
  | 12 => 1
  | 13 => 1
  | 14 => 1
  | 15 => 1
  | _ => 0
def cvv (cy : Nat → ClassId) (ad : Nat → Nat → Nat) (I : Ii) (pm : Pm) (K i : Nat) : va_E := match K with
  | 0 => .inr (1, [.ref (ad 1 i), .ref (ad 2 i), .ref (ad 6 i), .int (I 0 i 3), .int (I 0 i 4), .int (I 0 i 5), .int (I 0 i 6), .int (I 0 i 7), .int (I 0 i 8), .int (I 0 i 9)])
  | 1 => .inl (cy 4, 8, .inr (.inr (.inr (.inr (fun r => some (ad 7 (8 * i + pm i r)))))))
  | 2 => .inr (4, [.ref (ad 3 i), .ref (ad 4 i), .ref (ad 5 i), .int (I 2 i 3)])
  | 3 => .inl (cy 1, 20, .inl (I 3 i))
  | 4 => .inl (cy 1, 20, .inl (I 4 i))
  | 5 => .inl (cy 1, 20, .inl (I 5 i))
  | 6 => .inl (cy 1, 8, .inl (I 6 i))
  | 7 => .inr (2, [.int (I 7 i 0), .int (I 7 i 1), .int (I 7 i 2), .int (I 7 i 3), .int (I 7 i 4), .int (I 7 i 5), .int (I 7 i 6), .int (I 7 i 7), .int (I 7 i 8), .int (I 7 i 9), .int (I 7 i 10)])
  | 8 => .inr (5, [.ref (ad 0 0), .ref (ad 0 1), .ref (ad 9 0), .ref (ad 11 0), .ref (ad 12 0), .ref (ad 13 0)])
  | 9 => .inr (0, [.ref (ad 10 0), .int (I 9 i 1), .int (I 9 i 2)])
  | 10 => .inl (cy 3, 7, .inr (.inr (.inr (.inr (fun r => some (ad 0 (4 + r)))))))
  | 11 => .inl (cy 3, 2, .inr (.inr (.inr (.inr (fun r => some (ad 0 (2 + r)))))))
  | 12 => .inl (cy 2, 2, .inl (I 12 i))
  | 13 => .inr (3, [.ref (ad 14 0), .int (I 13 i 1), .int (I 13 i 2), .int (I 13 i 3), .ref (ad 15 0), .int (I 13 i 5)])
  | 14 => .inl (cy 0, 80, .inl (I 14 i))
  | 15 => .inl (cy 1, 3, .inl (I 15 i))
  | _ => .inl (cy 1, 0, .inl (fun _ => 0))
def Wd (G : Gm) (I : Ii) (pm : Pm) (H : Heap) : Prop := ∀ K i, i < cbK K → va_at G.1 vwCl (G.2.2 K i, cvv G.2.1 G.2.2 I pm K i) H
def AA (G : Gm) : Nat → Prop := fun q => ∃ K i, i < cbK K ∧ q = G.2.2 K i
def Aj (G : Gm) : Prop := ∀ K i K' i', i < cbK K → i' < cbK K' → G.2.2 K i = G.2.2 K' i' → K = K' ∧ i = i'
def tyz (G : Gm) : List (ClassId × FieldType) := [(G.2.1 0, .char), (G.2.1 1, .int), (G.2.1 2, .boolean), (G.2.1 3, .object "LocoFrames$Layout"), (G.2.1 4, .object "LocoFrames$Loco")]
/-- the links of nest mates: they are no good words, so they are carried beside the tables -/
def NN (U : State) : Prop := va_Nw (.methodLinkNest RX1 64 yX5_within RX5) U ∧ va_Nw (.methodLinkNest RX4 31 yX5_within RX5) U ∧ va_Nw (.methodLinkNest RX1 83 yX5_isBlock RX5) U ∧ va_Nw (.methodLinkNest RX2 45 yX5_curveSpeed RX5) U ∧ True
theorem NN.warm {s U : State} (hW : s.WarmedH U.vm) (h : NN s) : NN U := ⟨h.1.warmM hW, h.2.1.warmM hW, h.2.2.1.warmM hW, h.2.2.2.1.warmM hW, trivial⟩
theorem NN.same {s U : State} (hW : s.vm = U.vm) (h : NN s) : NN U := ⟨h.1.same rfl hW, h.2.1.same rfl hW, h.2.2.1.same rfl hW, h.2.2.2.1.same rfl hW, trivial⟩
def PP (G : Gm) (I : Ii) (pm : Pm) : State → Prop := fun U => Wd G I pm U.heap ∧ va_K G.1 vwCl (tyz G) U ∧ NN U
def up3 (I : Ii) (K i j : Nat) (v : Int32) : Ii := fun a b c => if a = K ∧ b = i ∧ c = j then v else I a b c
def upR (I : Ii) (K i : Nat) (f : Nat → Int32) : Ii := fun a b c => if a = K ∧ b = i then f c else I a b c
def upP (pm : Pm) (k r v : Nat) : Pm := fun a b => if a = k ∧ b = r then v else pm a b
theorem up3_s {I : Ii} {K i j : Nat} {v : Int32} : up3 I K i j v K i j = v := by simp [up3]
theorem up3_n {I : Ii} {K i j a b c : Nat} {v : Int32} (h : ¬ (a = K ∧ b = i ∧ c = j)) : up3 I K i j v a b c = I a b c := by simp [up3, h]
theorem up3_k {I : Ii} {K i j a b c : Nat} {v : Int32} (h : a ≠ K) : up3 I K i j v a b c = I a b c := by simp [up3, h]
theorem upR_s {I : Ii} {K i : Nat} {f : Nat → Int32} : upR I K i f K i = f := by funext c; simp [upR]
theorem upR_n {I : Ii} {K i a b c : Nat} {f : Nat → Int32} (h : ¬ (a = K ∧ b = i)) : upR I K i f a b c = I a b c := by simp [upR, h]
theorem up3_R {I : Ii} {K i j : Nat} {v : Int32} : up3 I K i j v = upR I K i (upd (I K i) j v) := by
  funext a b c
  by_cases h : a = K ∧ b = i
  · obtain ⟨rfl, rfl⟩ := h
    simp [up3, upR, upd]
  · simp only [upR, up3, h, if_false]
    rw [if_neg (fun q => h ⟨q.1, q.2.1⟩)]
theorem cvv_cong {cy : Nat → ClassId} {ad : Nat → Nat → Nat} {I I' : Ii} {pm pm' : Pm} {K i : Nat} (h : ∀ c, I' K i c = I K i c) (hp : K = 1 → ∀ r, pm' i r = pm i r) : cvv cy ad I' pm' K i = cvv cy ad I pm K i := by
  have hf : I' K i = I K i := funext h
  unfold cvv
  split <;> first | (simp only [h]; done) | (simp only [hf]; done) | (simp only [hp rfl]; done) | rfl
theorem Wd.put {G : Gm} {I I' : Ii} {pm pm' : Pm} {H H1 : Heap} {K i : Nat} (h : Wd G I pm H) (hj : Aj G) (hi : i < cbK K) (he : va_at G.1 vwCl (G.2.2 K i, cvv G.2.1 G.2.2 I' pm' K i) H1) (oq : ∀ q : Nat, q ≠ G.2.2 K i → H1[q]? = H[q]?)
    (hc : ∀ a b, ¬ (a = K ∧ b = i) → cvv G.2.1 G.2.2 I' pm' a b = cvv G.2.1 G.2.2 I pm a b) : Wd G I' pm' H1 := by
  intro a b hb
  by_cases hab : a = K ∧ b = i
  · obtain ⟨rfl, rfl⟩ := hab
    exact he
  · rw [hc a b hab]
    exact (h a b hb).kept (oq _ fun q => hab (hj a b K i hb hi q))
theorem Wd.one {G : Gm} {I : Ii} {pm : Pm} {H : Heap} (h : Wd G I pm H) {K i : Nat} (hi : i < cbK K) : va_P G.1 vwCl [(G.2.2 K i, cvv G.2.1 G.2.2 I pm K i)] H := by
  intro k q hk
  cases k with
  | zero => cases hk; exact h K i hi
  | succ k => simp at hk
/-- what a walk of a method holds on to -/
def FX (p : Program) (s : State) (m : MethodId) (args : Array Value) (c : Code) (cc : ByteArray) (nL : Nat) (own : String) (G : Gm) (A : Nat → Prop) : Prop :=
  CallFix p m c cc nL s args wsL_law own ∧ va_K G.1 vwCl (tyz G) s ∧ NN s ∧ Aj G ∧ ∀ K i, i < cbK K → A (G.2.2 K i)
def GG (p : Program) (l : Launch) (e : Env) (R : Room) (s : State) (m : MethodId) (args : Array Value) (below : List Frame) (meth : Method) (c : Code) (G : Gm) (A : Nat → Prop) (nL ce sl : Nat) (Q : State → Prop) (I : Ii) (pm : Pm) (L : List (Nat × Value)) (pc : Nat) (st : List Value) : Prop :=
  ∀ (H : Heap) (locs : List Loc) (ls : Array Slot), Wd G I pm H → va_S A s.heap H locs → lv_has ls nL L → W p l e R s m args below meth c H locs ce sl Q (F0 m pc ls st)
def bz (c : Prop) [Decidable c] : Int32 := if c then 1 else 0
theorem bz_0 {c : Prop} [Decidable c] : bz c = 0 ↔ ¬ c := by unfold bz; split <;> simp_all
theorem bz_1 {c : Prop} [Decidable c] : bz c = 1 ↔ c := by unfold bz; split <;> simp_all
theorem bz_n {c : Prop} [Decidable c] : ¬ bz c = 0 ↔ c := by unfold bz; split <;> simp_all
def wz (y : MethodName) (b : ByteArray) (n : Nat) (r : Option FieldType) : List Cond := Cond.code y b n r :: wsL_law
def rmL (d : Nat) : Room := { frames := d, cells := 0, slots := 0, locals := 27 * d }
/-- contracts: an int, nothing, a loco or null -/
def CI (l : Launch) (G : Gm) (y : MethodName) (ws : List Cond) (rm : Room) (av : List Value) (I : Ii) (pm : Pm) (post : Int32 → Ii × Pm → Prop) : Prop := Met l y ws rm (va_Pc av (PP G I pm)) (va_Qi post (fun u t => Wd G u.1 u.2 t.heap) (AA G)) 0 0 (AA G)
def CV (l : Launch) (G : Gm) (y : MethodName) (ws : List Cond) (rm : Room) (av : List Value) (I : Ii) (pm : Pm) (post : Ii × Pm → Prop) : Prop := Met l y ws rm (va_Pc av (PP G I pm)) (va_Qv post (fun u t => Wd G u.1 u.2 t.heap) (AA G)) 0 0 (AA G)
def CQ (l : Launch) (G : Gm) (y : MethodName) (ws : List Cond) (rm : Room) (av : List Value) (I : Ii) (pm : Pm) (post : Option Nat → Ii × Pm → Prop) : Prop := Met l y ws rm (va_Pc av (PP G I pm)) (va_Qq post (fun u t => Wd G u.1 u.2 t.heap) (AA G)) 0 0 (AA G)
theorem PP.blind {G : Gm} {I : Ii} {pm : Pm} {av : List Value} : FrameBlind (va_Pc av (PP G I pm)) := fun a U g mk q => ⟨q.1, q.2.1, va_K.moved (u := U) (U := U.calling g mk a) (Vm.Alike.refl U.vm) q.2.2.1, NN.same rfl q.2.2.2⟩
section BASE
variable {p : Program} {l : Launch} {e : Env} {R : Room} {s : State} {m : MethodId} {args : Array Value} {below : List Frame} {meth : Method} {c : Code} {G : Gm} {A : Nat → Prop} {nL ce sl : Nat} {Q : State → Prop} {I : Ii} {pm : Pm} {L : List (Nat × Value)} {pc : Nat} {st rest : List Value} {cc : ByteArray} {own : String}
theorem FX.w (F : FX p s m args c cc nL own G A) {w : Cond} (h : w ∈ wsL_law) : w.before args s = true := F.1.2.2.2.2 w h
theorem g_iconst (F : FX p s m args c cc nL own G A) {n : Int} {v : Int32} (hd : decode cc pc = .ok (.iconst n, 1)) (hv : Int32.ofInt n = v) (k : GG p l e R s m args below meth c G A nL ce sl Q I pm L (pc + 1) (.int v :: st)) : GG p l e R s m args below meth c G A nL ce sl Q I pm L pc st := fun H locs ls h1 h2 h3 => lv_iconst F.1.1 F.1.2.1 hd hv (k H locs ls h1 h2 h3)
theorem g_bipush (F : FX p s m args c cc nL own G A) {n : Int} {v : Int32} (hd : decode cc pc = .ok (.bipush n, 2)) (hv : (Int8.ofInt n).toInt32 = v) (k : GG p l e R s m args below meth c G A nL ce sl Q I pm L (pc + 2) (.int v :: st)) : GG p l e R s m args below meth c G A nL ce sl Q I pm L pc st := fun H locs ls h1 h2 h3 => lv_bipush F.1.1 F.1.2.1 hd hv (k H locs ls h1 h2 h3)
theorem g_sipush (F : FX p s m args c cc nL own G A) {n : Int} {v : Int32} (hd : decode cc pc = .ok (.sipush n, 3)) (hv : (Int16.ofInt n).toInt32 = v) (k : GG p l e R s m args below meth c G A nL ce sl Q I pm L (pc + 3) (.int v :: st)) : GG p l e R s m args below meth c G A nL ce sl Q I pm L pc st := fun H locs ls h1 h2 h3 => lv_sipush F.1.1 F.1.2.1 hd hv (k H locs ls h1 h2 h3)
theorem g_lconst (F : FX p s m args c cc nL own G A) {n : Fin 2} {v : Int64} (hd : decode cc pc = .ok (.lconst n, 1)) (hv : Int64.ofNat (n : Nat) = v) (k : GG p l e R s m args below meth c G A nL ce sl Q I pm L (pc + 1) (.long v :: st)) : GG p l e R s m args below meth c G A nL ce sl Q I pm L pc st := fun H locs ls h1 h2 h3 => lv_lconst F.1.1 F.1.2.1 hd hv (k H locs ls h1 h2 h3)
theorem g_ldc (F : FX p s m args c cc nL own G A) {index : Nat} {v : Int32} (hw : Jvm.Cond.constant own index v ∈ wsL_law) (hd : decode cc pc = .ok (.ldc index, 2)) (k : GG p l e R s m args below meth c G A nL ce sl Q I pm L (pc + 2) (.int v :: st)) : GG p l e R s m args below meth c G A nL ce sl Q I pm L pc st := fun H locs ls h1 h2 h3 => lv_ldc F.1.1 F.1.2.1 F.1.2.2.2.1 (F.w hw) hd (k H locs ls h1 h2 h3)
theorem g_ldc2 (F : FX p s m args c cc nL own G A) {index : Nat} {v : Int64} (hw : Jvm.Cond.constantLong own index v ∈ wsL_law) (hd : decode cc pc = .ok (.ldc2_w index, 3)) (k : GG p l e R s m args below meth c G A nL ce sl Q I pm L (pc + 3) (.long v :: st)) : GG p l e R s m args below meth c G A nL ce sl Q I pm L pc st := fun H locs ls h1 h2 h3 => lv_ldc2 F.1.1 F.1.2.1 F.1.2.2.2.1 (F.w hw) hd (k H locs ls h1 h2 h3)
theorem g_iload_n (F : FX p s m args c cc nL own G A) {k : Fin 4} {i : Nat} {x : Int32} (j : Nat) (hd : decode cc pc = .ok (.iload_n k, 1)) (hi : (k : Nat) = i) (hl : L[j]? = some (i, .int x)) (kk : GG p l e R s m args below meth c G A nL ce sl Q I pm L (pc + 1) (.int x :: st)) : GG p l e R s m args below meth c G A nL ce sl Q I pm L pc st := fun H locs ls h1 h2 h3 => lv_iload_n F.1.1 F.1.2.1 hd hi (lv_at h3 j hl) (kk H locs ls h1 h2 h3)
theorem g_iload (F : FX p s m args c cc nL own G A) {i : Nat} {x : Int32} (j : Nat) (hd : decode cc pc = .ok (.iload i, 2)) (hl : L[j]? = some (i, .int x)) (kk : GG p l e R s m args below meth c G A nL ce sl Q I pm L (pc + 2) (.int x :: st)) : GG p l e R s m args below meth c G A nL ce sl Q I pm L pc st := fun H locs ls h1 h2 h3 => lv_iload F.1.1 F.1.2.1 hd (lv_at h3 j hl) (kk H locs ls h1 h2 h3)
theorem g_lload_n (F : FX p s m args c cc nL own G A) {k : Fin 4} {i : Nat} {x : Int64} (j : Nat) (hd : decode cc pc = .ok (.lload_n k, 1)) (hi : (k : Nat) = i) (hl : L[j]? = some (i, .long x)) (kk : GG p l e R s m args below meth c G A nL ce sl Q I pm L (pc + 1) (.long x :: st)) : GG p l e R s m args below meth c G A nL ce sl Q I pm L pc st := fun H locs ls h1 h2 h3 => lv_lload_n F.1.1 F.1.2.1 hd hi (lv_at h3 j hl) (kk H locs ls h1 h2 h3)
theorem g_lload (F : FX p s m args c cc nL own G A) {i : Nat} {x : Int64} (j : Nat) (hd : decode cc pc = .ok (.lload i, 2)) (hl : L[j]? = some (i, .long x)) (kk : GG p l e R s m args below meth c G A nL ce sl Q I pm L (pc + 2) (.long x :: st)) : GG p l e R s m args below meth c G A nL ce sl Q I pm L pc st := fun H locs ls h1 h2 h3 => lv_lload F.1.1 F.1.2.1 hd (lv_at h3 j hl) (kk H locs ls h1 h2 h3)
theorem g_aload_n (F : FX p s m args c cc nL own G A) {k : Fin 4} {i x : Nat} (j : Nat) (hd : decode cc pc = .ok (.aload_n k, 1)) (hi : (k : Nat) = i) (hl : L[j]? = some (i, .ref x)) (kk : GG p l e R s m args below meth c G A nL ce sl Q I pm L (pc + 1) (.ref x :: st)) : GG p l e R s m args below meth c G A nL ce sl Q I pm L pc st := fun H locs ls h1 h2 h3 => lv_aload_n F.1.1 F.1.2.1 hd hi (lv_at h3 j hl) (kk H locs ls h1 h2 h3)
theorem g_aload (F : FX p s m args c cc nL own G A) {i x : Nat} (j : Nat) (hd : decode cc pc = .ok (.aload i, 2)) (hl : L[j]? = some (i, .ref x)) (kk : GG p l e R s m args below meth c G A nL ce sl Q I pm L (pc + 2) (.ref x :: st)) : GG p l e R s m args below meth c G A nL ce sl Q I pm L pc st := fun H locs ls h1 h2 h3 => lv_aload F.1.1 F.1.2.1 hd (lv_at h3 j hl) (kk H locs ls h1 h2 h3)
theorem g_istore_n (F : FX p s m args c cc nL own G A) {k : Fin 4} {i : Nat} {x : Int32} {L' : List (Nat × Value)} (hd : decode cc pc = .ok (.istore_n k, 1)) (hi : (k : Nat) = i) (hn : i < nL) (hl : (i, Value.int x) :: L.filter (fun q => !(q.1 == i) && !(q.1 + 1 == i && q.2.category == 2)) = L') (kk : GG p l e R s m args below meth c G A nL ce sl Q I pm L' (pc + 1) rest) : GG p l e R s m args below meth c G A nL ce sl Q I pm L pc (.int x :: rest) := fun H locs ls h1 h2 h3 => lv_istore_n F.1.1 F.1.2.1 hd hi h3 hn hl (fun ls' h' => kk H locs ls' h1 h2 h')
theorem g_istore (F : FX p s m args c cc nL own G A) {i : Nat} {x : Int32} {L' : List (Nat × Value)} (hd : decode cc pc = .ok (.istore i, 2)) (hn : i < nL) (hl : (i, Value.int x) :: L.filter (fun q => !(q.1 == i) && !(q.1 + 1 == i && q.2.category == 2)) = L') (kk : GG p l e R s m args below meth c G A nL ce sl Q I pm L' (pc + 2) rest) : GG p l e R s m args below meth c G A nL ce sl Q I pm L pc (.int x :: rest) := fun H locs ls h1 h2 h3 => lv_istore F.1.1 F.1.2.1 hd h3 hn hl (fun ls' h' => kk H locs ls' h1 h2 h')
theorem g_astore_n (F : FX p s m args c cc nL own G A) {k : Fin 4} {i : Nat} {x : Nat} {L' : List (Nat × Value)} (hd : decode cc pc = .ok (.astore_n k, 1)) (hi : (k : Nat) = i) (hn : i < nL) (hl : (i, Value.ref x) :: L.filter (fun q => !(q.1 == i) && !(q.1 + 1 == i && q.2.category == 2)) = L') (kk : GG p l e R s m args below meth c G A nL ce sl Q I pm L' (pc + 1) rest) : GG p l e R s m args below meth c G A nL ce sl Q I pm L pc (.ref x :: rest) := fun H locs ls h1 h2 h3 => lv_astore_n F.1.1 F.1.2.1 hd hi h3 hn hl (fun ls' h' => kk H locs ls' h1 h2 h')
theorem g_astore (F : FX p s m args c cc nL own G A) {i : Nat} {x : Nat} {L' : List (Nat × Value)} (hd : decode cc pc = .ok (.astore i, 2)) (hn : i < nL) (hl : (i, Value.ref x) :: L.filter (fun q => !(q.1 == i) && !(q.1 + 1 == i && q.2.category == 2)) = L') (kk : GG p l e R s m args below meth c G A nL ce sl Q I pm L' (pc + 2) rest) : GG p l e R s m args below meth c G A nL ce sl Q I pm L pc (.ref x :: rest) := fun H locs ls h1 h2 h3 => lv_astore F.1.1 F.1.2.1 hd h3 hn hl (fun ls' h' => kk H locs ls' h1 h2 h')
theorem g_astore_nN (F : FX p s m args c cc nL own G A) {k : Fin 4} {i : Nat} {L' : List (Nat × Value)} (hd : decode cc pc = .ok (.astore_n k, 1)) (hi : (k : Nat) = i) (hn : i < nL) (hl : (i, Value.null) :: L.filter (fun q => !(q.1 == i) && !(q.1 + 1 == i && q.2.category == 2)) = L') (kk : GG p l e R s m args below meth c G A nL ce sl Q I pm L' (pc + 1) rest) : GG p l e R s m args below meth c G A nL ce sl Q I pm L pc (.null :: rest) := fun H locs ls h1 h2 h3 => lv_astore_nN F.1.1 F.1.2.1 hd hi h3 hn hl (fun ls' h' => kk H locs ls' h1 h2 h')
theorem g_astoreN (F : FX p s m args c cc nL own G A) {i : Nat} {L' : List (Nat × Value)} (hd : decode cc pc = .ok (.astore i, 2)) (hn : i < nL) (hl : (i, Value.null) :: L.filter (fun q => !(q.1 == i) && !(q.1 + 1 == i && q.2.category == 2)) = L') (kk : GG p l e R s m args below meth c G A nL ce sl Q I pm L' (pc + 2) rest) : GG p l e R s m args below meth c G A nL ce sl Q I pm L pc (.null :: rest) := fun H locs ls h1 h2 h3 => lv_astoreN F.1.1 F.1.2.1 hd h3 hn hl (fun ls' h' => kk H locs ls' h1 h2 h')
theorem g_aload_nN (F : FX p s m args c cc nL own G A) {k : Fin 4} {i : Nat} (j : Nat) (hd : decode cc pc = .ok (.aload_n k, 1)) (hi : (k : Nat) = i) (hl : L[j]? = some (i, .null)) (kk : GG p l e R s m args below meth c G A nL ce sl Q I pm L (pc + 1) (.null :: st)) : GG p l e R s m args below meth c G A nL ce sl Q I pm L pc st := fun H locs ls h1 h2 h3 => lv_aload_nN F.1.1 F.1.2.1 hd hi (lv_at h3 j hl) (kk H locs ls h1 h2 h3)
theorem g_aloadN (F : FX p s m args c cc nL own G A) {i : Nat} (j : Nat) (hd : decode cc pc = .ok (.aload i, 2)) (hl : L[j]? = some (i, .null)) (kk : GG p l e R s m args below meth c G A nL ce sl Q I pm L (pc + 2) (.null :: st)) : GG p l e R s m args below meth c G A nL ce sl Q I pm L pc st := fun H locs ls h1 h2 h3 => lv_aloadN F.1.1 F.1.2.1 hd (lv_at h3 j hl) (kk H locs ls h1 h2 h3)
theorem g_lstore (F : FX p s m args c cc nL own G A) {i : Nat} {x : Int64} {L' : List (Nat × Value)} (hd : decode cc pc = .ok (.lstore i, 2)) (hn : i + 1 < nL) (hl : (i, Value.long x) :: L.filter (fun q => !(q.1 == i) && (!(q.1 == i + 1) && !(q.1 + 1 == i && q.2.category == 2))) = L') (kk : GG p l e R s m args below meth c G A nL ce sl Q I pm L' (pc + 2) rest) : GG p l e R s m args below meth c G A nL ce sl Q I pm L pc (.long x :: rest) := fun H locs ls h1 h2 h3 => lv_lstore F.1.1 F.1.2.1 hd h3 hn hl (fun ls' h' => kk H locs ls' h1 h2 h')
theorem g_iinc (F : FX p s m args c cc nL own G A) {i : Nat} {n : Int} {x v : Int32} {L' : List (Nat × Value)} (j : Nat) (hd : decode cc pc = .ok (.iinc i n, 3)) (hk : L[j]? = some (i, .int x)) (hv : x + Int32.ofInt n = v) (hn : i < nL) (hl : (i, Value.int v) :: L.filter (fun q => !(q.1 == i) && !(q.1 + 1 == i && q.2.category == 2)) = L') (kk : GG p l e R s m args below meth c G A nL ce sl Q I pm L' (pc + 3) st) : GG p l e R s m args below meth c G A nL ce sl Q I pm L pc st := fun H locs ls h1 h2 h3 => lv_iinc F.1.1 F.1.2.1 hd h3 hk hv hn hl (fun ls' h' => kk H locs ls' h1 h2 h')
theorem g_topi {x : Int32} (k : ∀ y : Int32, y = x → GG p l e R s m args below meth c G A nL ce sl Q I pm L pc (.int y :: rest)) : GG p l e R s m args below meth c G A nL ce sl Q I pm L pc (.int x :: rest) := k x rfl
theorem g_eqi {x y : Int32} (h : x = y) (k : GG p l e R s m args below meth c G A nL ce sl Q I pm L pc (.int y :: rest)) : GG p l e R s m args below meth c G A nL ce sl Q I pm L pc (.int x :: rest) := h ▸ k
theorem g_sub {L' : List (Nat × Value)} (ks : List Nat) (hl : lv_pick L ks = L') (k : GG p l e R s m args below meth c G A nL ce sl Q I pm L' pc st) : GG p l e R s m args below meth c G A nL ce sl Q I pm L pc st := fun H locs ls h1 h2 h3 => k H locs ls h1 h2 (lv_sub h3 ks hl)
theorem g_I {I' : Ii} (h : I = I') (k : GG p l e R s m args below meth c G A nL ce sl Q I' pm L pc st) : GG p l e R s m args below meth c G A nL ce sl Q I pm L pc st := h ▸ k
theorem g_tern1 {x : Int32} (q : Prop) [Decidable q] (a b : Int32) (pcJ : Nat) (hbr : (q → GG p l e R s m args below meth c G A nL ce sl Q I pm L pcJ (.int a :: rest)) → (¬ q → GG p l e R s m args below meth c G A nL ce sl Q I pm L pcJ (.int b :: rest)) → GG p l e R s m args below meth c G A nL ce sl Q I pm L pc (.int x :: rest)) (kk : GG p l e R s m args below meth c G A nL ce sl Q I pm L pcJ (.int (if q then a else b) :: rest)) : GG p l e R s m args below meth c G A nL ce sl Q I pm L pc (.int x :: rest) :=
  hbr (fun h => by rw [if_pos h] at kk; exact kk) (fun h => by rw [if_neg h] at kk; exact kk)
theorem g_tern2 {x y : Int32} (q : Prop) [Decidable q] (a b : Int32) (pcJ : Nat) (hbr : (q → GG p l e R s m args below meth c G A nL ce sl Q I pm L pcJ (.int a :: rest)) → (¬ q → GG p l e R s m args below meth c G A nL ce sl Q I pm L pcJ (.int b :: rest)) → GG p l e R s m args below meth c G A nL ce sl Q I pm L pc (.int y :: .int x :: rest)) (kk : GG p l e R s m args below meth c G A nL ce sl Q I pm L pcJ (.int (if q then a else b) :: rest)) : GG p l e R s m args below meth c G A nL ce sl Q I pm L pc (.int y :: .int x :: rest) :=
  hbr (fun h => by rw [if_pos h] at kk; exact kk) (fun h => by rw [if_neg h] at kk; exact kk)
theorem g_goto (F : FX p s m args c cc nL own G A) {off : Int} (tgt : Nat) (hd : decode cc pc = .ok (.goto off, 3)) (ht : (pc : Int) + off = (tgt : Int)) (k : GG p l e R s m args below meth c G A nL ce sl Q I pm L tgt st) : GG p l e R s m args below meth c G A nL ce sl Q I pm L pc st := fun H locs ls h1 h2 h3 => lv_goto F.1.1 F.1.2.1 hd ht (k H locs ls h1 h2 h3)
theorem g_dup (F : FX p s m args c cc nL own G A) {v : Value} (hd : decode cc pc = .ok (.dup, 1)) (hv : v.category = 1) (k : GG p l e R s m args below meth c G A nL ce sl Q I pm L (pc + 1) (v :: v :: rest)) : GG p l e R s m args below meth c G A nL ce sl Q I pm L pc (v :: rest) := fun H locs ls h1 h2 h3 => lv_dup F.1.1 F.1.2.1 hd hv (k H locs ls h1 h2 h3)
theorem g_dup2 (F : FX p s m args c cc nL own G A) {v w : Value} (hd : decode cc pc = .ok (.dup2, 1)) (hv : v.category = 1) (hw : w.category = 1) (k : GG p l e R s m args below meth c G A nL ce sl Q I pm L (pc + 1) (v :: w :: v :: w :: rest)) : GG p l e R s m args below meth c G A nL ce sl Q I pm L pc (v :: w :: rest) := fun H locs ls h1 h2 h3 => lv_dup2_11 F.1.1 F.1.2.1 hd hv hw (k H locs ls h1 h2 h3)
theorem g_pop (F : FX p s m args c cc nL own G A) {v : Value} (hd : decode cc pc = .ok (.pop, 1)) (hv : v.category = 1) (k : GG p l e R s m args below meth c G A nL ce sl Q I pm L (pc + 1) rest) : GG p l e R s m args below meth c G A nL ce sl Q I pm L pc (v :: rest) := fun H locs ls h1 h2 h3 => lv_pop F.1.1 F.1.2.1 hd hv (k H locs ls h1 h2 h3)
theorem g_null (F : FX p s m args c cc nL own G A) (hd : decode cc pc = .ok (.aconst_null, 1)) (k : GG p l e R s m args below meth c G A nL ce sl Q I pm L (pc + 1) (.null :: st)) : GG p l e R s m args below meth c G A nL ce sl Q I pm L pc st := fun H locs ls h1 h2 h3 => lv_null F.1.1 F.1.2.1 hd (k H locs ls h1 h2 h3)
theorem g_ifnull (F : FX p s m args c cc nL own G A) {x : Nat} {off : Int} (hd : decode cc pc = .ok (.ifnull off, 3)) (k : GG p l e R s m args below meth c G A nL ce sl Q I pm L (pc + 3) rest) : GG p l e R s m args below meth c G A nL ce sl Q I pm L pc (.ref x :: rest) := fun H locs ls h1 h2 h3 => lv_ifnull F.1.1 F.1.2.1 hd (k H locs ls h1 h2 h3)
theorem g_ifnullN (F : FX p s m args c cc nL own G A) {off : Int} (tgt : Nat) (hd : decode cc pc = .ok (.ifnull off, 3)) (ht : (pc : Int) + off = (tgt : Int)) (k : GG p l e R s m args below meth c G A nL ce sl Q I pm L tgt rest) : GG p l e R s m args below meth c G A nL ce sl Q I pm L pc (.null :: rest) := fun H locs ls h1 h2 h3 => lv_ifnullN F.1.1 F.1.2.1 hd ht (k H locs ls h1 h2 h3)
theorem g_ifnonnull (F : FX p s m args c cc nL own G A) {x : Nat} {off : Int} (tgt : Nat) (hd : decode cc pc = .ok (.ifnonnull off, 3)) (ht : (pc : Int) + off = (tgt : Int)) (k : GG p l e R s m args below meth c G A nL ce sl Q I pm L tgt rest) : GG p l e R s m args below meth c G A nL ce sl Q I pm L pc (.ref x :: rest) := fun H locs ls h1 h2 h3 => lv_ifnonnull F.1.1 F.1.2.1 hd ht (k H locs ls h1 h2 h3)
theorem g_ifnonnullN (F : FX p s m args c cc nL own G A) {off : Int} (hd : decode cc pc = .ok (.ifnonnull off, 3)) (k : GG p l e R s m args below meth c G A nL ce sl Q I pm L (pc + 3) rest) : GG p l e R s m args below meth c G A nL ce sl Q I pm L pc (.null :: rest) := fun H locs ls h1 h2 h3 => lv_ifnonnullN F.1.1 F.1.2.1 hd (k H locs ls h1 h2 h3)
theorem g_iadd (F : FX p s m args c cc nL own G A) {x y : Int32} (hd : decode cc pc = .ok (.iadd, 1)) (k : GG p l e R s m args below meth c G A nL ce sl Q I pm L (pc + 1) (.int (x + y) :: rest)) : GG p l e R s m args below meth c G A nL ce sl Q I pm L pc (.int y :: .int x :: rest) := fun H locs ls h1 h2 h3 => lv_iadd F.1.1 F.1.2.1 hd (k H locs ls h1 h2 h3)
theorem g_isub (F : FX p s m args c cc nL own G A) {x y : Int32} (hd : decode cc pc = .ok (.isub, 1)) (k : GG p l e R s m args below meth c G A nL ce sl Q I pm L (pc + 1) (.int (x - y) :: rest)) : GG p l e R s m args below meth c G A nL ce sl Q I pm L pc (.int y :: .int x :: rest) := fun H locs ls h1 h2 h3 => lv_isub F.1.1 F.1.2.1 hd (k H locs ls h1 h2 h3)
theorem g_imul (F : FX p s m args c cc nL own G A) {x y : Int32} (hd : decode cc pc = .ok (.imul, 1)) (k : GG p l e R s m args below meth c G A nL ce sl Q I pm L (pc + 1) (.int (x * y) :: rest)) : GG p l e R s m args below meth c G A nL ce sl Q I pm L pc (.int y :: .int x :: rest) := fun H locs ls h1 h2 h3 => lv_imul F.1.1 F.1.2.1 hd (k H locs ls h1 h2 h3)
theorem g_iand (F : FX p s m args c cc nL own G A) {x y : Int32} (hd : decode cc pc = .ok (.iand, 1)) (k : GG p l e R s m args below meth c G A nL ce sl Q I pm L (pc + 1) (.int (x &&& y) :: rest)) : GG p l e R s m args below meth c G A nL ce sl Q I pm L pc (.int y :: .int x :: rest) := fun H locs ls h1 h2 h3 => lv_iand F.1.1 F.1.2.1 hd (k H locs ls h1 h2 h3)
theorem g_ior (F : FX p s m args c cc nL own G A) {x y : Int32} (hd : decode cc pc = .ok (.ior, 1)) (k : GG p l e R s m args below meth c G A nL ce sl Q I pm L (pc + 1) (.int (x ||| y) :: rest)) : GG p l e R s m args below meth c G A nL ce sl Q I pm L pc (.int y :: .int x :: rest) := fun H locs ls h1 h2 h3 => lv_ior F.1.1 F.1.2.1 hd (k H locs ls h1 h2 h3)
theorem g_ixor (F : FX p s m args c cc nL own G A) {x y : Int32} (hd : decode cc pc = .ok (.ixor, 1)) (k : GG p l e R s m args below meth c G A nL ce sl Q I pm L (pc + 1) (.int (x ^^^ y) :: rest)) : GG p l e R s m args below meth c G A nL ce sl Q I pm L pc (.int y :: .int x :: rest) := fun H locs ls h1 h2 h3 => lv_ixor F.1.1 F.1.2.1 hd (k H locs ls h1 h2 h3)
theorem g_idiv (F : FX p s m args c cc nL own G A) {x y : Int32} (hd : decode cc pc = .ok (.idiv, 1)) (hne : ¬ y = 0) (k : GG p l e R s m args below meth c G A nL ce sl Q I pm L (pc + 1) (.int (x / y) :: rest)) : GG p l e R s m args below meth c G A nL ce sl Q I pm L pc (.int y :: .int x :: rest) := fun H locs ls h1 h2 h3 => lv_idiv F.1.1 F.1.2.1 hd hne (k H locs ls h1 h2 h3)
theorem irem_eq (x y : Int32) : x - x / y * y = x % y := by
  apply Int32.toInt_inj.mp
  have h := Int32.toInt_bmod_size (x % y)
  rw [← h, Int32.toInt_sub, Int32.toInt_mul, Int32.toInt_div, Int32.toInt_mod, Int.bmod_mul_bmod, Int.sub_bmod_bmod, Int.tmod_def, Int.mul_comm]
theorem g_irem (F : FX p s m args c cc nL own G A) {x y : Int32} (hd : decode cc pc = .ok (.irem, 1)) (hne : ¬ y = 0) (k : GG p l e R s m args below meth c G A nL ce sl Q I pm L (pc + 1) (.int (x % y) :: rest)) : GG p l e R s m args below meth c G A nL ce sl Q I pm L pc (.int y :: .int x :: rest) := fun H locs ls h1 h2 h3 => lv_irem F.1.1 F.1.2.1 hd hne (by rw [irem_eq]; exact k H locs ls h1 h2 h3)
theorem g_ineg (F : FX p s m args c cc nL own G A) {x : Int32} (hd : decode cc pc = .ok (.ineg, 1)) (k : GG p l e R s m args below meth c G A nL ce sl Q I pm L (pc + 1) (.int (-x) :: rest)) : GG p l e R s m args below meth c G A nL ce sl Q I pm L pc (.int x :: rest) := fun H locs ls h1 h2 h3 => lv_ineg F.1.1 F.1.2.1 hd (k H locs ls h1 h2 h3)
theorem g_i2l (F : FX p s m args c cc nL own G A) {x : Int32} (hd : decode cc pc = .ok (.i2l, 1)) (k : GG p l e R s m args below meth c G A nL ce sl Q I pm L (pc + 1) (.long x.toInt64 :: rest)) : GG p l e R s m args below meth c G A nL ce sl Q I pm L pc (.int x :: rest) := fun H locs ls h1 h2 h3 => lv_i2l F.1.1 F.1.2.1 hd rfl (k H locs ls h1 h2 h3)
theorem g_l2i (F : FX p s m args c cc nL own G A) {x : Int64} (hd : decode cc pc = .ok (.l2i, 1)) (k : GG p l e R s m args below meth c G A nL ce sl Q I pm L (pc + 1) (.int x.toInt32 :: rest)) : GG p l e R s m args below meth c G A nL ce sl Q I pm L pc (.long x :: rest) := fun H locs ls h1 h2 h3 => lv_l2i F.1.1 F.1.2.1 hd rfl (k H locs ls h1 h2 h3)
theorem g_i2c (F : FX p s m args c cc nL own G A) {x : Int32} (hd : decode cc pc = .ok (.i2c, 1)) (k : GG p l e R s m args below meth c G A nL ce sl Q I pm L (pc + 1) (.int (x.toUInt32 % 65536).toInt32 :: rest)) : GG p l e R s m args below meth c G A nL ce sl Q I pm L pc (.int x :: rest) := fun H locs ls h1 h2 h3 => lv_i2c F.1.1 F.1.2.1 hd rfl (k H locs ls h1 h2 h3)
theorem g_lushr (F : FX p s m args c cc nL own G A) {x : Int64} {y : Int32} (hd : decode cc pc = .ok (.lushr, 1)) (k : GG p l e R s m args below meth c G A nL ce sl Q I pm L (pc + 1) (.long (x.toUInt64 >>> (y.toInt64.toUInt64 &&& Int64.toUInt64 63)).toInt64 :: rest)) : GG p l e R s m args below meth c G A nL ce sl Q I pm L pc (.int y :: .long x :: rest) := fun H locs ls h1 h2 h3 => lv_lushr F.1.1 F.1.2.1 hd rfl (k H locs ls h1 h2 h3)
theorem g_lshl (F : FX p s m args c cc nL own G A) {x : Int64} {y : Int32} (hd : decode cc pc = .ok (.lshl, 1)) (k : GG p l e R s m args below meth c G A nL ce sl Q I pm L (pc + 1) (.long (x <<< (y.toInt64 &&& 63)) :: rest)) : GG p l e R s m args below meth c G A nL ce sl Q I pm L pc (.int y :: .long x :: rest) := fun H locs ls h1 h2 h3 => lv_lshl F.1.1 F.1.2.1 hd rfl (k H locs ls h1 h2 h3)
theorem g_land (F : FX p s m args c cc nL own G A) {x y : Int64} (hd : decode cc pc = .ok (.land, 1)) (k : GG p l e R s m args below meth c G A nL ce sl Q I pm L (pc + 1) (.long (x &&& y) :: rest)) : GG p l e R s m args below meth c G A nL ce sl Q I pm L pc (.long y :: .long x :: rest) := fun H locs ls h1 h2 h3 => lv_land F.1.1 F.1.2.1 hd (k H locs ls h1 h2 h3)
theorem g_lor (F : FX p s m args c cc nL own G A) {x y : Int64} (hd : decode cc pc = .ok (.lor, 1)) (k : GG p l e R s m args below meth c G A nL ce sl Q I pm L (pc + 1) (.long (x ||| y) :: rest)) : GG p l e R s m args below meth c G A nL ce sl Q I pm L pc (.long y :: .long x :: rest) := fun H locs ls h1 h2 h3 => lv_lor F.1.1 F.1.2.1 hd (k H locs ls h1 h2 h3)
theorem g_lcmp (F : FX p s m args c cc nL own G A) {x y : Int64} (hd : decode cc pc = .ok (.lcmp, 1)) (k : GG p l e R s m args below meth c G A nL ce sl Q I pm L (pc + 1) (.int (lg_cmp x y) :: rest)) : GG p l e R s m args below meth c G A nL ce sl Q I pm L pc (.long y :: .long x :: rest) := fun H locs ls h1 h2 h3 => W.lcmp F.1.1 F.1.2.1 hd (k H locs ls h1 h2 h3)
theorem g_if_eq (F : FX p s m args c cc nL own G A) {x : Int32} {off : Int} (tgt : Nat) (hd : decode cc pc = .ok (.ifCond .eq off, 3)) (ht : (pc : Int) + off = (tgt : Int)) (kt : x = 0 → GG p l e R s m args below meth c G A nL ce sl Q I pm L tgt rest) (kf : ¬ x = 0 → GG p l e R s m args below meth c G A nL ce sl Q I pm L (pc + 3) rest) : GG p l e R s m args below meth c G A nL ce sl Q I pm L pc (.int x :: rest) := fun H locs ls h1 h2 h3 => lv_if_eq F.1.1 F.1.2.1 hd ht (fun q => kt q H locs ls h1 h2 h3) (fun q => kf q H locs ls h1 h2 h3)
theorem g_icmp_eq (F : FX p s m args c cc nL own G A) {x y : Int32} {off : Int} (tgt : Nat) (hd : decode cc pc = .ok (.if_icmp .eq off, 3)) (ht : (pc : Int) + off = (tgt : Int)) (kt : x = y → GG p l e R s m args below meth c G A nL ce sl Q I pm L tgt rest) (kf : ¬ x = y → GG p l e R s m args below meth c G A nL ce sl Q I pm L (pc + 3) rest) : GG p l e R s m args below meth c G A nL ce sl Q I pm L pc (.int y :: .int x :: rest) := fun H locs ls h1 h2 h3 => lv_icmp_eq F.1.1 F.1.2.1 hd ht (fun q => kt q H locs ls h1 h2 h3) (fun q => kf q H locs ls h1 h2 h3)
theorem g_if_ne (F : FX p s m args c cc nL own G A) {x : Int32} {off : Int} (tgt : Nat) (hd : decode cc pc = .ok (.ifCond .ne off, 3)) (ht : (pc : Int) + off = (tgt : Int)) (kt : ¬ x = 0 → GG p l e R s m args below meth c G A nL ce sl Q I pm L tgt rest) (kf : x = 0 → GG p l e R s m args below meth c G A nL ce sl Q I pm L (pc + 3) rest) : GG p l e R s m args below meth c G A nL ce sl Q I pm L pc (.int x :: rest) := fun H locs ls h1 h2 h3 => lv_if_ne F.1.1 F.1.2.1 hd ht (fun q => kt q H locs ls h1 h2 h3) (fun q => kf q H locs ls h1 h2 h3)
theorem g_icmp_ne (F : FX p s m args c cc nL own G A) {x y : Int32} {off : Int} (tgt : Nat) (hd : decode cc pc = .ok (.if_icmp .ne off, 3)) (ht : (pc : Int) + off = (tgt : Int)) (kt : ¬ x = y → GG p l e R s m args below meth c G A nL ce sl Q I pm L tgt rest) (kf : x = y → GG p l e R s m args below meth c G A nL ce sl Q I pm L (pc + 3) rest) : GG p l e R s m args below meth c G A nL ce sl Q I pm L pc (.int y :: .int x :: rest) := fun H locs ls h1 h2 h3 => lv_icmp_ne F.1.1 F.1.2.1 hd ht (fun q => kt q H locs ls h1 h2 h3) (fun q => kf q H locs ls h1 h2 h3)
theorem g_if_lt (F : FX p s m args c cc nL own G A) {x : Int32} {off : Int} (tgt : Nat) (hd : decode cc pc = .ok (.ifCond .lt off, 3)) (ht : (pc : Int) + off = (tgt : Int)) (kt : x < 0 → GG p l e R s m args below meth c G A nL ce sl Q I pm L tgt rest) (kf : ¬ x < 0 → GG p l e R s m args below meth c G A nL ce sl Q I pm L (pc + 3) rest) : GG p l e R s m args below meth c G A nL ce sl Q I pm L pc (.int x :: rest) := fun H locs ls h1 h2 h3 => lv_if_lt F.1.1 F.1.2.1 hd ht (fun q => kt q H locs ls h1 h2 h3) (fun q => kf q H locs ls h1 h2 h3)
theorem g_icmp_lt (F : FX p s m args c cc nL own G A) {x y : Int32} {off : Int} (tgt : Nat) (hd : decode cc pc = .ok (.if_icmp .lt off, 3)) (ht : (pc : Int) + off = (tgt : Int)) (kt : x < y → GG p l e R s m args below meth c G A nL ce sl Q I pm L tgt rest) (kf : ¬ x < y → GG p l e R s m args below meth c G A nL ce sl Q I pm L (pc + 3) rest) : GG p l e R s m args below meth c G A nL ce sl Q I pm L pc (.int y :: .int x :: rest) := fun H locs ls h1 h2 h3 => lv_icmp_lt F.1.1 F.1.2.1 hd ht (fun q => kt q H locs ls h1 h2 h3) (fun q => kf q H locs ls h1 h2 h3)
theorem g_if_ge (F : FX p s m args c cc nL own G A) {x : Int32} {off : Int} (tgt : Nat) (hd : decode cc pc = .ok (.ifCond .ge off, 3)) (ht : (pc : Int) + off = (tgt : Int)) (kt : 0 ≤ x → GG p l e R s m args below meth c G A nL ce sl Q I pm L tgt rest) (kf : ¬ 0 ≤ x → GG p l e R s m args below meth c G A nL ce sl Q I pm L (pc + 3) rest) : GG p l e R s m args below meth c G A nL ce sl Q I pm L pc (.int x :: rest) := fun H locs ls h1 h2 h3 => lv_if_ge F.1.1 F.1.2.1 hd ht (fun q => kt q H locs ls h1 h2 h3) (fun q => kf q H locs ls h1 h2 h3)
theorem g_icmp_ge (F : FX p s m args c cc nL own G A) {x y : Int32} {off : Int} (tgt : Nat) (hd : decode cc pc = .ok (.if_icmp .ge off, 3)) (ht : (pc : Int) + off = (tgt : Int)) (kt : y ≤ x → GG p l e R s m args below meth c G A nL ce sl Q I pm L tgt rest) (kf : ¬ y ≤ x → GG p l e R s m args below meth c G A nL ce sl Q I pm L (pc + 3) rest) : GG p l e R s m args below meth c G A nL ce sl Q I pm L pc (.int y :: .int x :: rest) := fun H locs ls h1 h2 h3 => lv_icmp_ge F.1.1 F.1.2.1 hd ht (fun q => kt q H locs ls h1 h2 h3) (fun q => kf q H locs ls h1 h2 h3)
theorem g_if_gt (F : FX p s m args c cc nL own G A) {x : Int32} {off : Int} (tgt : Nat) (hd : decode cc pc = .ok (.ifCond .gt off, 3)) (ht : (pc : Int) + off = (tgt : Int)) (kt : 0 < x → GG p l e R s m args below meth c G A nL ce sl Q I pm L tgt rest) (kf : ¬ 0 < x → GG p l e R s m args below meth c G A nL ce sl Q I pm L (pc + 3) rest) : GG p l e R s m args below meth c G A nL ce sl Q I pm L pc (.int x :: rest) := fun H locs ls h1 h2 h3 => lv_if_gt F.1.1 F.1.2.1 hd ht (fun q => kt q H locs ls h1 h2 h3) (fun q => kf q H locs ls h1 h2 h3)
theorem g_icmp_gt (F : FX p s m args c cc nL own G A) {x y : Int32} {off : Int} (tgt : Nat) (hd : decode cc pc = .ok (.if_icmp .gt off, 3)) (ht : (pc : Int) + off = (tgt : Int)) (kt : y < x → GG p l e R s m args below meth c G A nL ce sl Q I pm L tgt rest) (kf : ¬ y < x → GG p l e R s m args below meth c G A nL ce sl Q I pm L (pc + 3) rest) : GG p l e R s m args below meth c G A nL ce sl Q I pm L pc (.int y :: .int x :: rest) := fun H locs ls h1 h2 h3 => lv_icmp_gt F.1.1 F.1.2.1 hd ht (fun q => kt q H locs ls h1 h2 h3) (fun q => kf q H locs ls h1 h2 h3)
theorem g_if_le (F : FX p s m args c cc nL own G A) {x : Int32} {off : Int} (tgt : Nat) (hd : decode cc pc = .ok (.ifCond .le off, 3)) (ht : (pc : Int) + off = (tgt : Int)) (kt : x ≤ 0 → GG p l e R s m args below meth c G A nL ce sl Q I pm L tgt rest) (kf : ¬ x ≤ 0 → GG p l e R s m args below meth c G A nL ce sl Q I pm L (pc + 3) rest) : GG p l e R s m args below meth c G A nL ce sl Q I pm L pc (.int x :: rest) := fun H locs ls h1 h2 h3 => lv_if_le F.1.1 F.1.2.1 hd ht (fun q => kt q H locs ls h1 h2 h3) (fun q => kf q H locs ls h1 h2 h3)
theorem g_icmp_le (F : FX p s m args c cc nL own G A) {x y : Int32} {off : Int} (tgt : Nat) (hd : decode cc pc = .ok (.if_icmp .le off, 3)) (ht : (pc : Int) + off = (tgt : Int)) (kt : x ≤ y → GG p l e R s m args below meth c G A nL ce sl Q I pm L tgt rest) (kf : ¬ x ≤ y → GG p l e R s m args below meth c G A nL ce sl Q I pm L (pc + 3) rest) : GG p l e R s m args below meth c G A nL ce sl Q I pm L pc (.int y :: .int x :: rest) := fun H locs ls h1 h2 h3 => lv_icmp_le F.1.1 F.1.2.1 hd ht (fun q => kt q H locs ls h1 h2 h3) (fun q => kf q H locs ls h1 h2 h3)
theorem g_tableOut (F : FX p s m args c cc nL own G A) {dflt lo hi : Int} {offs : Array Int} {len : Nat} {x : Int32} (tgt : Nat) (hd : decode cc pc = .ok (.tableswitch dflt lo hi offs, len)) (h : x.toInt < lo ∨ hi < x.toInt) (ht : (pc : Int) + dflt = (tgt : Int)) (k : GG p l e R s m args below meth c G A nL ce sl Q I pm L tgt rest) : GG p l e R s m args below meth c G A nL ce sl Q I pm L pc (.int x :: rest) := fun H locs ls h1 h2 h3 => lv_tableOut F.1.1 F.1.2.1 hd h ht (k H locs ls h1 h2 h3)
theorem g_tableIn (F : FX p s m args c cc nL own G A) {dflt lo hi : Int} {offs : Array Int} {len : Nat} {x : Int32} {off : Int} (tgt : Nat) (hd : decode cc pc = .ok (.tableswitch dflt lo hi offs, len)) (h1' : ¬ x.toInt < lo) (h2' : ¬ hi < x.toInt) (ho : offs[(x.toInt - lo).toNat]? = some off) (ht : (pc : Int) + off = (tgt : Int)) (k : GG p l e R s m args below meth c G A nL ce sl Q I pm L tgt rest) : GG p l e R s m args below meth c G A nL ce sl Q I pm L pc (.int x :: rest) := fun H locs ls h1 h2 h3 => lv_tableIn F.1.1 F.1.2.1 hd h1' h2' ho ht (k H locs ls h1 h2 h3)
theorem g_lookup (F : FX p s m args c cc nL own G A) {dflt : Int} {ps : Array (Int × Int)} {len : Nat} {x : Int32} {off : Int} (tgt : Nat) (hd : decode cc pc = .ok (.lookupswitch dflt ps, len)) (hp : (ps.toList.zip (ps.toList.drop 1)).all (fun (a, next) => a.1 < next.1) = true) (ho : Op.lookupswitch.offset ps.toList dflt x.toInt = off) (ht : (pc : Int) + off = (tgt : Int)) (k : GG p l e R s m args below meth c G A nL ce sl Q I pm L tgt rest) : GG p l e R s m args below meth c G A nL ce sl Q I pm L pc (.int x :: rest) := fun H locs ls h1 h2 h3 => lv_lookup F.1.1 F.1.2.1 hd hp ho ht (k H locs ls h1 h2 h3)
/-- a field is read: what the world has there -/
theorem g_get (F : FX p s m args c cc nL own G A) {C : String} {T : u_T} {N ci index K i : Nat} {fs : List Value} {v : Value} (hin : ∀ w ∈ u_ws C T N, w ∈ wsL_law) (hc : vwCl[ci]? = some (C, T, N)) (hi : i < cbK K) (he : cvv G.2.1 G.2.2 I pm K i = .inr (ci, fs)) (k : Nat) (hk : k < N) (hw : Cond.fieldLink own index (T k).1 (T k).2.1 (T k).2.2.1 ∈ wsL_law) (hv : fs[k]? = some v) (hd : decode cc pc = .ok (.getfield index, 3)) (kk : GG p l e R s m args below meth c G A nL ce sl Q I pm L (pc + 3) (v :: rest)) : GG p l e R s m args below meth c G A nL ce sl Q I pm L pc (.ref (G.2.2 K i) :: rest) := fun H locs ls h1 h2 h3 =>
  va_get (D := G.1) (cl := vwCl) (tys := tyz G) (ws := [(G.2.2 K i, .inr (ci, fs))]) F.1.1 F.1.2.1 F.1.2.2.2.2 hin F.1.2.2.2.1 F.2.1 (he ▸ h1.one hi) 0 rfl hc k hk (F.w hw) (fun _ h => h) hv hd (kk H locs ls h1 h2 h3)
theorem g_put (F : FX p s m args c cc nL own G A) {C : String} {T : u_T} {N ci index K i : Nat} {fs : List Value} {x : Int32} {ty : FieldType} (hin : ∀ w ∈ u_ws C T N, w ∈ wsL_law) (ty0 : Nat → FieldType) (hty : ∀ k, k < N → parseFieldDescriptor (T k).2.2.1 = some (ty0 k)) (hnm : ∀ a, a < N → ∀ b, b < N → a ≠ b → (T a).2.1 ≠ (T b).2.1) (hc : vwCl[ci]? = some (C, T, N)) (hi : i < cbK K) (he : cvv G.2.1 G.2.2 I pm K i = .inr (ci, fs)) (k : Nat) (hk : k < N) (hw : Cond.fieldLink own index (T k).1 (T k).2.1 (T k).2.2.1 ∈ wsL_law) (hfin : (T k).2.2.2 = false) (hdt : parseFieldDescriptor (T k).2.2.1 = some ty) (hn : narrow ty (.int x) = .int x) (hfit : fits ty (.int x) = true) (hl : k < fs.length)
    (he' : cvv G.2.1 G.2.2 (up3 I K i k x) pm K i = .inr (ci, fs.set k (.int x))) (hd : decode cc pc = .ok (.putfield index, 3)) (kk : GG p l e R s m args below meth c G A nL ce sl Q (up3 I K i k x) pm L (pc + 3) rest) : GG p l e R s m args below meth c G A nL ce sl Q I pm L pc (.int x :: .ref (G.2.2 K i) :: rest) := by
  intro H locs ls h1 h2 h3
  have hap := va_apart (own := own) F.1.2.2.2.2 hin ty0 hty hnm F.2.1 hc
  have h10 := h1 K i hi
  rw [he] at h10
  obtain ⟨r, g1, cell, q1, q2, q3, q4⟩ := h10
  have hr : r = (C, T, N) := Option.some.inj (g1.symm.trans hc)
  subst hr
  obtain ⟨hS, hfc, kC, hkC, hkind⟩ := F.2.1.1 ci _ hc
  obtain ⟨cf, kf, fi, f, hi2, hsl⟩ := hS k hk
  have hlay := F.1.2.2.2.2 _ (hin _ (u_in_lay hk))
  unfold u_lay at hlay
  rw [if_neg (by rw [hfin]; decide)] at hlay
  have hst := (u_facts hfc hkC (u_lays F.1.2.2.2.2 hin hk) hi2).1
  have h6 := u_store hfc hkC hkind hlay hi2 hdt hn hfit
  refine W.putK F.1.1 F.1.2.1 (f := f) ⟨F.1.2.2.2.1, F.w hw, ⟨_, _, _, hi2⟩, hst⟩ (by rw [q2]; exact h6) q1 q3 (by rw [hsl]; exact k2_hasslot (q4 k hk)) rfl rfl hd fun H' e1 e2 e3 => ?_
  rw [hsl] at e1 ⊢
  refine kk H' _ ls (h1.put F.2.2.2.1 hi ?_ e3 (fun a b hab => cvv_cong (fun j => up3_n (fun q => hab ⟨q.1, q.2.1⟩)) (fun _ _ => rfl))) (h2.put e2 e3 (F.2.2.2.2 K i hi)) h3
  rw [he']
  exact ⟨_, hc, t_OB.to (V := updV (vp_V fs) k (.int x)) ⟨_, e1, q2, q3, t_set q4 hap hk (.int x)⟩ (fun j _ => vp_updV_set hl (.int x) j)⟩
theorem g_iald (F : FX p s m args c cc nL own G A) {K i n : Nat} {f : Nat → Int32} {x : Int32} (hi : i < cbK K) (he : cvv G.2.1 G.2.2 I pm K i = .inl (G.2.1 1, n, .inl f)) (hx : vp_in x n) (hd : decode cc pc = .ok (.iaload, 1)) (kk : GG p l e R s m args below meth c G A nL ce sl Q I pm L (pc + 1) (.int (f x.toNatClampNeg) :: rest)) : GG p l e R s m args below meth c G A nL ce sl Q I pm L pc (.int x :: .ref (G.2.2 K i) :: rest) := fun H locs ls h1 h2 h3 =>
  va_iald (D := G.1) (cl := vwCl) (tys := tyz G) (ws := [(G.2.2 K i, .inl (G.2.1 1, n, .inl f))]) F.1.1 F.1.2.1 F.2.1 (he ▸ h1.one hi) 0 1 rfl rfl hx hd (kk H locs ls h1 h2 h3)
theorem g_zald (F : FX p s m args c cc nL own G A) {K i n : Nat} {f : Nat → Int32} {x : Int32} (hi : i < cbK K) (he : cvv G.2.1 G.2.2 I pm K i = .inl (G.2.1 2, n, .inl f)) (hx : vp_in x n) (hd : decode cc pc = .ok (.baload, 1)) (kk : GG p l e R s m args below meth c G A nL ce sl Q I pm L (pc + 1) (.int (f x.toNatClampNeg) :: rest)) : GG p l e R s m args below meth c G A nL ce sl Q I pm L pc (.int x :: .ref (G.2.2 K i) :: rest) := fun H locs ls h1 h2 h3 =>
  va_zald (D := G.1) (cl := vwCl) (tys := tyz G) (ws := [(G.2.2 K i, .inl (G.2.1 2, n, .inl f))]) F.1.1 F.1.2.1 F.2.1 (he ▸ h1.one hi) 0 2 rfl rfl hx hd (kk H locs ls h1 h2 h3)
theorem g_cald (F : FX p s m args c cc nL own G A) {K i n : Nat} {f : Nat → Int32} {x : Int32} (hi : i < cbK K) (he : cvv G.2.1 G.2.2 I pm K i = .inl (G.2.1 0, n, .inl f)) (hx : vp_in x n) (hd : decode cc pc = .ok (.caload, 1)) (kk : GG p l e R s m args below meth c G A nL ce sl Q I pm L (pc + 1) (.int (f x.toNatClampNeg) :: rest)) : GG p l e R s m args below meth c G A nL ce sl Q I pm L pc (.int x :: .ref (G.2.2 K i) :: rest) := fun H locs ls h1 h2 h3 =>
  va_cald (D := G.1) (cl := vwCl) (tys := tyz G) (ws := [(G.2.2 K i, .inl (G.2.1 0, n, .inl f))]) F.1.1 F.1.2.1 F.2.1 (he ▸ h1.one hi) 0 0 rfl rfl hx hd (kk H locs ls h1 h2 h3)
theorem g_aald (F : FX p s m args c cc nL own G A) {K i n : Nat} {t0 : Nat} {cA : ClassId} {C : String} {f : Nat → Option Nat} {x : Int32} {a : Nat} (hi : i < cbK K) (he : cvv G.2.1 G.2.2 I pm K i = .inl (cA, n, .inr (.inr (.inr (.inr f))))) (ht : (tyz G)[t0]? = some (cA, .object C)) (hx : vp_in x n) (hf : f x.toNatClampNeg = some a) (hd : decode cc pc = .ok (.aaload, 1)) (kk : GG p l e R s m args below meth c G A nL ce sl Q I pm L (pc + 1) (.ref a :: rest)) : GG p l e R s m args below meth c G A nL ce sl Q I pm L pc (.int x :: .ref (G.2.2 K i) :: rest) := fun H locs ls h1 h2 h3 =>
  va_aldq (D := G.1) (cl := vwCl) (tys := tyz G) (ws := [(G.2.2 K i, .inl (cA, n, .inr (.inr (.inr (.inr f)))))]) F.1.1 F.1.2.1 F.2.1 (he ▸ h1.one hi) 0 t0 rfl ht hx hd (by rw [hf]; exact kk H locs ls h1 h2 h3)
theorem g_iast (F : FX p s m args c cc nL own G A) {K i n : Nat} {f : Nat → Int32} {j x : Int32} (hi : i < cbK K) (he : cvv G.2.1 G.2.2 I pm K i = .inl (G.2.1 1, n, .inl f)) (hx : vp_in j n) (he' : cvv G.2.1 G.2.2 (up3 I K i j.toNatClampNeg x) pm K i = .inl (G.2.1 1, n, .inl (upd f j.toNatClampNeg x))) (hd : decode cc pc = .ok (.iastore, 1)) (kk : GG p l e R s m args below meth c G A nL ce sl Q (up3 I K i j.toNatClampNeg x) pm L (pc + 1) rest) : GG p l e R s m args below meth c G A nL ce sl Q I pm L pc (.int x :: .int j :: .ref (G.2.2 K i) :: rest) := by
  intro H locs ls h1 h2 h3
  have h10 := h1 K i hi
  rw [he] at h10
  refine W.iast F.1.1 F.1.2.1 (H := H) h10 ((F.2.1.2 1 _ rfl).1 n (fun j => .int (f j))) (fun q => by cases q) (by show ¬ (j < 0 ∨ (arrV _ _ _).slots.size ≤ _); rw [arrV_size]; exact hx) rfl rfl hd fun H1 e z oq => ?_
  refine kk H1 _ ls (h1.put F.2.2.2.1 hi ?_ oq (fun a b hab => cvv_cong (fun j => up3_n (fun q => hab ⟨q.1, q.2.1⟩)) (fun _ _ => rfl))) (h2.put z oq (F.2.2.2.2 K i hi)) h3
  rw [he']
  show H1[G.2.2 K i]? = some (vp_cell _ _)
  rw [e, vp_cell_i, vp_cell_i, arrV_store]
  congr 2
  funext q
  by_cases hq : q = j.toNatClampNeg
  · subst hq
    simp [updV, upd]
  · simp [updV, upd, hq]
theorem g_zast (F : FX p s m args c cc nL own G A) {K i n : Nat} {f : Nat → Int32} {j x : Int32} (hi : i < cbK K) (he : cvv G.2.1 G.2.2 I pm K i = .inl (G.2.1 2, n, .inl f)) (hx : vp_in j n) (hn : narrow .boolean (.int x) = .int x) (he' : cvv G.2.1 G.2.2 (up3 I K i j.toNatClampNeg x) pm K i = .inl (G.2.1 2, n, .inl (upd f j.toNatClampNeg x))) (hd : decode cc pc = .ok (.bastore, 1)) (kk : GG p l e R s m args below meth c G A nL ce sl Q (up3 I K i j.toNatClampNeg x) pm L (pc + 1) rest) : GG p l e R s m args below meth c G A nL ce sl Q I pm L pc (.int x :: .int j :: .ref (G.2.2 K i) :: rest) := by
  intro H locs ls h1 h2 h3
  have h10 := h1 K i hi
  rw [he] at h10
  refine W.zast F.1.1 F.1.2.1 (H := H) h10 ((F.2.1.2 2 _ rfl).1 n (fun j => .int (f j))) (fun q => by cases q) (by show ¬ (j < 0 ∨ (arrV _ _ _).slots.size ≤ _); rw [arrV_size]; exact hx) rfl rfl hd fun H1 e z oq => ?_
  refine kk H1 _ ls (h1.put F.2.2.2.1 hi ?_ oq (fun a b hab => cvv_cong (fun j => up3_n (fun q => hab ⟨q.1, q.2.1⟩)) (fun _ _ => rfl))) (h2.put z oq (F.2.2.2.2 K i hi)) h3
  rw [he']
  show H1[G.2.2 K i]? = some (vp_cell _ _)
  rw [hn] at e
  rw [e, vp_cell_i, vp_cell_i, arrV_store]
  congr 2
  funext q
  by_cases hq : q = j.toNatClampNeg
  · subst hq
    simp [updV, upd]
  · simp [updV, upd, hq]
theorem g_cast (F : FX p s m args c cc nL own G A) {K i n : Nat} {f : Nat → Int32} {j x : Int32} (hi : i < cbK K) (he : cvv G.2.1 G.2.2 I pm K i = .inl (G.2.1 0, n, .inl f)) (hx : vp_in j n) (hn : narrow .char (.int x) = .int x) (he' : cvv G.2.1 G.2.2 (up3 I K i j.toNatClampNeg x) pm K i = .inl (G.2.1 0, n, .inl (upd f j.toNatClampNeg x))) (hd : decode cc pc = .ok (.castore, 1)) (kk : GG p l e R s m args below meth c G A nL ce sl Q (up3 I K i j.toNatClampNeg x) pm L (pc + 1) rest) : GG p l e R s m args below meth c G A nL ce sl Q I pm L pc (.int x :: .int j :: .ref (G.2.2 K i) :: rest) := by
  intro H locs ls h1 h2 h3
  have h10 := h1 K i hi
  rw [he] at h10
  refine W.cast F.1.1 F.1.2.1 (H := H) h10 ((F.2.1.2 0 _ rfl).1 n (fun j => .int (f j))) (fun q => by cases q) (by show ¬ (j < 0 ∨ (arrV _ _ _).slots.size ≤ _); rw [arrV_size]; exact hx) rfl rfl hd fun H1 e z oq => ?_
  refine kk H1 _ ls (h1.put F.2.2.2.1 hi ?_ oq (fun a b hab => cvv_cong (fun j => up3_n (fun q => hab ⟨q.1, q.2.1⟩)) (fun _ _ => rfl))) (h2.put z oq (F.2.2.2.2 K i hi)) h3
  rw [he']
  show H1[G.2.2 K i]? = some (vp_cell _ _)
  rw [hn] at e
  rw [e, vp_cell_i, vp_cell_i, arrV_store]
  congr 2
  funext q
  by_cases hq : q = j.toNatClampNeg
  · subst hq
    simp [updV, upd]
  · simp [updV, upd, hq]
/-- a loco is laid into a layout's row -/
theorem g_aast (F : FX p s m args c cc nL own G A) {i v : Nat} {j : Int32} (hi : i < 11) (hv : v < 8) (hx : vp_in j 8) (hd : decode cc pc = .ok (.aastore, 1)) (kk : GG p l e R s m args below meth c G A nL ce sl Q I (upP pm i j.toNatClampNeg v) L (pc + 1) rest) : GG p l e R s m args below meth c G A nL ce sl Q I pm L pc (.ref (G.2.2 7 (8 * i + v)) :: .int j :: .ref (G.2.2 1 i) :: rest) := by
  intro H locs ls h1 h2 h3
  have h10 := h1 1 i hi
  have h7 : 8 * i + v < cbK 7 := by show _ < 88; omega
  have h70 := h1 7 (8 * i + v) h7
  obtain ⟨r', hr', cellV, g1, g2, g3, -⟩ := h70
  have hcls := (F.2.1.1 2 (RX2, TX2, 11) rfl).2
  obtain ⟨kA, comp, k1, k2, k3, -⟩ := (F.2.1.2 4 _ rfl).2
  have hcomp : comp = G.1.1 2 := Option.some.inj (k3.symm.trans hcls.1)
  subst hcomp
  obtain ⟨kC, hkC, -⟩ := hcls.2
  refine W.aast F.1.1 F.1.2.1 (H := H) h10 (fun q h => by cases h) (fun h => by cases h) k1 k2 rfl hkC ⟨fun q => hx (Or.inl q), by show _ < (arrV _ _ _).slots.size; rw [arrV_size]; exact Nat.not_le.mp fun q => hx (Or.inr q)⟩ g1 (fun q h => by rw [g3] at h; cases h) (by rw [g2]; exact hkC) (by rw [g2]; exact va_assign hcls) rfl rfl hd fun H1 e z oq => ?_
  refine kk H1 _ ls (h1.put F.2.2.2.1 hi ?_ oq (fun a b hab => cvv_cong (fun j => rfl) (fun ha r => by simp only [upP]; rw [if_neg (fun q => hab ⟨ha, q.1⟩)]))) (h2.put z oq (F.2.2.2.2 1 i hi)) h3
  show H1[G.2.2 1 i]? = some (vp_cell (G.2.1 4) (8, .inr (.inr (.inr (.inr _)))))
  rw [e]
  show some (Cell.setSlot (vp_cell (G.2.1 4) (8, .inr (.inr (.inr (.inr (fun r => some (G.2.2 7 (8 * i + pm i r)))))))) _ _) = _
  rw [vp_cell_q, vp_cell_q, arrV_store]
  congr 2
  funext q
  by_cases hq : q = j.toNatClampNeg
  · subst hq
    simp [updV, upP, va_rf]
  · simp [updV, upP, hq]
/-- System.arraycopy of a whole row of ints onto another -/
theorem g_copyi (F : FX p s m args c cc nL own G A) {index K i K' i' n : Nat} {f g : Nat → Int32} {z : Int32} (hi : i < cbK K) (hi' : i' < cbK K') (he : cvv G.2.1 G.2.2 I pm K i = .inl (G.2.1 1, n, .inl f)) (he2 : cvv G.2.1 G.2.2 I pm K' i' = .inl (G.2.1 1, n, .inl g)) (hw : Cond.methodLink own index arraycopyName ∈ wsL_law) (hw2 : Cond.native arraycopyName ∈ wsL_law) (hw3 : Cond.static arraycopyName ∈ wsL_law) (hw4 : Cond.initialized "java/lang/System" ∈ wsL_law) (hz : z = nI n) (hn : n < 2 ^ 31) (hR : 1 ≤ R.frames ∧ (rest.map fun v => v.category).sum + (nativeFrameWords "java/lang/System" "arraycopy" 5 + 11) ≤ R.locals)
    (he' : cvv G.2.1 G.2.2 (upR I K' i' (va_cpy f g 0 0 n)) pm K' i' = .inl (G.2.1 1, n, .inl (va_cpy f g 0 0 n))) (hd : decode cc pc = .ok (.invokestatic index, 3)) (kk : GG p l e R s m args below meth c G A nL ce sl Q (upR I K' i' (va_cpy f g 0 0 n)) pm L (pc + 3) rest) : GG p l e R s m args below meth c G A nL ce sl Q I pm L pc (.int z :: .int 0 :: .ref (G.2.2 K' i') :: .int 0 :: .ref (G.2.2 K i) :: rest) := by
  intro H locs ls h1 h2 h3
  have hc0 : H[G.2.2 K i]? = some (vp_cell (G.2.1 1) (n, .inl f)) := by have q := h1 K i hi; rw [he] at q; exact q
  have hc1 : H[G.2.2 K' i']? = some (vp_cell (G.2.1 1) (n, .inl g)) := by have q := h1 K' i' hi'; rw [he2] at q; exact q
  subst hz
  have hcl : (nI n).toNatClampNeg = n := nI_clamp hn
  have hn0 : ¬ nI n < 0 := nI_pos hn
  have hnt : (nI n).toInt = (n : Int) := nI_toInt hn
  have z0 : (0 : Int32).toNatClampNeg = 0 := rfl
  intro T hT X
  obtain ⟨-, k0, hk0, cm0, hkk0⟩ := (F.2.1.2 1 _ rfl).1 n (fun j => .int (f j))
  obtain ⟨-, k1, hk1, cm1, hkk1⟩ := (F.2.1.2 1 _ rfl).1 n (fun j => .int (g j))
  obtain ⟨vm', X', step⟩ := X.arraycopy F.1.1 F.1.2.2.2.1 (F.w hw) (F.w hw2) (F.w hw3) (F.w hw4) (src := G.2.2 K i) (dst := G.2.2 K' i') (cs := vp_cell (G.2.1 1) (n, .inl f)) (cd := vp_cell (G.2.1 1) (n, .inl g)) (srcPos := 0) (destPos := 0) (n := nI n) (by rw [hT]; exact hc0) (by rw [hT]; exact hc1)
    (fun _ h => by cases h) (fun _ h => by cases h) (fun h => by cases h) (fun h => by cases h) hk0 hk1 hkk0 hkk1 (by simp [refKind]) (by decide) (by decide) hn0
    (by rw [hnt]; show ¬ _ > ((arrV (G.2.1 1) n (fun j => .int (f j))).slots.size : Int); rw [arrV_size]; simp)
    (by rw [hnt]; show ¬ _ > ((arrV (G.2.1 1) n (fun j => .int (g j))).slots.size : Int); rw [arrV_size]; simp)
    (fun vm₁ _ a ha => by
      rw [hcl] at ha
      have ee : (vp_cell (G.2.1 1) (n, .inl f)).slots.getD ((0 : Int32).toNatClampNeg + a) .null = .int (f a) := by
        show (arrV (G.2.1 1) n (fun j => .int (f j))).slots.getD _ _ = _
        rw [z0, Nat.zero_add, Array.getD_eq_getD_getElem?, arrV_read _ _ ha]
        rfl
      refine ⟨?_, ?_⟩
      · rw [ee]; rfl
      · rw [ee]
        exact trivial)
    (g := F0 m pc ls (.int (nI n) :: .int 0 :: .ref (G.2.2 K' i') :: .int 0 :: .ref (G.2.2 K i) :: rest)) rfl (by rw [F.1.2.2.1]; exact h3.1) (rest := rest) rfl (by rw [F.1.2.1]; exact hd) hR.1 (by show 2 * 0 + _ + _ ≤ _; have := hR.2; omega)
  have e1 : copied (vp_cell (G.2.1 1) (n, .inl f)) (vp_cell (G.2.1 1) (n, .inl g)) 0 0 (nI n) = vp_cell (G.2.1 1) (n, .inl (va_cpy f g 0 0 n)) := by
    have q := va_copied (fun z => Value.int z) (G.2.1 1) (G.2.1 1) f g (n0 := n) (n1 := n) (sp := (0 : Int32).toNatClampNeg) (dp := (0 : Int32).toNatClampNeg) (n := (nI n).toNatClampNeg) (by rw [hcl, z0]; omega)
    have q2 : copied (vp_cell (G.2.1 1) (n, .inl f)) (vp_cell (G.2.1 1) (n, .inl g)) 0 0 (nI n) = vp_cell (G.2.1 1) (n, .inl (va_cpy f g (0 : Int32).toNatClampNeg (0 : Int32).toNatClampNeg (nI n).toNatClampNeg)) := q
    rw [hcl, z0] at q2
    exact q2
  rw [e1] at X' step
  have hl : G.2.2 K' i' < H.size := (Array.getElem?_eq_some_iff.mp hc1).1
  have hheap : ((T.setVm vm').setCell (G.2.2 K' i') (vp_cell (G.2.1 1) (n, .inl (va_cpy f g 0 0 n)))).heap = H.setIfInBounds (G.2.2 K' i') (vp_cell (G.2.1 1) (n, .inl (va_cpy f g 0 0 n))) := by rw [← hT]; rfl
  have oq : ∀ q : Nat, q ≠ G.2.2 K' i' → (H.setIfInBounds (G.2.2 K' i') (vp_cell (G.2.1 1) (n, .inl (va_cpy f g 0 0 n))))[q]? = H[q]? := fun q hq => by simp [Array.getElem?_setIfInBounds, Ne.symm hq]
  obtain ⟨t, a1, b1⟩ := kk _ _ ls (h1.put F.2.2.2.1 hi' (by rw [he']; exact (show (H.setIfInBounds (G.2.2 K' i') _)[G.2.2 K' i']? = some _ by simp [Array.getElem?_setIfInBounds, hl])) oq (fun a b hab => cvv_cong (fun j => upR_n hab) (fun _ _ => rfl))) ⟨by simp; exact h2.1, fun q g1 g2 => by
      rw [oq q (fun e => g2 (by rw [e]; exact F.2.2.2.2 K' i' hi'))]
      exact h2.2.1 q g1 g2, fun q hq => by
      rcases List.mem_append.mp hq with h | h
      · exact h2.2.2 q h
      · obtain ⟨z, -, hz⟩ := List.mem_map.mp h
        rw [← hz]
        exact F.2.2.2.2 K' i' hi'⟩ h3 _ hheap X'
  exact ⟨t, step t a1, b1⟩
theorem g_mmax (F : FX p s m args c cc nL own G A) {index : Nat} {x y : Int32} (hw : Cond.methodLink own index Lib.Math.max.name ∈ wsL_law) (hw2 : Cond.static Lib.Math.max.name ∈ wsL_law) (hw3 : Cond.initialized "java/lang/Math" ∈ wsL_law) (hw4 : Cond.code Lib.Math.max.name Lib.Math.max.code 2 (some .int) ∈ wsL_law) (hR : 1 ≤ R.frames ∧ (rest.map fun v => v.category).sum + 13 ≤ R.locals ∧ ce ≤ R.cells ∧ sl ≤ R.slots) (hd : decode cc pc = .ok (.invokestatic index, 3)) (k : GG p l e R s m args below meth c G A nL ce sl Q I pm L (pc + 3) (.int (if x < y then y else x) :: rest)) : GG p l e R s m args below meth c G A nL ce sl Q I pm L pc (.int y :: .int x :: rest) := fun H locs ls h1 h2 h3 => va_mmax F.1.1 F.1.2.1 (by rw [F.1.2.2.1]; exact h3.1.symm) F.1.2.2.2.1 (F.w hw) (F.w hw2) (F.w hw3) (F.w hw4) hR.1 hR.2.1 hR.2.2.1 hR.2.2.2 hd (k H locs ls h1 h2 h3)
theorem g_mmin (F : FX p s m args c cc nL own G A) {index : Nat} {x y : Int32} (hw : Cond.methodLink own index Lib.Math.min.name ∈ wsL_law) (hw2 : Cond.static Lib.Math.min.name ∈ wsL_law) (hw3 : Cond.initialized "java/lang/Math" ∈ wsL_law) (hw4 : Cond.code Lib.Math.min.name Lib.Math.min.code 2 (some .int) ∈ wsL_law) (hR : 1 ≤ R.frames ∧ (rest.map fun v => v.category).sum + 13 ≤ R.locals ∧ ce ≤ R.cells ∧ sl ≤ R.slots) (hd : decode cc pc = .ok (.invokestatic index, 3)) (k : GG p l e R s m args below meth c G A nL ce sl Q I pm L (pc + 3) (.int (if y < x then y else x) :: rest)) : GG p l e R s m args below meth c G A nL ce sl Q I pm L pc (.int y :: .int x :: rest) := fun H locs ls h1 h2 h3 => va_mmin F.1.1 F.1.2.1 (by rw [F.1.2.2.1]; exact h3.1.symm) F.1.2.2.2.1 (F.w hw) (F.w hw2) (F.w hw3) (F.w hw4) hR.1 hR.2.1 hR.2.2.1 hR.2.2.2 hd (k H locs ls h1 h2 h3)
theorem g_mabs (F : FX p s m args c cc nL own G A) {index : Nat} {x : Int32} (hw : Cond.methodLink own index Lib.Math.abs.name ∈ wsL_law) (hw2 : Cond.static Lib.Math.abs.name ∈ wsL_law) (hw3 : Cond.initialized "java/lang/Math" ∈ wsL_law) (hw4 : Cond.code Lib.Math.abs.name Lib.Math.abs.code 1 (some .int) ∈ wsL_law) (hR : 1 ≤ R.frames ∧ (rest.map fun v => v.category).sum + 13 ≤ R.locals ∧ ce ≤ R.cells ∧ sl ≤ R.slots) (hd : decode cc pc = .ok (.invokestatic index, 3)) (k : GG p l e R s m args below meth c G A nL ce sl Q I pm L (pc + 3) (.int (if 0 ≤ x then x else 0 - x) :: rest)) : GG p l e R s m args below meth c G A nL ce sl Q I pm L pc (.int x :: rest) := fun H locs ls h1 h2 h3 => va_mabs F.1.1 F.1.2.1 (by rw [F.1.2.2.1]; exact h3.1.symm) F.1.2.2.2.1 (F.w hw) (F.w hw2) (F.w hw3) (F.w hw4) hR.1 hR.2.1 hR.2.2.1 hR.2.2.2 hd (k H locs ls h1 h2 h3)
theorem g_callIv (F : FX p s m args c cc nL own G A) {y : MethodName} {b : ByteArray} {n na index ci : Nat} {ret : Option FieldType} {rm : Room} {As : List Value} {post : Int32 → Ii × Pm → Prop} {fs : List Value} {q : vw_C} (K i : Nat) (hM : CI l G y (wz y b n ret) rm (.ref (G.2.2 K i) :: As) I pm post) (hi : i < cbK K) (he : cvv G.2.1 G.2.2 I pm K i = .inr (ci, fs)) (hc : vwCl[ci]? = some q) (hlk : GoodIn wsL_law (wsV own index q.1 y (wz y b n ret))) (hst : st = As.reverse ++ .ref (G.2.2 K i) :: rest) (hna : As.length = na) (hdy : y.cls = q.1 ∧ y.cls ≠ "java/lang/invoke/MethodHandle" ∧ y.cls ≠ "java/lang/invoke/VarHandle" ∧ (parseMethodDescriptor y.desc).map (fun d => d.parameters.length) = some na) (hrm : rm.cells = 0 ∧ rm.slots = 0 ∧ rm.frames + 1 ≤ R.frames ∧ 8 + (n + 11) + rm.locals ≤ R.locals ∧ ce ≤ R.cells ∧ sl ≤ R.slots ∧ (rest.map fun v => v.category).sum ≤ 8) (hd : decode cc pc = .ok (.invokevirtual index, 3)) (kk : ∀ (r : Int32) (u : Ii × Pm), post r u → GG p l e R s m args below meth c G A nL ce sl Q u.1 u.2 L (pc + 3) (.int r :: rest)) : GG p l e R s m args below meth c G A nL ce sl Q I pm L pc st := fun H locs ls h1 h2 h3 => by
  subst hst
  exact va_calli (va_runV (As := As) (rest := rest) F.1 hM (cwV na F.1.2.2.2.2 hlk rfl hrm.1 hrm.2.1 hdy ⟨hrm.2.2.1, hrm.2.2.2.1⟩) ⟨PP.blind, va_recv (q0 := 0) F.2.1 (h1.one hi) hc (congrArg (fun z => some (G.2.2 K i, z)) he), fun U hU hW => ⟨rfl, by rw [hU]; exact h1, va_K.moved hW.alike F.2.1, NN.warm hW F.2.2.1⟩⟩ rfl hna h3.1 rfl (lv_room hrm.2.2.2.2.2.2) hd ⟨hrm.2.2.2.2.1, hrm.2.2.2.2.2.1⟩) h2 (fun q _ hq => by obtain ⟨a, b, hb, rfl⟩ := hq; exact F.2.2.2.2 a b hb) (fun q hq => by obtain ⟨a, b, hb, rfl⟩ := hq; exact F.2.2.2.2 a b hb) (fun r u t H1 locs1 ht hvm hw hB hz hk hS => kk r u hw H1 locs1 ls (by rw [← ht]; exact hB) hS h3)
theorem g_callIs (F : FX p s m args c cc nL own G A) {y : MethodName} {b : ByteArray} {n na index : Nat} {ret : Option FieldType} {rm : Room} {As : List Value} {post : Int32 → Ii × Pm → Prop} (hM : CI l G y (wz y b n ret) rm As I pm post) (hlk : GoodIn wsL_law (va_wsS own index y (wz y b n ret))) (hst : st = As.reverse ++ rest) (hna : As.length = na) (hdy : y.cls ≠ "java/lang/invoke/MethodHandle" ∧ y.cls ≠ "java/lang/invoke/VarHandle" ∧ (parseMethodDescriptor y.desc).map (fun d => d.parameters.length) = some na) (hrm : rm.cells = 0 ∧ rm.slots = 0 ∧ rm.frames + 1 ≤ R.frames ∧ 8 + (n + 11) + rm.locals ≤ R.locals ∧ ce ≤ R.cells ∧ sl ≤ R.slots ∧ (rest.map fun v => v.category).sum ≤ 8) (hd : decode cc pc = .ok (.invokestatic index, 3)) (kk : ∀ (r : Int32) (u : Ii × Pm), post r u → GG p l e R s m args below meth c G A nL ce sl Q u.1 u.2 L (pc + 3) (.int r :: rest)) : GG p l e R s m args below meth c G A nL ce sl Q I pm L pc st := fun H locs ls h1 h2 h3 => by
  subst hst
  exact va_calli (va_runS (As := As) (rest := rest) F.1 hM (va_cwS na F.1.2.2.2.2 hlk rfl hrm.1 hrm.2.1 hdy ⟨hrm.2.2.1, hrm.2.2.2.1⟩) ⟨PP.blind, fun U hU hW => ⟨rfl, by rw [hU]; exact h1, va_K.moved hW.alike F.2.1, NN.warm hW F.2.2.1⟩⟩ rfl hna h3.1 rfl (lv_room hrm.2.2.2.2.2.2) hd ⟨hrm.2.2.2.2.1, hrm.2.2.2.2.2.1⟩) h2 (fun q _ hq => by obtain ⟨a, b, hb, rfl⟩ := hq; exact F.2.2.2.2 a b hb) (fun q hq => by obtain ⟨a, b, hb, rfl⟩ := hq; exact F.2.2.2.2 a b hb) (fun r u t H1 locs1 ht hvm hw hB hz hk hS => kk r u hw H1 locs1 ls (by rw [← ht]; exact hB) hS h3)
theorem g_callIn (F : FX p s m args c cc nL own G A) {y : MethodName} {b : ByteArray} {n na index : Nat} {host : String} {ret : Option FieldType} {rm : Room} {As : List Value} {post : Int32 → Ii × Pm → Prop} (hM : CI l G y (wz y b n ret) rm As I pm post) (hgd : GoodIn wsL_law (wz y b n ret)) (hnest : va_Nw (.methodLinkNest own index y host) s) (hw : Cond.static y ∈ wsL_law) (hw2 : Cond.initialized y.cls ∈ wsL_law) (hst : st = As.reverse ++ rest) (hna : As.length = na) (hdy : y.cls ≠ "java/lang/invoke/MethodHandle" ∧ y.cls ≠ "java/lang/invoke/VarHandle" ∧ (parseMethodDescriptor y.desc).map (fun d => d.parameters.length) = some na) (hrm : rm.cells = 0 ∧ rm.slots = 0 ∧ rm.frames + 1 ≤ R.frames ∧ 8 + (n + 11) + rm.locals ≤ R.locals ∧ ce ≤ R.cells ∧ sl ≤ R.slots ∧ (rest.map fun v => v.category).sum ≤ 8) (hd : decode cc pc = .ok (.invokestatic index, 3)) (kk : ∀ (r : Int32) (u : Ii × Pm), post r u → GG p l e R s m args below meth c G A nL ce sl Q u.1 u.2 L (pc + 3) (.int r :: rest)) : GG p l e R s m args below meth c G A nL ce sl Q I pm L pc st := fun H locs ls h1 h2 h3 => by
  subst hst
  exact va_calli (va_runSN (As := As) (rest := rest) F.1 hM ⟨va_cnB na F.1.2.2.2.2 hgd rfl hrm.1 hrm.2.1 hnest (F.w hw2) hdy ⟨hrm.2.2.1, hrm.2.2.2.1⟩, F.w hw, trivial⟩ ⟨PP.blind, fun U hU hW => ⟨rfl, by rw [hU]; exact h1, va_K.moved hW.alike F.2.1, NN.warm hW F.2.2.1⟩⟩ rfl hna h3.1 rfl (lv_room hrm.2.2.2.2.2.2) hd ⟨hrm.2.2.2.2.1, hrm.2.2.2.2.2.1⟩) h2 (fun q _ hq => by obtain ⟨a, b, hb, rfl⟩ := hq; exact F.2.2.2.2 a b hb) (fun q hq => by obtain ⟨a, b, hb, rfl⟩ := hq; exact F.2.2.2.2 a b hb) (fun r u t H1 locs1 ht hvm hw hB hz hk hS => kk r u hw H1 locs1 ls (by rw [← ht]; exact hB) hS h3)
theorem g_callVv (F : FX p s m args c cc nL own G A) {y : MethodName} {b : ByteArray} {n na index ci : Nat} {ret : Option FieldType} {rm : Room} {As : List Value} {post : Ii × Pm → Prop} {fs : List Value} {q : vw_C} (K i : Nat) (hM : CV l G y (wz y b n ret) rm (.ref (G.2.2 K i) :: As) I pm post) (hi : i < cbK K) (he : cvv G.2.1 G.2.2 I pm K i = .inr (ci, fs)) (hc : vwCl[ci]? = some q) (hlk : GoodIn wsL_law (wsV own index q.1 y (wz y b n ret))) (hst : st = As.reverse ++ .ref (G.2.2 K i) :: rest) (hna : As.length = na) (hdy : y.cls = q.1 ∧ y.cls ≠ "java/lang/invoke/MethodHandle" ∧ y.cls ≠ "java/lang/invoke/VarHandle" ∧ (parseMethodDescriptor y.desc).map (fun d => d.parameters.length) = some na) (hrm : rm.cells = 0 ∧ rm.slots = 0 ∧ rm.frames + 1 ≤ R.frames ∧ 8 + (n + 11) + rm.locals ≤ R.locals ∧ ce ≤ R.cells ∧ sl ≤ R.slots ∧ (rest.map fun v => v.category).sum ≤ 8) (hd : decode cc pc = .ok (.invokevirtual index, 3)) (kk : ∀ (u : Ii × Pm), post u → GG p l e R s m args below meth c G A nL ce sl Q u.1 u.2 L (pc + 3) rest) : GG p l e R s m args below meth c G A nL ce sl Q I pm L pc st := fun H locs ls h1 h2 h3 => by
  subst hst
  exact va_callv (va_runV (As := As) (rest := rest) F.1 hM (cwV na F.1.2.2.2.2 hlk rfl hrm.1 hrm.2.1 hdy ⟨hrm.2.2.1, hrm.2.2.2.1⟩) ⟨PP.blind, va_recv (q0 := 0) F.2.1 (h1.one hi) hc (congrArg (fun z => some (G.2.2 K i, z)) he), fun U hU hW => ⟨rfl, by rw [hU]; exact h1, va_K.moved hW.alike F.2.1, NN.warm hW F.2.2.1⟩⟩ rfl hna h3.1 rfl (lv_room hrm.2.2.2.2.2.2) hd ⟨hrm.2.2.2.2.1, hrm.2.2.2.2.2.1⟩) h2 (fun q _ hq => by obtain ⟨a, b, hb, rfl⟩ := hq; exact F.2.2.2.2 a b hb) (fun q hq => by obtain ⟨a, b, hb, rfl⟩ := hq; exact F.2.2.2.2 a b hb) (fun u t H1 locs1 ht hvm hw hB hz hk hS => kk u hw H1 locs1 ls (by rw [← ht]; exact hB) hS h3)
theorem g_callVs (F : FX p s m args c cc nL own G A) {y : MethodName} {b : ByteArray} {n na index : Nat} {ret : Option FieldType} {rm : Room} {As : List Value} {post : Ii × Pm → Prop} (hM : CV l G y (wz y b n ret) rm As I pm post) (hlk : GoodIn wsL_law (va_wsS own index y (wz y b n ret))) (hst : st = As.reverse ++ rest) (hna : As.length = na) (hdy : y.cls ≠ "java/lang/invoke/MethodHandle" ∧ y.cls ≠ "java/lang/invoke/VarHandle" ∧ (parseMethodDescriptor y.desc).map (fun d => d.parameters.length) = some na) (hrm : rm.cells = 0 ∧ rm.slots = 0 ∧ rm.frames + 1 ≤ R.frames ∧ 8 + (n + 11) + rm.locals ≤ R.locals ∧ ce ≤ R.cells ∧ sl ≤ R.slots ∧ (rest.map fun v => v.category).sum ≤ 8) (hd : decode cc pc = .ok (.invokestatic index, 3)) (kk : ∀ (u : Ii × Pm), post u → GG p l e R s m args below meth c G A nL ce sl Q u.1 u.2 L (pc + 3) rest) : GG p l e R s m args below meth c G A nL ce sl Q I pm L pc st := fun H locs ls h1 h2 h3 => by
  subst hst
  exact va_callv (va_runS (As := As) (rest := rest) F.1 hM (va_cwS na F.1.2.2.2.2 hlk rfl hrm.1 hrm.2.1 hdy ⟨hrm.2.2.1, hrm.2.2.2.1⟩) ⟨PP.blind, fun U hU hW => ⟨rfl, by rw [hU]; exact h1, va_K.moved hW.alike F.2.1, NN.warm hW F.2.2.1⟩⟩ rfl hna h3.1 rfl (lv_room hrm.2.2.2.2.2.2) hd ⟨hrm.2.2.2.2.1, hrm.2.2.2.2.2.1⟩) h2 (fun q _ hq => by obtain ⟨a, b, hb, rfl⟩ := hq; exact F.2.2.2.2 a b hb) (fun q hq => by obtain ⟨a, b, hb, rfl⟩ := hq; exact F.2.2.2.2 a b hb) (fun u t H1 locs1 ht hvm hw hB hz hk hS => kk u hw H1 locs1 ls (by rw [← ht]; exact hB) hS h3)
theorem g_callQv (F : FX p s m args c cc nL own G A) {y : MethodName} {b : ByteArray} {n na index ci : Nat} {ret : Option FieldType} {rm : Room} {As : List Value} {post : Option Nat → Ii × Pm → Prop} {fs : List Value} {q : vw_C} (K i : Nat) (hM : CQ l G y (wz y b n ret) rm (.ref (G.2.2 K i) :: As) I pm post) (hi : i < cbK K) (he : cvv G.2.1 G.2.2 I pm K i = .inr (ci, fs)) (hc : vwCl[ci]? = some q) (hlk : GoodIn wsL_law (wsV own index q.1 y (wz y b n ret))) (hst : st = As.reverse ++ .ref (G.2.2 K i) :: rest) (hna : As.length = na) (hdy : y.cls = q.1 ∧ y.cls ≠ "java/lang/invoke/MethodHandle" ∧ y.cls ≠ "java/lang/invoke/VarHandle" ∧ (parseMethodDescriptor y.desc).map (fun d => d.parameters.length) = some na) (hrm : rm.cells = 0 ∧ rm.slots = 0 ∧ rm.frames + 1 ≤ R.frames ∧ 8 + (n + 11) + rm.locals ≤ R.locals ∧ ce ≤ R.cells ∧ sl ≤ R.slots ∧ (rest.map fun v => v.category).sum ≤ 8) (hd : decode cc pc = .ok (.invokevirtual index, 3)) (kk : ∀ (r : Option Nat) (u : Ii × Pm), post r u → GG p l e R s m args below meth c G A nL ce sl Q u.1 u.2 L (pc + 3) (va_rf r :: rest)) : GG p l e R s m args below meth c G A nL ce sl Q I pm L pc st := fun H locs ls h1 h2 h3 => by
  subst hst
  exact va_callq (va_runV (As := As) (rest := rest) F.1 hM (cwV na F.1.2.2.2.2 hlk rfl hrm.1 hrm.2.1 hdy ⟨hrm.2.2.1, hrm.2.2.2.1⟩) ⟨PP.blind, va_recv (q0 := 0) F.2.1 (h1.one hi) hc (congrArg (fun z => some (G.2.2 K i, z)) he), fun U hU hW => ⟨rfl, by rw [hU]; exact h1, va_K.moved hW.alike F.2.1, NN.warm hW F.2.2.1⟩⟩ rfl hna h3.1 rfl (lv_room hrm.2.2.2.2.2.2) hd ⟨hrm.2.2.2.2.1, hrm.2.2.2.2.2.1⟩) h2 (fun q _ hq => by obtain ⟨a, b, hb, rfl⟩ := hq; exact F.2.2.2.2 a b hb) (fun q hq => by obtain ⟨a, b, hb, rfl⟩ := hq; exact F.2.2.2.2 a b hb) (fun r u t H1 locs1 ht hvm hw hB hz hk hS => kk r u hw H1 locs1 ls (by rw [← ht]; exact hB) hS h3)
theorem g_callQs (F : FX p s m args c cc nL own G A) {y : MethodName} {b : ByteArray} {n na index : Nat} {ret : Option FieldType} {rm : Room} {As : List Value} {post : Option Nat → Ii × Pm → Prop} (hM : CQ l G y (wz y b n ret) rm As I pm post) (hlk : GoodIn wsL_law (va_wsS own index y (wz y b n ret))) (hst : st = As.reverse ++ rest) (hna : As.length = na) (hdy : y.cls ≠ "java/lang/invoke/MethodHandle" ∧ y.cls ≠ "java/lang/invoke/VarHandle" ∧ (parseMethodDescriptor y.desc).map (fun d => d.parameters.length) = some na) (hrm : rm.cells = 0 ∧ rm.slots = 0 ∧ rm.frames + 1 ≤ R.frames ∧ 8 + (n + 11) + rm.locals ≤ R.locals ∧ ce ≤ R.cells ∧ sl ≤ R.slots ∧ (rest.map fun v => v.category).sum ≤ 8) (hd : decode cc pc = .ok (.invokestatic index, 3)) (kk : ∀ (r : Option Nat) (u : Ii × Pm), post r u → GG p l e R s m args below meth c G A nL ce sl Q u.1 u.2 L (pc + 3) (va_rf r :: rest)) : GG p l e R s m args below meth c G A nL ce sl Q I pm L pc st := fun H locs ls h1 h2 h3 => by
  subst hst
  exact va_callq (va_runS (As := As) (rest := rest) F.1 hM (va_cwS na F.1.2.2.2.2 hlk rfl hrm.1 hrm.2.1 hdy ⟨hrm.2.2.1, hrm.2.2.2.1⟩) ⟨PP.blind, fun U hU hW => ⟨rfl, by rw [hU]; exact h1, va_K.moved hW.alike F.2.1, NN.warm hW F.2.2.1⟩⟩ rfl hna h3.1 rfl (lv_room hrm.2.2.2.2.2.2) hd ⟨hrm.2.2.2.2.1, hrm.2.2.2.2.2.1⟩) h2 (fun q _ hq => by obtain ⟨a, b, hb, rfl⟩ := hq; exact F.2.2.2.2 a b hb) (fun q hq => by obtain ⟨a, b, hb, rfl⟩ := hq; exact F.2.2.2.2 a b hb) (fun r u t H1 locs1 ht hvm hw hB hz hk hS => kk r u hw H1 locs1 ls (by rw [← ht]; exact hB) hS h3)
end BASE
section RETS
variable {p : Program} {l : Launch} {e : Env} {R : Room} {s : State} {m : MethodId} {args : Array Value} {below : List Frame} {meth : Method} {c : Code} {G : Gm} {nL : Nat} {I : Ii} {pm : Pm} {L : List (Nat × Value)} {pc : Nat} {cc : ByteArray} {own : String}
theorem g_iret (F : FX p s m args c cc nL own G (AA G)) {post : Int32 → Ii × Pm → Prop} {v : Int32} {ty : FieldType} (hr : meth.sig.returnType = some ty) (hlocks : meth.locks = false) (hn : narrow ty (.int v) = .int v) (hd : decode cc pc = .ok (.ireturn, 1)) (hq : post v (I, pm)) : GG p l e R s m args below meth c G (AA G) nL 0 0 (MQ below (va_Qi post (fun u t => Wd G u.1 u.2 t.heap) (AA G)) args s 0 0 (AA G)) I pm L pc [.int v] := fun H locs ls h1 h2 h3 =>
  W.zret F.1.1 F.1.2.1 hr hn (fun t ht hW => ⟨⟨v, (I, pm), rfl, hq, (show Wd G I pm t.heap by rw [ht]; exact h1)⟩, h2.F ht⟩) h2.2.2 hd hlocks
theorem g_vret (F : FX p s m args c cc nL own G (AA G)) {post : Ii × Pm → Prop} (hr : meth.sig.returnType = none) (hlocks : meth.locks = false) (hd : decode cc pc = .ok (.return_, 1)) (hq : post (I, pm)) : GG p l e R s m args below meth c G (AA G) nL 0 0 (MQ below (va_Qv post (fun u t => Wd G u.1 u.2 t.heap) (AA G)) args s 0 0 (AA G)) I pm L pc [] := fun H locs ls h1 h2 h3 =>
  W.vret F.1.1 F.1.2.1 hr (fun t ht hW => ⟨⟨(I, pm), rfl, hq, (show Wd G I pm t.heap by rw [ht]; exact h1)⟩, h2.F ht⟩) h2.2.2 hd hlocks
theorem g_aret (F : FX p s m args c cc nL own G (AA G)) {post : Option Nat → Ii × Pm → Prop} {v : Value} {r : Option Nat} {C : String} (hv : v = va_rf r) (hr : meth.sig.returnType = some (.object C)) (hlocks : meth.locks = false) (hd : decode cc pc = .ok (.areturn, 1)) (hq : post r (I, pm)) : GG p l e R s m args below meth c G (AA G) nL 0 0 (MQ below (va_Qq post (fun u t => Wd G u.1 u.2 t.heap) (AA G)) args s 0 0 (AA G)) I pm L pc [v] := fun H locs ls h1 h2 h3 => by
  subst hv
  exact W.aret F.1.1 F.1.2.1 hr (Or.inl ⟨_, rfl⟩) (va_rf_or r) (fun t ht hW => ⟨⟨r, (I, pm), rfl, hq, (show Wd G I pm t.heap by rw [ht]; exact h1)⟩, h2.F ht⟩) h2.2.2 hd hlocks
end RETS
end
section
theorem mCL_L_13 : Cond.classLink RL 13 RX5 ∈ wsL_law := List.mem_of_getElem? (i := 0) (by decide +kernel)
theorem mIS_RX5 : Cond.instantiable RX5 6 ∈ wsL_law := List.mem_of_getElem? (i := 1) (by decide +kernel)
theorem mIN_RX5 : Cond.initialized RX5 ∈ wsL_law := List.mem_of_getElem? (i := 2) (by decide +kernel)
theorem mML_L_72 : Cond.methodLink RL 72 yX5_init ∈ wsL_law := List.mem_of_getElem? (i := 3) (by decide +kernel)
theorem mIM_yX5_init : Cond.instanceMethod yX5_init ∈ wsL_law := List.mem_of_getElem? (i := 4) (by decide +kernel)
theorem mCO_yX5_init : Cond.code yX5_init cX5_init 2 none ∈ wsL_law := List.mem_of_getElem? (i := 5) (by decide +kernel)
theorem mML_X5_3 : Cond.methodLink RX5 3 objectInit ∈ wsL_law := List.mem_of_getElem? (i := 6) (by decide +kernel)
theorem mIM_objectInit : Cond.instanceMethod objectInit ∈ wsL_law := List.mem_of_getElem? (i := 7) (by decide +kernel)
theorem mCO_objectInit : Cond.code objectInit ⟨#[0xb1]⟩ 1 none ∈ wsL_law := List.mem_of_getElem? (i := 8) (by decide +kernel)
theorem mCL_X5_9 : Cond.classLink RX5 9 RX1 ∈ wsL_law := List.mem_of_getElem? (i := 9) (by decide +kernel)
theorem mIS_RX1 : Cond.instantiable RX1 10 ∈ wsL_law := List.mem_of_getElem? (i := 10) (by decide +kernel)
theorem mIN_RX1 : Cond.initialized RX1 ∈ wsL_law := List.mem_of_getElem? (i := 11) (by decide +kernel)
theorem mFL_X5_12 : Cond.fieldLink RX5 12 "LocoFrames" "now" "LLocoFrames$Layout;" ∈ wsL_law := List.mem_of_getElem? (i := 12) (by decide +kernel)
theorem mFL_X5_16 : Cond.fieldLink RX5 16 "LocoFrames" "foreseen" "LLocoFrames$Layout;" ∈ wsL_law := List.mem_of_getElem? (i := 13) (by decide +kernel)
theorem mCL_X5_19 : Cond.classLink RX5 19 RX0 ∈ wsL_law := List.mem_of_getElem? (i := 14) (by decide +kernel)
theorem mIS_RX0 : Cond.instantiable RX0 3 ∈ wsL_law := List.mem_of_getElem? (i := 15) (by decide +kernel)
theorem mIN_RX0 : Cond.initialized RX0 ∈ wsL_law := List.mem_of_getElem? (i := 16) (by decide +kernel)
theorem mFL_X5_22 : Cond.fieldLink RX5 22 "LocoFrames" "history" "LLocoFrames$History;" ∈ wsL_law := List.mem_of_getElem? (i := 17) (by decide +kernel)
theorem mFL_X5_26 : Cond.fieldLink RX5 26 "LocoFrames" "slots" "[LLocoFrames$Layout;" ∈ wsL_law := List.mem_of_getElem? (i := 18) (by decide +kernel)
theorem mAC_boolean : Cond.arrayClass .boolean ∈ wsL_law := List.mem_of_getElem? (i := 19) (by decide +kernel)
theorem mFL_X5_30 : Cond.fieldLink RX5 30 "LocoFrames" "saved" "[Z" ∈ wsL_law := List.mem_of_getElem? (i := 20) (by decide +kernel)
theorem mCL_X5_34 : Cond.classLink RX5 34 RX3 ∈ wsL_law := List.mem_of_getElem? (i := 21) (by decide +kernel)
theorem mIS_RX3 : Cond.instantiable RX3 6 ∈ wsL_law := List.mem_of_getElem? (i := 22) (by decide +kernel)
theorem mIN_RX3 : Cond.initialized RX3 ∈ wsL_law := List.mem_of_getElem? (i := 23) (by decide +kernel)
theorem mFL_X5_37 : Cond.fieldLink RX5 37 "LocoFrames" "pad" "LLocoFrames$Pad;" ∈ wsL_law := List.mem_of_getElem? (i := 24) (by decide +kernel)
theorem mML_X5_11 : Cond.methodLink RX5 11 yX1_init ∈ wsL_law := List.mem_of_getElem? (i := 25) (by decide +kernel)
theorem mIM_yX1_init : Cond.instanceMethod yX1_init ∈ wsL_law := List.mem_of_getElem? (i := 26) (by decide +kernel)
theorem mCO_yX1_init : Cond.code yX1_init cX1_init 2 none ∈ wsL_law := List.mem_of_getElem? (i := 27) (by decide +kernel)
theorem mML_X1_3 : Cond.methodLink RX1 3 objectInit ∈ wsL_law := List.mem_of_getElem? (i := 28) (by decide +kernel)
theorem mCL_X1_9 : Cond.classLink RX1 9 RX2 ∈ wsL_law := List.mem_of_getElem? (i := 29) (by decide +kernel)
theorem mFL_X1_11 : Cond.fieldLink RX1 11 "LocoFrames$Layout" "locos" "[LLocoFrames$Loco;" ∈ wsL_law := List.mem_of_getElem? (i := 30) (by decide +kernel)
theorem mCL_X1_17 : Cond.classLink RX1 17 RX4 ∈ wsL_law := List.mem_of_getElem? (i := 31) (by decide +kernel)
theorem mIS_RX4 : Cond.instantiable RX4 4 ∈ wsL_law := List.mem_of_getElem? (i := 32) (by decide +kernel)
theorem mIN_RX4 : Cond.initialized RX4 ∈ wsL_law := List.mem_of_getElem? (i := 33) (by decide +kernel)
theorem mFL_X1_20 : Cond.fieldLink RX1 20 "LocoFrames$Layout" "station" "LLocoFrames$Station;" ∈ wsL_law := List.mem_of_getElem? (i := 34) (by decide +kernel)
theorem mAC_int : Cond.arrayClass .int ∈ wsL_law := List.mem_of_getElem? (i := 35) (by decide +kernel)
theorem mFL_X1_24 : Cond.fieldLink RX1 24 "LocoFrames$Layout" "shortTicks" "[I" ∈ wsL_law := List.mem_of_getElem? (i := 36) (by decide +kernel)
theorem mIS_RX2 : Cond.instantiable RX2 11 ∈ wsL_law := List.mem_of_getElem? (i := 37) (by decide +kernel)
theorem mIN_RX2 : Cond.initialized RX2 ∈ wsL_law := List.mem_of_getElem? (i := 38) (by decide +kernel)
theorem mIM_yX4_init : Cond.instanceMethod yX4_init ∈ wsL_law := List.mem_of_getElem? (i := 39) (by decide +kernel)
theorem mCO_yX4_init : Cond.code yX4_init cX4_init 1 none ∈ wsL_law := List.mem_of_getElem? (i := 40) (by decide +kernel)
theorem mML_X4_3 : Cond.methodLink RX4 3 objectInit ∈ wsL_law := List.mem_of_getElem? (i := 41) (by decide +kernel)
theorem mFL_X4_9 : Cond.fieldLink RX4 9 "LocoFrames$Station" "addresses" "[I" ∈ wsL_law := List.mem_of_getElem? (i := 42) (by decide +kernel)
theorem mFL_X4_15 : Cond.fieldLink RX4 15 "LocoFrames$Station" "data" "[I" ∈ wsL_law := List.mem_of_getElem? (i := 43) (by decide +kernel)
theorem mFL_X4_18 : Cond.fieldLink RX4 18 "LocoFrames$Station" "urgencies" "[I" ∈ wsL_law := List.mem_of_getElem? (i := 44) (by decide +kernel)
theorem mIM_yX2_init : Cond.instanceMethod yX2_init ∈ wsL_law := List.mem_of_getElem? (i := 45) (by decide +kernel)
theorem mCO_yX2_init : Cond.code yX2_init cX2_init 1 none ∈ wsL_law := List.mem_of_getElem? (i := 46) (by decide +kernel)
theorem mML_X2_3 : Cond.methodLink RX2 3 objectInit ∈ wsL_law := List.mem_of_getElem? (i := 47) (by decide +kernel)
theorem mML_X5_21 : Cond.methodLink RX5 21 yX0_init ∈ wsL_law := List.mem_of_getElem? (i := 48) (by decide +kernel)
theorem mIM_yX0_init : Cond.instanceMethod yX0_init ∈ wsL_law := List.mem_of_getElem? (i := 49) (by decide +kernel)
theorem mCO_yX0_init : Cond.code yX0_init cX0_init 2 none ∈ wsL_law := List.mem_of_getElem? (i := 50) (by decide +kernel)
theorem mML_X0_3 : Cond.methodLink RX0 3 objectInit ∈ wsL_law := List.mem_of_getElem? (i := 51) (by decide +kernel)
theorem mCL_X0_9 : Cond.classLink RX0 9 RX1 ∈ wsL_law := List.mem_of_getElem? (i := 52) (by decide +kernel)
theorem mFL_X0_11 : Cond.fieldLink RX0 11 "LocoFrames$History" "states" "[LLocoFrames$Layout;" ∈ wsL_law := List.mem_of_getElem? (i := 53) (by decide +kernel)
theorem mML_X0_17 : Cond.methodLink RX0 17 yX1_init ∈ wsL_law := List.mem_of_getElem? (i := 54) (by decide +kernel)
theorem mIM_yX3_init : Cond.instanceMethod yX3_init ∈ wsL_law := List.mem_of_getElem? (i := 55) (by decide +kernel)
theorem mCO_yX3_init : Cond.code yX3_init cX3_init 1 none ∈ wsL_law := List.mem_of_getElem? (i := 56) (by decide +kernel)
theorem mML_X3_3 : Cond.methodLink RX3 3 objectInit ∈ wsL_law := List.mem_of_getElem? (i := 57) (by decide +kernel)
theorem mAC_char : Cond.arrayClass .char ∈ wsL_law := List.mem_of_getElem? (i := 58) (by decide +kernel)
theorem mFL_X3_9 : Cond.fieldLink RX3 9 "LocoFrames$Pad" "text" "[C" ∈ wsL_law := List.mem_of_getElem? (i := 59) (by decide +kernel)
theorem mFL_X3_15 : Cond.fieldLink RX3 15 "LocoFrames$Pad" "numbers" "[I" ∈ wsL_law := List.mem_of_getElem? (i := 60) (by decide +kernel)
theorem mML_L_68 : Cond.methodLink RL 68 yX5_undo ∈ wsL_law := List.mem_of_getElem? (i := 61) (by decide +kernel)
theorem mIM_yX5_undo : Cond.instanceMethod yX5_undo ∈ wsL_law := List.mem_of_getElem? (i := 62) (by decide +kernel)
theorem mSE_yX5_undo : Cond.selects RX5 yX5_undo yX5_undo ∈ wsL_law := List.mem_of_getElem? (i := 63) (by decide +kernel)
theorem mCO_yX5_undo : Cond.code yX5_undo cX5_undo 1 (some .int) ∈ wsL_law := List.mem_of_getElem? (i := 64) (by decide +kernel)
theorem mML_X5_188 : Cond.methodLink RX5 188 yX0_takeBack ∈ wsL_law := List.mem_of_getElem? (i := 65) (by decide +kernel)
theorem mIM_yX0_takeBack : Cond.instanceMethod yX0_takeBack ∈ wsL_law := List.mem_of_getElem? (i := 66) (by decide +kernel)
theorem mSE_yX0_takeBack : Cond.selects RX0 yX0_takeBack yX0_takeBack ∈ wsL_law := List.mem_of_getElem? (i := 67) (by decide +kernel)
theorem mCO_yX0_takeBack : Cond.code yX0_takeBack cX0_takeBack 2 (some .int) ∈ wsL_law := List.mem_of_getElem? (i := 68) (by decide +kernel)
theorem mFL_X0_22 : Cond.fieldLink RX0 22 "LocoFrames$History" "held" "I" ∈ wsL_law := List.mem_of_getElem? (i := 69) (by decide +kernel)
theorem mFL_X0_18 : Cond.fieldLink RX0 18 "LocoFrames$History" "first" "I" ∈ wsL_law := List.mem_of_getElem? (i := 70) (by decide +kernel)
theorem mML_X0_25 : Cond.methodLink RX0 25 yX1_copyFrom ∈ wsL_law := List.mem_of_getElem? (i := 71) (by decide +kernel)
theorem mIM_yX1_copyFrom : Cond.instanceMethod yX1_copyFrom ∈ wsL_law := List.mem_of_getElem? (i := 72) (by decide +kernel)
theorem mSE_yX1_copyFrom : Cond.selects RX1 yX1_copyFrom yX1_copyFrom ∈ wsL_law := List.mem_of_getElem? (i := 73) (by decide +kernel)
theorem mCO_yX1_copyFrom : Cond.code yX1_copyFrom cX1_copyFrom 3 none ∈ wsL_law := List.mem_of_getElem? (i := 74) (by decide +kernel)
theorem mFL_X1_29 : Cond.fieldLink RX1 29 "LocoFrames$Layout" "locoCount" "I" ∈ wsL_law := List.mem_of_getElem? (i := 75) (by decide +kernel)
theorem mML_X1_40 : Cond.methodLink RX1 40 arraycopyName ∈ wsL_law := List.mem_of_getElem? (i := 76) (by decide +kernel)
theorem mNA_arraycopyName : Cond.native arraycopyName ∈ wsL_law := List.mem_of_getElem? (i := 77) (by decide +kernel)
theorem mST_arraycopyName : Cond.static arraycopyName ∈ wsL_law := List.mem_of_getElem? (i := 78) (by decide +kernel)
theorem mIN_java_lang_System : Cond.initialized "java/lang/System" ∈ wsL_law := List.mem_of_getElem? (i := 79) (by decide +kernel)
theorem mFL_X1_46 : Cond.fieldLink RX1 46 "LocoFrames$Layout" "ticks" "I" ∈ wsL_law := List.mem_of_getElem? (i := 80) (by decide +kernel)
theorem mFL_X1_49 : Cond.fieldLink RX1 49 "LocoFrames$Layout" "noiseTicks" "I" ∈ wsL_law := List.mem_of_getElem? (i := 81) (by decide +kernel)
theorem mFL_X1_52 : Cond.fieldLink RX1 52 "LocoFrames$Layout" "spoiledAt" "I" ∈ wsL_law := List.mem_of_getElem? (i := 82) (by decide +kernel)
theorem mFL_X1_55 : Cond.fieldLink RX1 55 "LocoFrames$Layout" "frames" "I" ∈ wsL_law := List.mem_of_getElem? (i := 83) (by decide +kernel)
theorem mFL_X1_58 : Cond.fieldLink RX1 58 "LocoFrames$Layout" "broken" "I" ∈ wsL_law := List.mem_of_getElem? (i := 84) (by decide +kernel)
theorem mFL_X1_61 : Cond.fieldLink RX1 61 "LocoFrames$Layout" "spoiled" "I" ∈ wsL_law := List.mem_of_getElem? (i := 85) (by decide +kernel)
theorem mML_X1_33 : Cond.methodLink RX1 33 yX2_copyFrom ∈ wsL_law := List.mem_of_getElem? (i := 86) (by decide +kernel)
theorem mIM_yX2_copyFrom : Cond.instanceMethod yX2_copyFrom ∈ wsL_law := List.mem_of_getElem? (i := 87) (by decide +kernel)
theorem mSE_yX2_copyFrom : Cond.selects RX2 yX2_copyFrom yX2_copyFrom ∈ wsL_law := List.mem_of_getElem? (i := 88) (by decide +kernel)
theorem mCO_yX2_copyFrom : Cond.code yX2_copyFrom cX2_copyFrom 2 none ∈ wsL_law := List.mem_of_getElem? (i := 89) (by decide +kernel)
theorem mFL_X2_9 : Cond.fieldLink RX2 9 "LocoFrames$Loco" "address" "I" ∈ wsL_law := List.mem_of_getElem? (i := 90) (by decide +kernel)
theorem mFL_X2_15 : Cond.fieldLink RX2 15 "LocoFrames$Loco" "mass" "I" ∈ wsL_law := List.mem_of_getElem? (i := 91) (by decide +kernel)
theorem mFL_X2_18 : Cond.fieldLink RX2 18 "LocoFrames$Loco" "curve" "I" ∈ wsL_law := List.mem_of_getElem? (i := 92) (by decide +kernel)
theorem mFL_X2_21 : Cond.fieldLink RX2 21 "LocoFrames$Loco" "place" "I" ∈ wsL_law := List.mem_of_getElem? (i := 93) (by decide +kernel)
theorem mFL_X2_24 : Cond.fieldLink RX2 24 "LocoFrames$Loco" "tenths" "I" ∈ wsL_law := List.mem_of_getElem? (i := 94) (by decide +kernel)
theorem mFL_X2_27 : Cond.fieldLink RX2 27 "LocoFrames$Loco" "speed" "I" ∈ wsL_law := List.mem_of_getElem? (i := 95) (by decide +kernel)
theorem mFL_X2_30 : Cond.fieldLink RX2 30 "LocoFrames$Loco" "rounds" "I" ∈ wsL_law := List.mem_of_getElem? (i := 96) (by decide +kernel)
theorem mFL_X2_33 : Cond.fieldLink RX2 33 "LocoFrames$Loco" "step" "I" ∈ wsL_law := List.mem_of_getElem? (i := 97) (by decide +kernel)
theorem mFL_X2_36 : Cond.fieldLink RX2 36 "LocoFrames$Loco" "way" "I" ∈ wsL_law := List.mem_of_getElem? (i := 98) (by decide +kernel)
theorem mFL_X2_39 : Cond.fieldLink RX2 39 "LocoFrames$Loco" "lights" "I" ∈ wsL_law := List.mem_of_getElem? (i := 99) (by decide +kernel)
theorem mFL_X2_42 : Cond.fieldLink RX2 42 "LocoFrames$Loco" "heard" "I" ∈ wsL_law := List.mem_of_getElem? (i := 100) (by decide +kernel)
theorem mML_X1_37 : Cond.methodLink RX1 37 yX4_copyFrom ∈ wsL_law := List.mem_of_getElem? (i := 101) (by decide +kernel)
theorem mIM_yX4_copyFrom : Cond.instanceMethod yX4_copyFrom ∈ wsL_law := List.mem_of_getElem? (i := 102) (by decide +kernel)
theorem mSE_yX4_copyFrom : Cond.selects RX4 yX4_copyFrom yX4_copyFrom ∈ wsL_law := List.mem_of_getElem? (i := 103) (by decide +kernel)
theorem mCO_yX4_copyFrom : Cond.code yX4_copyFrom cX4_copyFrom 2 none ∈ wsL_law := List.mem_of_getElem? (i := 104) (by decide +kernel)
theorem mML_X4_21 : Cond.methodLink RX4 21 arraycopyName ∈ wsL_law := List.mem_of_getElem? (i := 105) (by decide +kernel)
theorem mFL_X4_27 : Cond.fieldLink RX4 27 "LocoFrames$Station" "held" "I" ∈ wsL_law := List.mem_of_getElem? (i := 106) (by decide +kernel)
theorem mML_L_56 : Cond.methodLink RL 56 yX5_restore ∈ wsL_law := List.mem_of_getElem? (i := 107) (by decide +kernel)
theorem mIM_yX5_restore : Cond.instanceMethod yX5_restore ∈ wsL_law := List.mem_of_getElem? (i := 108) (by decide +kernel)
theorem mSE_yX5_restore : Cond.selects RX5 yX5_restore yX5_restore ∈ wsL_law := List.mem_of_getElem? (i := 109) (by decide +kernel)
theorem mCO_yX5_restore : Cond.code yX5_restore cX5_restore 2 (some .int) ∈ wsL_law := List.mem_of_getElem? (i := 110) (by decide +kernel)
theorem mFL_X5_111 : Cond.fieldLink RX5 111 "LocoFrames$Layout" "locoCount" "I" ∈ wsL_law := List.mem_of_getElem? (i := 111) (by decide +kernel)
theorem mML_X5_155 : Cond.methodLink RX5 155 yX5_within ∈ wsL_law := List.mem_of_getElem? (i := 112) (by decide +kernel)
theorem mST_yX5_within : Cond.static yX5_within ∈ wsL_law := List.mem_of_getElem? (i := 113) (by decide +kernel)
theorem mCO_yX5_within : Cond.code yX5_within cX5_within 3 (some .boolean) ∈ wsL_law := List.mem_of_getElem? (i := 114) (by decide +kernel)
theorem mML_X5_41 : Cond.methodLink RX5 41 yX0_draft ∈ wsL_law := List.mem_of_getElem? (i := 115) (by decide +kernel)
theorem mIM_yX0_draft : Cond.instanceMethod yX0_draft ∈ wsL_law := List.mem_of_getElem? (i := 116) (by decide +kernel)
theorem mSE_yX0_draft : Cond.selects RX0 yX0_draft yX0_draft ∈ wsL_law := List.mem_of_getElem? (i := 117) (by decide +kernel)
theorem mCO_yX0_draft : Cond.code yX0_draft cX0_draft 2 none ∈ wsL_law := List.mem_of_getElem? (i := 118) (by decide +kernel)
theorem mML_X5_143 : Cond.methodLink RX5 143 yX1_copyFrom ∈ wsL_law := List.mem_of_getElem? (i := 119) (by decide +kernel)
theorem mML_X5_49 : Cond.methodLink RX5 49 yX0_kept ∈ wsL_law := List.mem_of_getElem? (i := 120) (by decide +kernel)
theorem mIM_yX0_kept : Cond.instanceMethod yX0_kept ∈ wsL_law := List.mem_of_getElem? (i := 121) (by decide +kernel)
theorem mSE_yX0_kept : Cond.selects RX0 yX0_kept yX0_kept ∈ wsL_law := List.mem_of_getElem? (i := 122) (by decide +kernel)
theorem mCO_yX0_kept : Cond.code yX0_kept cX0_kept 2 (some .int) ∈ wsL_law := List.mem_of_getElem? (i := 123) (by decide +kernel)
theorem mML_L_73 : Cond.methodLink RL 73 yX5_save ∈ wsL_law := List.mem_of_getElem? (i := 124) (by decide +kernel)
theorem mIM_yX5_save : Cond.instanceMethod yX5_save ∈ wsL_law := List.mem_of_getElem? (i := 125) (by decide +kernel)
theorem mSE_yX5_save : Cond.selects RX5 yX5_save yX5_save ∈ wsL_law := List.mem_of_getElem? (i := 126) (by decide +kernel)
theorem mCO_yX5_save : Cond.code yX5_save cX5_save 2 (some .int) ∈ wsL_law := List.mem_of_getElem? (i := 127) (by decide +kernel)
theorem mML_L_76 : Cond.methodLink RL 76 yL_told ∈ wsL_law := List.mem_of_getElem? (i := 128) (by decide +kernel)
theorem mST_yL_told : Cond.static yL_told ∈ wsL_law := List.mem_of_getElem? (i := 129) (by decide +kernel)
theorem mIN_RL : Cond.initialized RL ∈ wsL_law := List.mem_of_getElem? (i := 130) (by decide +kernel)
theorem mCO_yL_told : Cond.code yL_told cL_told 6 (some .long) ∈ wsL_law := List.mem_of_getElem? (i := 131) (by decide +kernel)
theorem mCN_L_8 : Cond.constantLong RL 8 (3) ∈ wsL_law := List.mem_of_getElem? (i := 132) (by decide +kernel)
theorem mCN_L_10 : Cond.constantLong RL 10 (31) ∈ wsL_law := List.mem_of_getElem? (i := 133) (by decide +kernel)
theorem mML_L_12 : Cond.methodLink RL 12 yX5_count ∈ wsL_law := List.mem_of_getElem? (i := 134) (by decide +kernel)
theorem mIM_yX5_count : Cond.instanceMethod yX5_count ∈ wsL_law := List.mem_of_getElem? (i := 135) (by decide +kernel)
theorem mSE_yX5_count : Cond.selects RX5 yX5_count yX5_count ∈ wsL_law := List.mem_of_getElem? (i := 136) (by decide +kernel)
theorem mCO_yX5_count : Cond.code yX5_count cX5_count 2 (some .int) ∈ wsL_law := List.mem_of_getElem? (i := 137) (by decide +kernel)
theorem mFL_X5_108 : Cond.fieldLink RX5 108 "LocoFrames$Layout" "ticks" "I" ∈ wsL_law := List.mem_of_getElem? (i := 138) (by decide +kernel)
theorem mFL_X5_59 : Cond.fieldLink RX5 59 "LocoFrames$Layout" "station" "LLocoFrames$Station;" ∈ wsL_law := List.mem_of_getElem? (i := 139) (by decide +kernel)
theorem mFL_X5_114 : Cond.fieldLink RX5 114 "LocoFrames$Station" "held" "I" ∈ wsL_law := List.mem_of_getElem? (i := 140) (by decide +kernel)
theorem mFL_X5_117 : Cond.fieldLink RX5 117 "LocoFrames$Layout" "noiseTicks" "I" ∈ wsL_law := List.mem_of_getElem? (i := 141) (by decide +kernel)
theorem mFL_X5_120 : Cond.fieldLink RX5 120 "LocoFrames$Layout" "frames" "I" ∈ wsL_law := List.mem_of_getElem? (i := 142) (by decide +kernel)
theorem mFL_X5_123 : Cond.fieldLink RX5 123 "LocoFrames$Layout" "broken" "I" ∈ wsL_law := List.mem_of_getElem? (i := 143) (by decide +kernel)
theorem mFL_X5_126 : Cond.fieldLink RX5 126 "LocoFrames$Layout" "spoiled" "I" ∈ wsL_law := List.mem_of_getElem? (i := 144) (by decide +kernel)
theorem mFL_X5_139 : Cond.fieldLink RX5 139 "LocoFrames$Pad" "length" "I" ∈ wsL_law := List.mem_of_getElem? (i := 145) (by decide +kernel)
theorem mFL_X5_142 : Cond.fieldLink RX5 142 "LocoFrames$History" "held" "I" ∈ wsL_law := List.mem_of_getElem? (i := 146) (by decide +kernel)
theorem mML_X5_129 : Cond.methodLink RX5 129 yX1_blocksWithShort ∈ wsL_law := List.mem_of_getElem? (i := 147) (by decide +kernel)
theorem mIM_yX1_blocksWithShort : Cond.instanceMethod yX1_blocksWithShort ∈ wsL_law := List.mem_of_getElem? (i := 148) (by decide +kernel)
theorem mSE_yX1_blocksWithShort : Cond.selects RX1 yX1_blocksWithShort yX1_blocksWithShort ∈ wsL_law := List.mem_of_getElem? (i := 149) (by decide +kernel)
theorem mCO_yX1_blocksWithShort : Cond.code yX1_blocksWithShort cX1_blocksWithShort 3 (some .int) ∈ wsL_law := List.mem_of_getElem? (i := 150) (by decide +kernel)
theorem mML_X5_133 : Cond.methodLink RX5 133 yX1_crowdedBlocks ∈ wsL_law := List.mem_of_getElem? (i := 151) (by decide +kernel)
theorem mIM_yX1_crowdedBlocks : Cond.instanceMethod yX1_crowdedBlocks ∈ wsL_law := List.mem_of_getElem? (i := 152) (by decide +kernel)
theorem mSE_yX1_crowdedBlocks : Cond.selects RX1 yX1_crowdedBlocks yX1_crowdedBlocks ∈ wsL_law := List.mem_of_getElem? (i := 153) (by decide +kernel)
theorem mCO_yX1_crowdedBlocks : Cond.code yX1_crowdedBlocks cX1_crowdedBlocks 3 (some .int) ∈ wsL_law := List.mem_of_getElem? (i := 154) (by decide +kernel)
theorem mML_X1_136 : Cond.methodLink RX1 136 yX1_locosIn ∈ wsL_law := List.mem_of_getElem? (i := 155) (by decide +kernel)
theorem mIM_yX1_locosIn : Cond.instanceMethod yX1_locosIn ∈ wsL_law := List.mem_of_getElem? (i := 156) (by decide +kernel)
theorem mSE_yX1_locosIn : Cond.selects RX1 yX1_locosIn yX1_locosIn ∈ wsL_law := List.mem_of_getElem? (i := 157) (by decide +kernel)
theorem mCO_yX1_locosIn : Cond.code yX1_locosIn cX1_locosIn 4 (some .int) ∈ wsL_law := List.mem_of_getElem? (i := 158) (by decide +kernel)
theorem mML_X1_87 : Cond.methodLink RX1 87 yX2_blockNumber ∈ wsL_law := List.mem_of_getElem? (i := 159) (by decide +kernel)
theorem mIM_yX2_blockNumber : Cond.instanceMethod yX2_blockNumber ∈ wsL_law := List.mem_of_getElem? (i := 160) (by decide +kernel)
theorem mSE_yX2_blockNumber : Cond.selects RX2 yX2_blockNumber yX2_blockNumber ∈ wsL_law := List.mem_of_getElem? (i := 161) (by decide +kernel)
theorem mCO_yX2_blockNumber : Cond.code yX2_blockNumber cX2_blockNumber 1 (some .int) ∈ wsL_law := List.mem_of_getElem? (i := 162) (by decide +kernel)
theorem mML_X5_136 : Cond.methodLink RX5 136 yX1_speedSum ∈ wsL_law := List.mem_of_getElem? (i := 163) (by decide +kernel)
theorem mIM_yX1_speedSum : Cond.instanceMethod yX1_speedSum ∈ wsL_law := List.mem_of_getElem? (i := 164) (by decide +kernel)
theorem mSE_yX1_speedSum : Cond.selects RX1 yX1_speedSum yX1_speedSum ∈ wsL_law := List.mem_of_getElem? (i := 165) (by decide +kernel)
theorem mCO_yX1_speedSum : Cond.code yX1_speedSum cX1_speedSum 3 (some .int) ∈ wsL_law := List.mem_of_getElem? (i := 166) (by decide +kernel)
theorem mFL_X1_105 : Cond.fieldLink RX1 105 "LocoFrames$Loco" "speed" "I" ∈ wsL_law := List.mem_of_getElem? (i := 167) (by decide +kernel)
theorem mML_L_18 : Cond.methodLink RL 18 yX5_address ∈ wsL_law := List.mem_of_getElem? (i := 168) (by decide +kernel)
theorem mIM_yX5_address : Cond.instanceMethod yX5_address ∈ wsL_law := List.mem_of_getElem? (i := 169) (by decide +kernel)
theorem mSE_yX5_address : Cond.selects RX5 yX5_address yX5_address ∈ wsL_law := List.mem_of_getElem? (i := 170) (by decide +kernel)
theorem mCO_yX5_address : Cond.code yX5_address cX5_address 3 (some .int) ∈ wsL_law := List.mem_of_getElem? (i := 171) (by decide +kernel)
theorem mFL_X5_91 : Cond.fieldLink RX5 91 "LocoFrames$Loco" "address" "I" ∈ wsL_law := List.mem_of_getElem? (i := 172) (by decide +kernel)
theorem mML_X5_88 : Cond.methodLink RX5 88 yX1_locoAt ∈ wsL_law := List.mem_of_getElem? (i := 173) (by decide +kernel)
theorem mIM_yX1_locoAt : Cond.instanceMethod yX1_locoAt ∈ wsL_law := List.mem_of_getElem? (i := 174) (by decide +kernel)
theorem mSE_yX1_locoAt : Cond.selects RX1 yX1_locoAt yX1_locoAt ∈ wsL_law := List.mem_of_getElem? (i := 175) (by decide +kernel)
theorem mCO_yX1_locoAt : Cond.code yX1_locoAt cX1_locoAt 2 (some (.object "LocoFrames$Loco")) ∈ wsL_law := List.mem_of_getElem? (i := 176) (by decide +kernel)
theorem mML_L_21 : Cond.methodLink RL 21 yX5_of ∈ wsL_law := List.mem_of_getElem? (i := 177) (by decide +kernel)
theorem mIM_yX5_of : Cond.instanceMethod yX5_of ∈ wsL_law := List.mem_of_getElem? (i := 178) (by decide +kernel)
theorem mSE_yX5_of : Cond.selects RX5 yX5_of yX5_of ∈ wsL_law := List.mem_of_getElem? (i := 179) (by decide +kernel)
theorem mCO_yX5_of : Cond.code yX5_of cX5_of 4 (some .int) ∈ wsL_law := List.mem_of_getElem? (i := 180) (by decide +kernel)
theorem mML_X5_79 : Cond.methodLink RX5 79 yX1_locoWith ∈ wsL_law := List.mem_of_getElem? (i := 181) (by decide +kernel)
theorem mIM_yX1_locoWith : Cond.instanceMethod yX1_locoWith ∈ wsL_law := List.mem_of_getElem? (i := 182) (by decide +kernel)
theorem mSE_yX1_locoWith : Cond.selects RX1 yX1_locoWith yX1_locoWith ∈ wsL_law := List.mem_of_getElem? (i := 183) (by decide +kernel)
theorem mCO_yX1_locoWith : Cond.code yX1_locoWith cX1_locoWith 2 (some (.object "LocoFrames$Loco")) ∈ wsL_law := List.mem_of_getElem? (i := 184) (by decide +kernel)
theorem mML_X1_68 : Cond.methodLink RX1 68 yX1_rankOf ∈ wsL_law := List.mem_of_getElem? (i := 185) (by decide +kernel)
theorem mIM_yX1_rankOf : Cond.instanceMethod yX1_rankOf ∈ wsL_law := List.mem_of_getElem? (i := 186) (by decide +kernel)
theorem mSE_yX1_rankOf : Cond.selects RX1 yX1_rankOf yX1_rankOf ∈ wsL_law := List.mem_of_getElem? (i := 187) (by decide +kernel)
theorem mCO_yX1_rankOf : Cond.code yX1_rankOf cX1_rankOf 3 (some .int) ∈ wsL_law := List.mem_of_getElem? (i := 188) (by decide +kernel)
theorem mFL_X1_76 : Cond.fieldLink RX1 76 "LocoFrames$Loco" "address" "I" ∈ wsL_law := List.mem_of_getElem? (i := 189) (by decide +kernel)
theorem mML_X1_72 : Cond.methodLink RX1 72 yX1_locoAt ∈ wsL_law := List.mem_of_getElem? (i := 190) (by decide +kernel)
theorem mML_X5_83 : Cond.methodLink RX5 83 yX2_told ∈ wsL_law := List.mem_of_getElem? (i := 191) (by decide +kernel)
theorem mIM_yX2_told : Cond.instanceMethod yX2_told ∈ wsL_law := List.mem_of_getElem? (i := 192) (by decide +kernel)
theorem mSE_yX2_told : Cond.selects RX2 yX2_told yX2_told ∈ wsL_law := List.mem_of_getElem? (i := 193) (by decide +kernel)
theorem mCO_yX2_told : Cond.code yX2_told cX2_told 2 (some .int) ∈ wsL_law := List.mem_of_getElem? (i := 194) (by decide +kernel)
theorem mML_X2_53 : Cond.methodLink RX2 53 yX2_goal ∈ wsL_law := List.mem_of_getElem? (i := 195) (by decide +kernel)
theorem mIM_yX2_goal : Cond.instanceMethod yX2_goal ∈ wsL_law := List.mem_of_getElem? (i := 196) (by decide +kernel)
theorem mSE_yX2_goal : Cond.selects RX2 yX2_goal yX2_goal ∈ wsL_law := List.mem_of_getElem? (i := 197) (by decide +kernel)
theorem mCO_yX2_goal : Cond.code yX2_goal cX2_goal 2 (some .int) ∈ wsL_law := List.mem_of_getElem? (i := 198) (by decide +kernel)
theorem mST_yX5_curveSpeed : Cond.static yX5_curveSpeed ∈ wsL_law := List.mem_of_getElem? (i := 199) (by decide +kernel)
theorem mCO_yX5_curveSpeed : Cond.code yX5_curveSpeed cX5_curveSpeed 3 (some .int) ∈ wsL_law := List.mem_of_getElem? (i := 200) (by decide +kernel)
theorem mML_X2_74 : Cond.methodLink RX2 74 yX2_blockNumber ∈ wsL_law := List.mem_of_getElem? (i := 201) (by decide +kernel)
theorem mML_L_25 : Cond.methodLink RL 25 yX5_waiting ∈ wsL_law := List.mem_of_getElem? (i := 202) (by decide +kernel)
theorem mIM_yX5_waiting : Cond.instanceMethod yX5_waiting ∈ wsL_law := List.mem_of_getElem? (i := 203) (by decide +kernel)
theorem mSE_yX5_waiting : Cond.selects RX5 yX5_waiting yX5_waiting ∈ wsL_law := List.mem_of_getElem? (i := 204) (by decide +kernel)
theorem mCO_yX5_waiting : Cond.code yX5_waiting cX5_waiting 3 (some .int) ∈ wsL_law := List.mem_of_getElem? (i := 205) (by decide +kernel)
theorem mML_X5_95 : Cond.methodLink RX5 95 yX4_told ∈ wsL_law := List.mem_of_getElem? (i := 206) (by decide +kernel)
theorem mIM_yX4_told : Cond.instanceMethod yX4_told ∈ wsL_law := List.mem_of_getElem? (i := 207) (by decide +kernel)
theorem mSE_yX4_told : Cond.selects RX4 yX4_told yX4_told ∈ wsL_law := List.mem_of_getElem? (i := 208) (by decide +kernel)
theorem mCO_yX4_told : Cond.code yX4_told cX4_told 3 (some .int) ∈ wsL_law := List.mem_of_getElem? (i := 209) (by decide +kernel)
theorem mML_L_28 : Cond.methodLink RL 28 yX5_block ∈ wsL_law := List.mem_of_getElem? (i := 210) (by decide +kernel)
theorem mIM_yX5_block : Cond.instanceMethod yX5_block ∈ wsL_law := List.mem_of_getElem? (i := 211) (by decide +kernel)
theorem mSE_yX5_block : Cond.selects RX5 yX5_block yX5_block ∈ wsL_law := List.mem_of_getElem? (i := 212) (by decide +kernel)
theorem mCO_yX5_block : Cond.code yX5_block cX5_block 3 (some .int) ∈ wsL_law := List.mem_of_getElem? (i := 213) (by decide +kernel)
theorem mFL_X5_101 : Cond.fieldLink RX5 101 "LocoFrames$Layout" "shortTicks" "[I" ∈ wsL_law := List.mem_of_getElem? (i := 214) (by decide +kernel)
theorem mML_X5_97 : Cond.methodLink RX5 97 yX5_isBlock ∈ wsL_law := List.mem_of_getElem? (i := 215) (by decide +kernel)
theorem mST_yX5_isBlock : Cond.static yX5_isBlock ∈ wsL_law := List.mem_of_getElem? (i := 216) (by decide +kernel)
theorem mCO_yX5_isBlock : Cond.code yX5_isBlock cX5_isBlock 1 (some .boolean) ∈ wsL_law := List.mem_of_getElem? (i := 217) (by decide +kernel)
theorem mML_X5_105 : Cond.methodLink RX5 105 yX1_locosIn ∈ wsL_law := List.mem_of_getElem? (i := 218) (by decide +kernel)
theorem mML_L_80 : Cond.methodLink RL 80 yL_cell ∈ wsL_law := List.mem_of_getElem? (i := 219) (by decide +kernel)
theorem mST_yL_cell : Cond.static yL_cell ∈ wsL_law := List.mem_of_getElem? (i := 220) (by decide +kernel)
theorem mCO_yL_cell : Cond.code yL_cell cL_cell 2 (some .int) ∈ wsL_law := List.mem_of_getElem? (i := 221) (by decide +kernel)
theorem mML_L_84 : Cond.methodLink RL 84 yL_act ∈ wsL_law := List.mem_of_getElem? (i := 222) (by decide +kernel)
theorem mST_yL_act : Cond.static yL_act ∈ wsL_law := List.mem_of_getElem? (i := 223) (by decide +kernel)
theorem mCO_yL_act : Cond.code yL_act cL_act 5 (some .int) ∈ wsL_law := List.mem_of_getElem? (i := 224) (by decide +kernel)
theorem mML_L_31 : Cond.methodLink RL 31 yL_low ∈ wsL_law := List.mem_of_getElem? (i := 225) (by decide +kernel)
theorem mST_yL_low : Cond.static yL_low ∈ wsL_law := List.mem_of_getElem? (i := 226) (by decide +kernel)
theorem mCO_yL_low : Cond.code yL_low cL_low 2 (some .int) ∈ wsL_law := List.mem_of_getElem? (i := 227) (by decide +kernel)
theorem mCN_L_7 : Cond.constant RL 7 (2147483647) ∈ wsL_law := List.mem_of_getElem? (i := 228) (by decide +kernel)
theorem mML_L_36 : Cond.methodLink RL 36 yX5_loco ∈ wsL_law := List.mem_of_getElem? (i := 229) (by decide +kernel)
theorem mIM_yX5_loco : Cond.instanceMethod yX5_loco ∈ wsL_law := List.mem_of_getElem? (i := 230) (by decide +kernel)
theorem mSE_yX5_loco : Cond.selects RX5 yX5_loco yX5_loco ∈ wsL_law := List.mem_of_getElem? (i := 231) (by decide +kernel)
theorem mCO_yX5_loco : Cond.code yX5_loco cX5_loco 5 (some .int) ∈ wsL_law := List.mem_of_getElem? (i := 232) (by decide +kernel)
theorem mML_X5_45 : Cond.methodLink RX5 45 yX1_addLoco ∈ wsL_law := List.mem_of_getElem? (i := 233) (by decide +kernel)
theorem mIM_yX1_addLoco : Cond.instanceMethod yX1_addLoco ∈ wsL_law := List.mem_of_getElem? (i := 234) (by decide +kernel)
theorem mSE_yX1_addLoco : Cond.selects RX1 yX1_addLoco yX1_addLoco ∈ wsL_law := List.mem_of_getElem? (i := 235) (by decide +kernel)
theorem mCO_yX1_addLoco : Cond.code yX1_addLoco cX1_addLoco 7 (some .int) ∈ wsL_law := List.mem_of_getElem? (i := 236) (by decide +kernel)
theorem mML_X1_79 : Cond.methodLink RX1 79 yX2_begin ∈ wsL_law := List.mem_of_getElem? (i := 237) (by decide +kernel)
theorem mIM_yX2_begin : Cond.instanceMethod yX2_begin ∈ wsL_law := List.mem_of_getElem? (i := 238) (by decide +kernel)
theorem mSE_yX2_begin : Cond.selects RX2 yX2_begin yX2_begin ∈ wsL_law := List.mem_of_getElem? (i := 239) (by decide +kernel)
theorem mCO_yX2_begin : Cond.code yX2_begin cX2_begin 5 none ∈ wsL_law := List.mem_of_getElem? (i := 240) (by decide +kernel)
theorem mML_L_40 : Cond.methodLink RL 40 yX5_lift ∈ wsL_law := List.mem_of_getElem? (i := 241) (by decide +kernel)
theorem mIM_yX5_lift : Cond.instanceMethod yX5_lift ∈ wsL_law := List.mem_of_getElem? (i := 242) (by decide +kernel)
theorem mSE_yX5_lift : Cond.selects RX5 yX5_lift yX5_lift ∈ wsL_law := List.mem_of_getElem? (i := 243) (by decide +kernel)
theorem mCO_yX5_lift : Cond.code yX5_lift cX5_lift 2 (some .int) ∈ wsL_law := List.mem_of_getElem? (i := 244) (by decide +kernel)
theorem mML_X5_53 : Cond.methodLink RX5 53 yX1_removeLoco ∈ wsL_law := List.mem_of_getElem? (i := 245) (by decide +kernel)
theorem mIM_yX1_removeLoco : Cond.instanceMethod yX1_removeLoco ∈ wsL_law := List.mem_of_getElem? (i := 246) (by decide +kernel)
theorem mSE_yX1_removeLoco : Cond.selects RX1 yX1_removeLoco yX1_removeLoco ∈ wsL_law := List.mem_of_getElem? (i := 247) (by decide +kernel)
theorem mCO_yX1_removeLoco : Cond.code yX1_removeLoco cX1_removeLoco 5 (some .int) ∈ wsL_law := List.mem_of_getElem? (i := 248) (by decide +kernel)
theorem mML_L_43 : Cond.methodLink RL 43 yX5_noise ∈ wsL_law := List.mem_of_getElem? (i := 249) (by decide +kernel)
theorem mIM_yX5_noise : Cond.instanceMethod yX5_noise ∈ wsL_law := List.mem_of_getElem? (i := 250) (by decide +kernel)
theorem mSE_yX5_noise : Cond.selects RX5 yX5_noise yX5_noise ∈ wsL_law := List.mem_of_getElem? (i := 251) (by decide +kernel)
theorem mCO_yX5_noise : Cond.code yX5_noise cX5_noise 2 (some .int) ∈ wsL_law := List.mem_of_getElem? (i := 252) (by decide +kernel)
theorem mML_X5_56 : Cond.methodLink RX5 56 yX1_changeNoise ∈ wsL_law := List.mem_of_getElem? (i := 253) (by decide +kernel)
theorem mIM_yX1_changeNoise : Cond.instanceMethod yX1_changeNoise ∈ wsL_law := List.mem_of_getElem? (i := 254) (by decide +kernel)
theorem mSE_yX1_changeNoise : Cond.selects RX1 yX1_changeNoise yX1_changeNoise ∈ wsL_law := List.mem_of_getElem? (i := 255) (by decide +kernel)
theorem mCO_yX1_changeNoise : Cond.code yX1_changeNoise cX1_changeNoise 3 (some .int) ∈ wsL_law := List.mem_of_getElem? (i := 256) (by decide +kernel)
theorem mML_L_46 : Cond.methodLink RL 46 yX5_order ∈ wsL_law := List.mem_of_getElem? (i := 257) (by decide +kernel)
theorem mIM_yX5_order : Cond.instanceMethod yX5_order ∈ wsL_law := List.mem_of_getElem? (i := 258) (by decide +kernel)
theorem mSE_yX5_order : Cond.selects RX5 yX5_order yX5_order ∈ wsL_law := List.mem_of_getElem? (i := 259) (by decide +kernel)
theorem mCO_yX5_order : Cond.code yX5_order cX5_order 4 (some .int) ∈ wsL_law := List.mem_of_getElem? (i := 260) (by decide +kernel)
theorem mML_X5_63 : Cond.methodLink RX5 63 yX4_take ∈ wsL_law := List.mem_of_getElem? (i := 261) (by decide +kernel)
theorem mIM_yX4_take : Cond.instanceMethod yX4_take ∈ wsL_law := List.mem_of_getElem? (i := 262) (by decide +kernel)
theorem mSE_yX4_take : Cond.selects RX4 yX4_take yX4_take ∈ wsL_law := List.mem_of_getElem? (i := 263) (by decide +kernel)
theorem mCO_yX4_take : Cond.code yX4_take cX4_take 5 (some .int) ∈ wsL_law := List.mem_of_getElem? (i := 264) (by decide +kernel)
theorem mML_X4_35 : Cond.methodLink RX4 35 yX4_setRow ∈ wsL_law := List.mem_of_getElem? (i := 265) (by decide +kernel)
theorem mIM_yX4_setRow : Cond.instanceMethod yX4_setRow ∈ wsL_law := List.mem_of_getElem? (i := 266) (by decide +kernel)
theorem mSE_yX4_setRow : Cond.selects RX4 yX4_setRow yX4_setRow ∈ wsL_law := List.mem_of_getElem? (i := 267) (by decide +kernel)
theorem mCO_yX4_setRow : Cond.code yX4_setRow cX4_setRow 5 none ∈ wsL_law := List.mem_of_getElem? (i := 268) (by decide +kernel)
theorem mML_L_50 : Cond.methodLink RL 50 yX5_frame ∈ wsL_law := List.mem_of_getElem? (i := 269) (by decide +kernel)
theorem mIM_yX5_frame : Cond.instanceMethod yX5_frame ∈ wsL_law := List.mem_of_getElem? (i := 270) (by decide +kernel)
theorem mSE_yX5_frame : Cond.selects RX5 yX5_frame yX5_frame ∈ wsL_law := List.mem_of_getElem? (i := 271) (by decide +kernel)
theorem mCO_yX5_frame : Cond.code yX5_frame cX5_frame 4 (some .int) ∈ wsL_law := List.mem_of_getElem? (i := 272) (by decide +kernel)
theorem mML_X5_69 : Cond.methodLink RX5 69 yX1_takeFrame ∈ wsL_law := List.mem_of_getElem? (i := 273) (by decide +kernel)
theorem mIM_yX1_takeFrame : Cond.instanceMethod yX1_takeFrame ∈ wsL_law := List.mem_of_getElem? (i := 274) (by decide +kernel)
theorem mSE_yX1_takeFrame : Cond.selects RX1 yX1_takeFrame yX1_takeFrame ∈ wsL_law := List.mem_of_getElem? (i := 275) (by decide +kernel)
theorem mCO_yX1_takeFrame : Cond.code yX1_takeFrame cX1_takeFrame 7 (some .int) ∈ wsL_law := List.mem_of_getElem? (i := 276) (by decide +kernel)
theorem mML_X1_91 : Cond.methodLink RX1 91 yX1_isShorted ∈ wsL_law := List.mem_of_getElem? (i := 277) (by decide +kernel)
theorem mIM_yX1_isShorted : Cond.instanceMethod yX1_isShorted ∈ wsL_law := List.mem_of_getElem? (i := 278) (by decide +kernel)
theorem mSE_yX1_isShorted : Cond.selects RX1 yX1_isShorted yX1_isShorted ∈ wsL_law := List.mem_of_getElem? (i := 279) (by decide +kernel)
theorem mCO_yX1_isShorted : Cond.code yX1_isShorted cX1_isShorted 2 (some .boolean) ∈ wsL_law := List.mem_of_getElem? (i := 280) (by decide +kernel)
theorem mML_X1_94 : Cond.methodLink RX1 94 yX2_hear ∈ wsL_law := List.mem_of_getElem? (i := 281) (by decide +kernel)
theorem mIM_yX2_hear : Cond.instanceMethod yX2_hear ∈ wsL_law := List.mem_of_getElem? (i := 282) (by decide +kernel)
theorem mSE_yX2_hear : Cond.selects RX2 yX2_hear yX2_hear ∈ wsL_law := List.mem_of_getElem? (i := 283) (by decide +kernel)
theorem mCO_yX2_hear : Cond.code yX2_hear cX2_hear 3 none ∈ wsL_law := List.mem_of_getElem? (i := 284) (by decide +kernel)
theorem mML_L_53 : Cond.methodLink RL 53 yX5_shorts ∈ wsL_law := List.mem_of_getElem? (i := 285) (by decide +kernel)
theorem mIM_yX5_shorts : Cond.instanceMethod yX5_shorts ∈ wsL_law := List.mem_of_getElem? (i := 286) (by decide +kernel)
theorem mSE_yX5_shorts : Cond.selects RX5 yX5_shorts yX5_shorts ∈ wsL_law := List.mem_of_getElem? (i := 287) (by decide +kernel)
theorem mCO_yX5_shorts : Cond.code yX5_shorts cX5_shorts 3 (some .int) ∈ wsL_law := List.mem_of_getElem? (i := 288) (by decide +kernel)
theorem mML_X5_72 : Cond.methodLink RX5 72 yX1_changeShort ∈ wsL_law := List.mem_of_getElem? (i := 289) (by decide +kernel)
theorem mIM_yX1_changeShort : Cond.instanceMethod yX1_changeShort ∈ wsL_law := List.mem_of_getElem? (i := 290) (by decide +kernel)
theorem mSE_yX1_changeShort : Cond.selects RX1 yX1_changeShort yX1_changeShort ∈ wsL_law := List.mem_of_getElem? (i := 291) (by decide +kernel)
theorem mCO_yX1_changeShort : Cond.code yX1_changeShort cX1_changeShort 4 (some .int) ∈ wsL_law := List.mem_of_getElem? (i := 292) (by decide +kernel)
theorem mML_L_59 : Cond.methodLink RL 59 yX5_pass ∈ wsL_law := List.mem_of_getElem? (i := 293) (by decide +kernel)
theorem mIM_yX5_pass : Cond.instanceMethod yX5_pass ∈ wsL_law := List.mem_of_getElem? (i := 294) (by decide +kernel)
theorem mSE_yX5_pass : Cond.selects RX5 yX5_pass yX5_pass ∈ wsL_law := List.mem_of_getElem? (i := 295) (by decide +kernel)
theorem mCO_yX5_pass : Cond.code yX5_pass cX5_pass 2 (some .int) ∈ wsL_law := List.mem_of_getElem? (i := 296) (by decide +kernel)
theorem mML_X5_76 : Cond.methodLink RX5 76 yX1_takeTicks ∈ wsL_law := List.mem_of_getElem? (i := 297) (by decide +kernel)
theorem mIM_yX1_takeTicks : Cond.instanceMethod yX1_takeTicks ∈ wsL_law := List.mem_of_getElem? (i := 298) (by decide +kernel)
theorem mSE_yX1_takeTicks : Cond.selects RX1 yX1_takeTicks yX1_takeTicks ∈ wsL_law := List.mem_of_getElem? (i := 299) (by decide +kernel)
theorem mCO_yX1_takeTicks : Cond.code yX1_takeTicks cX1_takeTicks 4 (some .int) ∈ wsL_law := List.mem_of_getElem? (i := 300) (by decide +kernel)
theorem mCN_X1_98 : Cond.constant RX1 98 (99999) ∈ wsL_law := List.mem_of_getElem? (i := 301) (by decide +kernel)
theorem mML_X1_99 : Cond.methodLink RX1 99 yX1_tick ∈ wsL_law := List.mem_of_getElem? (i := 302) (by decide +kernel)
theorem mIM_yX1_tick : Cond.instanceMethod yX1_tick ∈ wsL_law := List.mem_of_getElem? (i := 303) (by decide +kernel)
theorem mSE_yX1_tick : Cond.selects RX1 yX1_tick yX1_tick ∈ wsL_law := List.mem_of_getElem? (i := 304) (by decide +kernel)
theorem mCO_yX1_tick : Cond.code yX1_tick cX1_tick 4 (some .int) ∈ wsL_law := List.mem_of_getElem? (i := 305) (by decide +kernel)
theorem mML_X1_114 : Cond.methodLink RX1 114 Lib.Math.max.name ∈ wsL_law := List.mem_of_getElem? (i := 306) (by decide +kernel)
theorem mST_LMmax : Cond.static Lib.Math.max.name ∈ wsL_law := List.mem_of_getElem? (i := 307) (by decide +kernel)
theorem mIN_java_lang_Math : Cond.initialized "java/lang/Math" ∈ wsL_law := List.mem_of_getElem? (i := 308) (by decide +kernel)
theorem mCO_LMmax : Cond.code Lib.Math.max.name Lib.Math.max.code 2 (some .int) ∈ wsL_law := List.mem_of_getElem? (i := 309) (by decide +kernel)
theorem mML_X1_102 : Cond.methodLink RX1 102 yX1_sendFirst ∈ wsL_law := List.mem_of_getElem? (i := 310) (by decide +kernel)
theorem mIM_yX1_sendFirst : Cond.instanceMethod yX1_sendFirst ∈ wsL_law := List.mem_of_getElem? (i := 311) (by decide +kernel)
theorem mSE_yX1_sendFirst : Cond.selects RX1 yX1_sendFirst yX1_sendFirst ∈ wsL_law := List.mem_of_getElem? (i := 312) (by decide +kernel)
theorem mCO_yX1_sendFirst : Cond.code yX1_sendFirst cX1_sendFirst 4 (some .int) ∈ wsL_law := List.mem_of_getElem? (i := 313) (by decide +kernel)
theorem mFL_X1_120 : Cond.fieldLink RX1 120 "LocoFrames$Station" "held" "I" ∈ wsL_law := List.mem_of_getElem? (i := 314) (by decide +kernel)
theorem mFL_X1_123 : Cond.fieldLink RX1 123 "LocoFrames$Station" "addresses" "[I" ∈ wsL_law := List.mem_of_getElem? (i := 315) (by decide +kernel)
theorem mFL_X1_126 : Cond.fieldLink RX1 126 "LocoFrames$Station" "data" "[I" ∈ wsL_law := List.mem_of_getElem? (i := 316) (by decide +kernel)
theorem mML_X1_129 : Cond.methodLink RX1 129 yX4_dropFirst ∈ wsL_law := List.mem_of_getElem? (i := 317) (by decide +kernel)
theorem mIM_yX4_dropFirst : Cond.instanceMethod yX4_dropFirst ∈ wsL_law := List.mem_of_getElem? (i := 318) (by decide +kernel)
theorem mSE_yX4_dropFirst : Cond.selects RX4 yX4_dropFirst yX4_dropFirst ∈ wsL_law := List.mem_of_getElem? (i := 319) (by decide +kernel)
theorem mCO_yX4_dropFirst : Cond.code yX4_dropFirst cX4_dropFirst 2 none ∈ wsL_law := List.mem_of_getElem? (i := 320) (by decide +kernel)
theorem mML_X4_39 : Cond.methodLink RX4 39 Lib.Math.max.name ∈ wsL_law := List.mem_of_getElem? (i := 321) (by decide +kernel)
theorem mML_X1_132 : Cond.methodLink RX1 132 yX1_takeFrame ∈ wsL_law := List.mem_of_getElem? (i := 322) (by decide +kernel)
theorem mML_X1_108 : Cond.methodLink RX1 108 yX2_changeSpeed ∈ wsL_law := List.mem_of_getElem? (i := 323) (by decide +kernel)
theorem mIM_yX2_changeSpeed : Cond.instanceMethod yX2_changeSpeed ∈ wsL_law := List.mem_of_getElem? (i := 324) (by decide +kernel)
theorem mSE_yX2_changeSpeed : Cond.selects RX2 yX2_changeSpeed yX2_changeSpeed ∈ wsL_law := List.mem_of_getElem? (i := 325) (by decide +kernel)
theorem mCO_yX2_changeSpeed : Cond.code yX2_changeSpeed cX2_changeSpeed 2 none ∈ wsL_law := List.mem_of_getElem? (i := 326) (by decide +kernel)
theorem mML_X2_62 : Cond.methodLink RX2 62 Lib.Math.min.name ∈ wsL_law := List.mem_of_getElem? (i := 327) (by decide +kernel)
theorem mST_LMmin : Cond.static Lib.Math.min.name ∈ wsL_law := List.mem_of_getElem? (i := 328) (by decide +kernel)
theorem mCO_LMmin : Cond.code Lib.Math.min.name Lib.Math.min.code 2 (some .int) ∈ wsL_law := List.mem_of_getElem? (i := 329) (by decide +kernel)
theorem mML_X2_65 : Cond.methodLink RX2 65 Lib.Math.max.name ∈ wsL_law := List.mem_of_getElem? (i := 330) (by decide +kernel)
theorem mML_X2_49 : Cond.methodLink RX2 49 yX2_mostGain ∈ wsL_law := List.mem_of_getElem? (i := 331) (by decide +kernel)
theorem mIM_yX2_mostGain : Cond.instanceMethod yX2_mostGain ∈ wsL_law := List.mem_of_getElem? (i := 332) (by decide +kernel)
theorem mSE_yX2_mostGain : Cond.selects RX2 yX2_mostGain yX2_mostGain ∈ wsL_law := List.mem_of_getElem? (i := 333) (by decide +kernel)
theorem mCO_yX2_mostGain : Cond.code yX2_mostGain cX2_mostGain 1 (some .int) ∈ wsL_law := List.mem_of_getElem? (i := 334) (by decide +kernel)
theorem mML_X1_111 : Cond.methodLink RX1 111 yX2_roll ∈ wsL_law := List.mem_of_getElem? (i := 335) (by decide +kernel)
theorem mIM_yX2_roll : Cond.instanceMethod yX2_roll ∈ wsL_law := List.mem_of_getElem? (i := 336) (by decide +kernel)
theorem mSE_yX2_roll : Cond.selects RX2 yX2_roll yX2_roll ∈ wsL_law := List.mem_of_getElem? (i := 337) (by decide +kernel)
theorem mCO_yX2_roll : Cond.code yX2_roll cX2_roll 3 none ∈ wsL_law := List.mem_of_getElem? (i := 338) (by decide +kernel)
theorem mML_X2_68 : Cond.methodLink RX2 68 yJ9_floorDiv_7cf53 ∈ wsL_law := List.mem_of_getElem? (i := 339) (by decide +kernel)
theorem mST_yJ9_floorDiv_7cf53 : Cond.static yJ9_floorDiv_7cf53 ∈ wsL_law := List.mem_of_getElem? (i := 340) (by decide +kernel)
theorem mIN_RJ9 : Cond.initialized RJ9 ∈ wsL_law := List.mem_of_getElem? (i := 341) (by decide +kernel)
theorem mCO_yJ9_floorDiv_7cf53 : Cond.code yJ9_floorDiv_7cf53 cJ9_floorDiv_7cf53 3 (some .int) ∈ wsL_law := List.mem_of_getElem? (i := 342) (by decide +kernel)
theorem mML_X2_71 : Cond.methodLink RX2 71 yJ9_floorMod_7cf53 ∈ wsL_law := List.mem_of_getElem? (i := 343) (by decide +kernel)
theorem mST_yJ9_floorMod_7cf53 : Cond.static yJ9_floorMod_7cf53 ∈ wsL_law := List.mem_of_getElem? (i := 344) (by decide +kernel)
theorem mCO_yJ9_floorMod_7cf53 : Cond.code yJ9_floorMod_7cf53 cJ9_floorMod_7cf53 3 (some .int) ∈ wsL_law := List.mem_of_getElem? (i := 345) (by decide +kernel)
theorem mML_L_88 : Cond.methodLink RL 88 yL_holds ∈ wsL_law := List.mem_of_getElem? (i := 346) (by decide +kernel)
theorem mST_yL_holds : Cond.static yL_holds ∈ wsL_law := List.mem_of_getElem? (i := 347) (by decide +kernel)
theorem mCO_yL_holds : Cond.code yL_holds cL_holds 11 (some .boolean) ∈ wsL_law := List.mem_of_getElem? (i := 348) (by decide +kernel)
theorem mML_L_62 : Cond.methodLink RL 62 yX5_settles ∈ wsL_law := List.mem_of_getElem? (i := 349) (by decide +kernel)
theorem mIM_yX5_settles : Cond.instanceMethod yX5_settles ∈ wsL_law := List.mem_of_getElem? (i := 350) (by decide +kernel)
theorem mSE_yX5_settles : Cond.selects RX5 yX5_settles yX5_settles ∈ wsL_law := List.mem_of_getElem? (i := 351) (by decide +kernel)
theorem mCO_yX5_settles : Cond.code yX5_settles cX5_settles 3 (some .int) ∈ wsL_law := List.mem_of_getElem? (i := 352) (by decide +kernel)
theorem mML_X5_152 : Cond.methodLink RX5 152 yX2_ticksToGoal ∈ wsL_law := List.mem_of_getElem? (i := 353) (by decide +kernel)
theorem mIM_yX2_ticksToGoal : Cond.instanceMethod yX2_ticksToGoal ∈ wsL_law := List.mem_of_getElem? (i := 354) (by decide +kernel)
theorem mSE_yX2_ticksToGoal : Cond.selects RX2 yX2_ticksToGoal yX2_ticksToGoal ∈ wsL_law := List.mem_of_getElem? (i := 355) (by decide +kernel)
theorem mCO_yX2_ticksToGoal : Cond.code yX2_ticksToGoal cX2_ticksToGoal 3 (some .int) ∈ wsL_law := List.mem_of_getElem? (i := 356) (by decide +kernel)
theorem mML_X2_56 : Cond.methodLink RX2 56 Lib.Math.abs.name ∈ wsL_law := List.mem_of_getElem? (i := 357) (by decide +kernel)
theorem mST_LMabs : Cond.static Lib.Math.abs.name ∈ wsL_law := List.mem_of_getElem? (i := 358) (by decide +kernel)
theorem mCO_LMabs : Cond.code Lib.Math.abs.name Lib.Math.abs.code 1 (some .int) ∈ wsL_law := List.mem_of_getElem? (i := 359) (by decide +kernel)
theorem mML_L_65 : Cond.methodLink RL 65 yX5_reaches ∈ wsL_law := List.mem_of_getElem? (i := 360) (by decide +kernel)
theorem mIM_yX5_reaches : Cond.instanceMethod yX5_reaches ∈ wsL_law := List.mem_of_getElem? (i := 361) (by decide +kernel)
theorem mSE_yX5_reaches : Cond.selects RX5 yX5_reaches yX5_reaches ∈ wsL_law := List.mem_of_getElem? (i := 362) (by decide +kernel)
theorem mCO_yX5_reaches : Cond.code yX5_reaches cX5_reaches 5 (some .int) ∈ wsL_law := List.mem_of_getElem? (i := 363) (by decide +kernel)
theorem mML_X5_146 : Cond.methodLink RX5 146 yX2_blockNumber ∈ wsL_law := List.mem_of_getElem? (i := 364) (by decide +kernel)
theorem mML_X5_149 : Cond.methodLink RX5 149 yX1_tick ∈ wsL_law := List.mem_of_getElem? (i := 365) (by decide +kernel)
theorem mML_L_92 : Cond.methodLink RL 92 yL_goesBySpeed ∈ wsL_law := List.mem_of_getElem? (i := 366) (by decide +kernel)
theorem mST_yL_goesBySpeed : Cond.static yL_goesBySpeed ∈ wsL_law := List.mem_of_getElem? (i := 367) (by decide +kernel)
theorem mCO_yL_goesBySpeed : Cond.code yL_goesBySpeed cL_goesBySpeed 11 (some .boolean) ∈ wsL_law := List.mem_of_getElem? (i := 368) (by decide +kernel)
set_option maxRecDepth 100000 in
theorem gAll : GoodIn wsL_law wsL_law := goodIn_sub (fun _ h => h) (by decide +kernel)
theorem gw {y : MethodName} {b : ByteArray} {n : Nat} {r : Option FieldType} (hc : Cond.code y b n r ∈ wsL_law) : GoodIn wsL_law (wz y b n r) := fun w h => by
  rcases List.mem_cons.mp h with rfl | h
  · exact gAll _ hc
  · exact gAll w h
theorem gV {own C : String} {idx : Nat} {y : MethodName} {b : ByteArray} {n : Nat} {r : Option FieldType} (h1 : Cond.methodLink own idx y ∈ wsL_law) (h2 : Cond.instanceMethod y ∈ wsL_law) (h3 : Cond.selects C y y ∈ wsL_law) (h4 : Cond.initialized C ∈ wsL_law) (hc : Cond.code y b n r ∈ wsL_law) : GoodIn wsL_law (wsV own idx C y (wz y b n r)) := fun w h => by
  rcases List.mem_append.mp h with h | h
  · simp only [List.mem_cons, List.not_mem_nil, or_false] at h
    rcases h with rfl | rfl | rfl | rfl
    · exact gAll _ h1
    · exact gAll _ h2
    · exact gAll _ h3
    · exact gAll _ h4
  · exact gw hc w h
theorem gS {own : String} {idx : Nat} {y : MethodName} {b : ByteArray} {n : Nat} {r : Option FieldType} (h1 : Cond.methodLink own idx y ∈ wsL_law) (h2 : Cond.static y ∈ wsL_law) (h4 : Cond.initialized y.cls ∈ wsL_law) (hc : Cond.code y b n r ∈ wsL_law) : GoodIn wsL_law (va_wsS own idx y (wz y b n r)) := fun w h => by
  rcases List.mem_append.mp h with h | h
  · simp only [List.mem_cons, List.not_mem_nil, or_false] at h
    rcases h with rfl | rfl | rfl
    · exact gAll _ h1
    · exact gAll _ h2
    · exact gAll _ h4
  · exact gw hc w h
theorem lk_L_12 : GoodIn wsL_law (wsV RL 12 RX5 yX5_count (wz yX5_count cX5_count 2 (some .int))) := gV mML_L_12 mIM_yX5_count mSE_yX5_count mIN_RX5 mCO_yX5_count
theorem lk_L_18 : GoodIn wsL_law (wsV RL 18 RX5 yX5_address (wz yX5_address cX5_address 3 (some .int))) := gV mML_L_18 mIM_yX5_address mSE_yX5_address mIN_RX5 mCO_yX5_address
theorem lk_L_21 : GoodIn wsL_law (wsV RL 21 RX5 yX5_of (wz yX5_of cX5_of 4 (some .int))) := gV mML_L_21 mIM_yX5_of mSE_yX5_of mIN_RX5 mCO_yX5_of
theorem lk_L_25 : GoodIn wsL_law (wsV RL 25 RX5 yX5_waiting (wz yX5_waiting cX5_waiting 3 (some .int))) := gV mML_L_25 mIM_yX5_waiting mSE_yX5_waiting mIN_RX5 mCO_yX5_waiting
theorem lk_L_28 : GoodIn wsL_law (wsV RL 28 RX5 yX5_block (wz yX5_block cX5_block 3 (some .int))) := gV mML_L_28 mIM_yX5_block mSE_yX5_block mIN_RX5 mCO_yX5_block
theorem lk_L_31 : GoodIn wsL_law (va_wsS RL 31 yL_low (wz yL_low cL_low 2 (some .int))) := gS mML_L_31 mST_yL_low mIN_RL mCO_yL_low
theorem lk_L_36 : GoodIn wsL_law (wsV RL 36 RX5 yX5_loco (wz yX5_loco cX5_loco 5 (some .int))) := gV mML_L_36 mIM_yX5_loco mSE_yX5_loco mIN_RX5 mCO_yX5_loco
theorem lk_L_40 : GoodIn wsL_law (wsV RL 40 RX5 yX5_lift (wz yX5_lift cX5_lift 2 (some .int))) := gV mML_L_40 mIM_yX5_lift mSE_yX5_lift mIN_RX5 mCO_yX5_lift
theorem lk_L_43 : GoodIn wsL_law (wsV RL 43 RX5 yX5_noise (wz yX5_noise cX5_noise 2 (some .int))) := gV mML_L_43 mIM_yX5_noise mSE_yX5_noise mIN_RX5 mCO_yX5_noise
theorem lk_L_46 : GoodIn wsL_law (wsV RL 46 RX5 yX5_order (wz yX5_order cX5_order 4 (some .int))) := gV mML_L_46 mIM_yX5_order mSE_yX5_order mIN_RX5 mCO_yX5_order
theorem lk_L_50 : GoodIn wsL_law (wsV RL 50 RX5 yX5_frame (wz yX5_frame cX5_frame 4 (some .int))) := gV mML_L_50 mIM_yX5_frame mSE_yX5_frame mIN_RX5 mCO_yX5_frame
theorem lk_L_53 : GoodIn wsL_law (wsV RL 53 RX5 yX5_shorts (wz yX5_shorts cX5_shorts 3 (some .int))) := gV mML_L_53 mIM_yX5_shorts mSE_yX5_shorts mIN_RX5 mCO_yX5_shorts
theorem lk_L_56 : GoodIn wsL_law (wsV RL 56 RX5 yX5_restore (wz yX5_restore cX5_restore 2 (some .int))) := gV mML_L_56 mIM_yX5_restore mSE_yX5_restore mIN_RX5 mCO_yX5_restore
theorem lk_L_59 : GoodIn wsL_law (wsV RL 59 RX5 yX5_pass (wz yX5_pass cX5_pass 2 (some .int))) := gV mML_L_59 mIM_yX5_pass mSE_yX5_pass mIN_RX5 mCO_yX5_pass
theorem lk_L_62 : GoodIn wsL_law (wsV RL 62 RX5 yX5_settles (wz yX5_settles cX5_settles 3 (some .int))) := gV mML_L_62 mIM_yX5_settles mSE_yX5_settles mIN_RX5 mCO_yX5_settles
theorem lk_L_65 : GoodIn wsL_law (wsV RL 65 RX5 yX5_reaches (wz yX5_reaches cX5_reaches 5 (some .int))) := gV mML_L_65 mIM_yX5_reaches mSE_yX5_reaches mIN_RX5 mCO_yX5_reaches
theorem lk_L_68 : GoodIn wsL_law (wsV RL 68 RX5 yX5_undo (wz yX5_undo cX5_undo 1 (some .int))) := gV mML_L_68 mIM_yX5_undo mSE_yX5_undo mIN_RX5 mCO_yX5_undo
theorem lk_L_73 : GoodIn wsL_law (wsV RL 73 RX5 yX5_save (wz yX5_save cX5_save 2 (some .int))) := gV mML_L_73 mIM_yX5_save mSE_yX5_save mIN_RX5 mCO_yX5_save
theorem lk_L_76 : GoodIn wsL_law (va_wsS RL 76 yL_told (wz yL_told cL_told 6 (some .long))) := gS mML_L_76 mST_yL_told mIN_RL mCO_yL_told
theorem lk_L_80 : GoodIn wsL_law (va_wsS RL 80 yL_cell (wz yL_cell cL_cell 2 (some .int))) := gS mML_L_80 mST_yL_cell mIN_RL mCO_yL_cell
theorem lk_L_84 : GoodIn wsL_law (va_wsS RL 84 yL_act (wz yL_act cL_act 5 (some .int))) := gS mML_L_84 mST_yL_act mIN_RL mCO_yL_act
theorem lk_L_88 : GoodIn wsL_law (va_wsS RL 88 yL_holds (wz yL_holds cL_holds 11 (some .boolean))) := gS mML_L_88 mST_yL_holds mIN_RL mCO_yL_holds
theorem lk_L_92 : GoodIn wsL_law (va_wsS RL 92 yL_goesBySpeed (wz yL_goesBySpeed cL_goesBySpeed 11 (some .boolean))) := gS mML_L_92 mST_yL_goesBySpeed mIN_RL mCO_yL_goesBySpeed
theorem lk_X0_25 : GoodIn wsL_law (wsV RX0 25 RX1 yX1_copyFrom (wz yX1_copyFrom cX1_copyFrom 3 none)) := gV mML_X0_25 mIM_yX1_copyFrom mSE_yX1_copyFrom mIN_RX1 mCO_yX1_copyFrom
theorem lk_X1_102 : GoodIn wsL_law (wsV RX1 102 RX1 yX1_sendFirst (wz yX1_sendFirst cX1_sendFirst 4 (some .int))) := gV mML_X1_102 mIM_yX1_sendFirst mSE_yX1_sendFirst mIN_RX1 mCO_yX1_sendFirst
theorem lk_X1_108 : GoodIn wsL_law (wsV RX1 108 RX2 yX2_changeSpeed (wz yX2_changeSpeed cX2_changeSpeed 2 none)) := gV mML_X1_108 mIM_yX2_changeSpeed mSE_yX2_changeSpeed mIN_RX2 mCO_yX2_changeSpeed
theorem lk_X1_111 : GoodIn wsL_law (wsV RX1 111 RX2 yX2_roll (wz yX2_roll cX2_roll 3 none)) := gV mML_X1_111 mIM_yX2_roll mSE_yX2_roll mIN_RX2 mCO_yX2_roll
theorem lk_X1_129 : GoodIn wsL_law (wsV RX1 129 RX4 yX4_dropFirst (wz yX4_dropFirst cX4_dropFirst 2 none)) := gV mML_X1_129 mIM_yX4_dropFirst mSE_yX4_dropFirst mIN_RX4 mCO_yX4_dropFirst
theorem lk_X1_132 : GoodIn wsL_law (wsV RX1 132 RX1 yX1_takeFrame (wz yX1_takeFrame cX1_takeFrame 7 (some .int))) := gV mML_X1_132 mIM_yX1_takeFrame mSE_yX1_takeFrame mIN_RX1 mCO_yX1_takeFrame
theorem lk_X1_136 : GoodIn wsL_law (wsV RX1 136 RX1 yX1_locosIn (wz yX1_locosIn cX1_locosIn 4 (some .int))) := gV mML_X1_136 mIM_yX1_locosIn mSE_yX1_locosIn mIN_RX1 mCO_yX1_locosIn
theorem lk_X1_33 : GoodIn wsL_law (wsV RX1 33 RX2 yX2_copyFrom (wz yX2_copyFrom cX2_copyFrom 2 none)) := gV mML_X1_33 mIM_yX2_copyFrom mSE_yX2_copyFrom mIN_RX2 mCO_yX2_copyFrom
theorem lk_X1_37 : GoodIn wsL_law (wsV RX1 37 RX4 yX4_copyFrom (wz yX4_copyFrom cX4_copyFrom 2 none)) := gV mML_X1_37 mIM_yX4_copyFrom mSE_yX4_copyFrom mIN_RX4 mCO_yX4_copyFrom
theorem lk_X1_68 : GoodIn wsL_law (wsV RX1 68 RX1 yX1_rankOf (wz yX1_rankOf cX1_rankOf 3 (some .int))) := gV mML_X1_68 mIM_yX1_rankOf mSE_yX1_rankOf mIN_RX1 mCO_yX1_rankOf
theorem lk_X1_72 : GoodIn wsL_law (wsV RX1 72 RX1 yX1_locoAt (wz yX1_locoAt cX1_locoAt 2 (some (.object "LocoFrames$Loco")))) := gV mML_X1_72 mIM_yX1_locoAt mSE_yX1_locoAt mIN_RX1 mCO_yX1_locoAt
theorem lk_X1_79 : GoodIn wsL_law (wsV RX1 79 RX2 yX2_begin (wz yX2_begin cX2_begin 5 none)) := gV mML_X1_79 mIM_yX2_begin mSE_yX2_begin mIN_RX2 mCO_yX2_begin
theorem lk_X1_87 : GoodIn wsL_law (wsV RX1 87 RX2 yX2_blockNumber (wz yX2_blockNumber cX2_blockNumber 1 (some .int))) := gV mML_X1_87 mIM_yX2_blockNumber mSE_yX2_blockNumber mIN_RX2 mCO_yX2_blockNumber
theorem lk_X1_91 : GoodIn wsL_law (wsV RX1 91 RX1 yX1_isShorted (wz yX1_isShorted cX1_isShorted 2 (some .boolean))) := gV mML_X1_91 mIM_yX1_isShorted mSE_yX1_isShorted mIN_RX1 mCO_yX1_isShorted
theorem lk_X1_94 : GoodIn wsL_law (wsV RX1 94 RX2 yX2_hear (wz yX2_hear cX2_hear 3 none)) := gV mML_X1_94 mIM_yX2_hear mSE_yX2_hear mIN_RX2 mCO_yX2_hear
theorem lk_X1_99 : GoodIn wsL_law (wsV RX1 99 RX1 yX1_tick (wz yX1_tick cX1_tick 4 (some .int))) := gV mML_X1_99 mIM_yX1_tick mSE_yX1_tick mIN_RX1 mCO_yX1_tick
theorem lk_X2_49 : GoodIn wsL_law (wsV RX2 49 RX2 yX2_mostGain (wz yX2_mostGain cX2_mostGain 1 (some .int))) := gV mML_X2_49 mIM_yX2_mostGain mSE_yX2_mostGain mIN_RX2 mCO_yX2_mostGain
theorem lk_X2_53 : GoodIn wsL_law (wsV RX2 53 RX2 yX2_goal (wz yX2_goal cX2_goal 2 (some .int))) := gV mML_X2_53 mIM_yX2_goal mSE_yX2_goal mIN_RX2 mCO_yX2_goal
theorem lk_X2_68 : GoodIn wsL_law (va_wsS RX2 68 yJ9_floorDiv_7cf53 (wz yJ9_floorDiv_7cf53 cJ9_floorDiv_7cf53 3 (some .int))) := gS mML_X2_68 mST_yJ9_floorDiv_7cf53 mIN_RJ9 mCO_yJ9_floorDiv_7cf53
theorem lk_X2_71 : GoodIn wsL_law (va_wsS RX2 71 yJ9_floorMod_7cf53 (wz yJ9_floorMod_7cf53 cJ9_floorMod_7cf53 3 (some .int))) := gS mML_X2_71 mST_yJ9_floorMod_7cf53 mIN_RJ9 mCO_yJ9_floorMod_7cf53
theorem lk_X2_74 : GoodIn wsL_law (wsV RX2 74 RX2 yX2_blockNumber (wz yX2_blockNumber cX2_blockNumber 1 (some .int))) := gV mML_X2_74 mIM_yX2_blockNumber mSE_yX2_blockNumber mIN_RX2 mCO_yX2_blockNumber
theorem lk_X4_35 : GoodIn wsL_law (wsV RX4 35 RX4 yX4_setRow (wz yX4_setRow cX4_setRow 5 none)) := gV mML_X4_35 mIM_yX4_setRow mSE_yX4_setRow mIN_RX4 mCO_yX4_setRow
theorem lk_X5_105 : GoodIn wsL_law (wsV RX5 105 RX1 yX1_locosIn (wz yX1_locosIn cX1_locosIn 4 (some .int))) := gV mML_X5_105 mIM_yX1_locosIn mSE_yX1_locosIn mIN_RX1 mCO_yX1_locosIn
theorem lk_X5_129 : GoodIn wsL_law (wsV RX5 129 RX1 yX1_blocksWithShort (wz yX1_blocksWithShort cX1_blocksWithShort 3 (some .int))) := gV mML_X5_129 mIM_yX1_blocksWithShort mSE_yX1_blocksWithShort mIN_RX1 mCO_yX1_blocksWithShort
theorem lk_X5_133 : GoodIn wsL_law (wsV RX5 133 RX1 yX1_crowdedBlocks (wz yX1_crowdedBlocks cX1_crowdedBlocks 3 (some .int))) := gV mML_X5_133 mIM_yX1_crowdedBlocks mSE_yX1_crowdedBlocks mIN_RX1 mCO_yX1_crowdedBlocks
theorem lk_X5_136 : GoodIn wsL_law (wsV RX5 136 RX1 yX1_speedSum (wz yX1_speedSum cX1_speedSum 3 (some .int))) := gV mML_X5_136 mIM_yX1_speedSum mSE_yX1_speedSum mIN_RX1 mCO_yX1_speedSum
theorem lk_X5_143 : GoodIn wsL_law (wsV RX5 143 RX1 yX1_copyFrom (wz yX1_copyFrom cX1_copyFrom 3 none)) := gV mML_X5_143 mIM_yX1_copyFrom mSE_yX1_copyFrom mIN_RX1 mCO_yX1_copyFrom
theorem lk_X5_146 : GoodIn wsL_law (wsV RX5 146 RX2 yX2_blockNumber (wz yX2_blockNumber cX2_blockNumber 1 (some .int))) := gV mML_X5_146 mIM_yX2_blockNumber mSE_yX2_blockNumber mIN_RX2 mCO_yX2_blockNumber
theorem lk_X5_149 : GoodIn wsL_law (wsV RX5 149 RX1 yX1_tick (wz yX1_tick cX1_tick 4 (some .int))) := gV mML_X5_149 mIM_yX1_tick mSE_yX1_tick mIN_RX1 mCO_yX1_tick
theorem lk_X5_152 : GoodIn wsL_law (wsV RX5 152 RX2 yX2_ticksToGoal (wz yX2_ticksToGoal cX2_ticksToGoal 3 (some .int))) := gV mML_X5_152 mIM_yX2_ticksToGoal mSE_yX2_ticksToGoal mIN_RX2 mCO_yX2_ticksToGoal
theorem lk_X5_155 : GoodIn wsL_law (va_wsS RX5 155 yX5_within (wz yX5_within cX5_within 3 (some .boolean))) := gS mML_X5_155 mST_yX5_within mIN_RX5 mCO_yX5_within
theorem lk_X5_188 : GoodIn wsL_law (wsV RX5 188 RX0 yX0_takeBack (wz yX0_takeBack cX0_takeBack 2 (some .int))) := gV mML_X5_188 mIM_yX0_takeBack mSE_yX0_takeBack mIN_RX0 mCO_yX0_takeBack
theorem lk_X5_41 : GoodIn wsL_law (wsV RX5 41 RX0 yX0_draft (wz yX0_draft cX0_draft 2 none)) := gV mML_X5_41 mIM_yX0_draft mSE_yX0_draft mIN_RX0 mCO_yX0_draft
theorem lk_X5_45 : GoodIn wsL_law (wsV RX5 45 RX1 yX1_addLoco (wz yX1_addLoco cX1_addLoco 7 (some .int))) := gV mML_X5_45 mIM_yX1_addLoco mSE_yX1_addLoco mIN_RX1 mCO_yX1_addLoco
theorem lk_X5_49 : GoodIn wsL_law (wsV RX5 49 RX0 yX0_kept (wz yX0_kept cX0_kept 2 (some .int))) := gV mML_X5_49 mIM_yX0_kept mSE_yX0_kept mIN_RX0 mCO_yX0_kept
theorem lk_X5_53 : GoodIn wsL_law (wsV RX5 53 RX1 yX1_removeLoco (wz yX1_removeLoco cX1_removeLoco 5 (some .int))) := gV mML_X5_53 mIM_yX1_removeLoco mSE_yX1_removeLoco mIN_RX1 mCO_yX1_removeLoco
theorem lk_X5_56 : GoodIn wsL_law (wsV RX5 56 RX1 yX1_changeNoise (wz yX1_changeNoise cX1_changeNoise 3 (some .int))) := gV mML_X5_56 mIM_yX1_changeNoise mSE_yX1_changeNoise mIN_RX1 mCO_yX1_changeNoise
theorem lk_X5_63 : GoodIn wsL_law (wsV RX5 63 RX4 yX4_take (wz yX4_take cX4_take 5 (some .int))) := gV mML_X5_63 mIM_yX4_take mSE_yX4_take mIN_RX4 mCO_yX4_take
theorem lk_X5_69 : GoodIn wsL_law (wsV RX5 69 RX1 yX1_takeFrame (wz yX1_takeFrame cX1_takeFrame 7 (some .int))) := gV mML_X5_69 mIM_yX1_takeFrame mSE_yX1_takeFrame mIN_RX1 mCO_yX1_takeFrame
theorem lk_X5_72 : GoodIn wsL_law (wsV RX5 72 RX1 yX1_changeShort (wz yX1_changeShort cX1_changeShort 4 (some .int))) := gV mML_X5_72 mIM_yX1_changeShort mSE_yX1_changeShort mIN_RX1 mCO_yX1_changeShort
theorem lk_X5_76 : GoodIn wsL_law (wsV RX5 76 RX1 yX1_takeTicks (wz yX1_takeTicks cX1_takeTicks 4 (some .int))) := gV mML_X5_76 mIM_yX1_takeTicks mSE_yX1_takeTicks mIN_RX1 mCO_yX1_takeTicks
theorem lk_X5_79 : GoodIn wsL_law (wsV RX5 79 RX1 yX1_locoWith (wz yX1_locoWith cX1_locoWith 2 (some (.object "LocoFrames$Loco")))) := gV mML_X5_79 mIM_yX1_locoWith mSE_yX1_locoWith mIN_RX1 mCO_yX1_locoWith
theorem lk_X5_83 : GoodIn wsL_law (wsV RX5 83 RX2 yX2_told (wz yX2_told cX2_told 2 (some .int))) := gV mML_X5_83 mIM_yX2_told mSE_yX2_told mIN_RX2 mCO_yX2_told
theorem lk_X5_88 : GoodIn wsL_law (wsV RX5 88 RX1 yX1_locoAt (wz yX1_locoAt cX1_locoAt 2 (some (.object "LocoFrames$Loco")))) := gV mML_X5_88 mIM_yX1_locoAt mSE_yX1_locoAt mIN_RX1 mCO_yX1_locoAt
theorem lk_X5_95 : GoodIn wsL_law (wsV RX5 95 RX4 yX4_told (wz yX4_told cX4_told 3 (some .int))) := gV mML_X5_95 mIM_yX4_told mSE_yX4_told mIN_RX4 mCO_yX4_told
theorem lk_X5_97 : GoodIn wsL_law (va_wsS RX5 97 yX5_isBlock (wz yX5_isBlock cX5_isBlock 1 (some .boolean))) := gS mML_X5_97 mST_yX5_isBlock mIN_RX5 mCO_yX5_isBlock
end
section
section FIELDS
variable {p : Program} {l : Launch} {e : Env} {R : Room} {s : State} {m : MethodId} {args : Array Value} {below : List Frame} {meth : Method} {c : Code} {G : Gm} {A : Nat → Prop} {nL ce sl : Nat} {Q : State → Prop} {I : Ii} {pm : Pm} {L : List (Nat × Value)} {pc : Nat} {st rest : List Value} {cc : ByteArray} {own : String} {index i j : Nat} {x z : Int32}
theorem gf_0_0 (F : FX p s m args c cc nL own G A) (hi : i < 11) (hw : Cond.fieldLink own index "LocoFrames$Layout" "locos" "[LLocoFrames$Loco;" ∈ wsL_law) (hd : decode cc pc = .ok (.getfield index, 3)) (kk : GG p l e R s m args below meth c G A nL ce sl Q I pm L (pc + 3) (.ref (G.2.2 1 i) :: rest)) : GG p l e R s m args below meth c G A nL ce sl Q I pm L pc (.ref (G.2.2 0 i) :: rest) := g_get F (C := RX1) (T := TX1) (N := 10) (ci := 1) inlX1 rfl hi rfl 0 (by decide) hw rfl hd kk
theorem gf_0_1 (F : FX p s m args c cc nL own G A) (hi : i < 11) (hw : Cond.fieldLink own index "LocoFrames$Layout" "station" "LLocoFrames$Station;" ∈ wsL_law) (hd : decode cc pc = .ok (.getfield index, 3)) (kk : GG p l e R s m args below meth c G A nL ce sl Q I pm L (pc + 3) (.ref (G.2.2 2 i) :: rest)) : GG p l e R s m args below meth c G A nL ce sl Q I pm L pc (.ref (G.2.2 0 i) :: rest) := g_get F (C := RX1) (T := TX1) (N := 10) (ci := 1) inlX1 rfl hi rfl 1 (by decide) hw rfl hd kk
theorem gf_0_2 (F : FX p s m args c cc nL own G A) (hi : i < 11) (hw : Cond.fieldLink own index "LocoFrames$Layout" "shortTicks" "[I" ∈ wsL_law) (hd : decode cc pc = .ok (.getfield index, 3)) (kk : GG p l e R s m args below meth c G A nL ce sl Q I pm L (pc + 3) (.ref (G.2.2 6 i) :: rest)) : GG p l e R s m args below meth c G A nL ce sl Q I pm L pc (.ref (G.2.2 0 i) :: rest) := g_get F (C := RX1) (T := TX1) (N := 10) (ci := 1) inlX1 rfl hi rfl 2 (by decide) hw rfl hd kk
theorem gf_0_3 (F : FX p s m args c cc nL own G A) (hi : i < 11) (hw : Cond.fieldLink own index "LocoFrames$Layout" "locoCount" "I" ∈ wsL_law) (hd : decode cc pc = .ok (.getfield index, 3)) (kk : GG p l e R s m args below meth c G A nL ce sl Q I pm L (pc + 3) (.int (I 0 i 3) :: rest)) : GG p l e R s m args below meth c G A nL ce sl Q I pm L pc (.ref (G.2.2 0 i) :: rest) := g_get F (C := RX1) (T := TX1) (N := 10) (ci := 1) inlX1 rfl hi rfl 3 (by decide) hw rfl hd kk
theorem gp_0_3 (F : FX p s m args c cc nL own G A) (hi : i < 11) (hw : Cond.fieldLink own index "LocoFrames$Layout" "locoCount" "I" ∈ wsL_law) (hd : decode cc pc = .ok (.putfield index, 3)) (kk : GG p l e R s m args below meth c G A nL ce sl Q (up3 I 0 i 3 x) pm L (pc + 3) rest) : GG p l e R s m args below meth c G A nL ce sl Q I pm L pc (.int x :: .ref (G.2.2 0 i) :: rest) := g_put F (C := RX1) (T := TX1) (N := 10) (ci := 1) (ty := .int) inlX1 tyX1 tyX1_ok nmX1 rfl hi rfl 3 (by decide) hw rfl (by decide +kernel) rfl rfl (Nat.le_of_ble_eq_true rfl) (by simp [cvv, up3]) hd kk
theorem gf_0_4 (F : FX p s m args c cc nL own G A) (hi : i < 11) (hw : Cond.fieldLink own index "LocoFrames$Layout" "ticks" "I" ∈ wsL_law) (hd : decode cc pc = .ok (.getfield index, 3)) (kk : GG p l e R s m args below meth c G A nL ce sl Q I pm L (pc + 3) (.int (I 0 i 4) :: rest)) : GG p l e R s m args below meth c G A nL ce sl Q I pm L pc (.ref (G.2.2 0 i) :: rest) := g_get F (C := RX1) (T := TX1) (N := 10) (ci := 1) inlX1 rfl hi rfl 4 (by decide) hw rfl hd kk
theorem gp_0_4 (F : FX p s m args c cc nL own G A) (hi : i < 11) (hw : Cond.fieldLink own index "LocoFrames$Layout" "ticks" "I" ∈ wsL_law) (hd : decode cc pc = .ok (.putfield index, 3)) (kk : GG p l e R s m args below meth c G A nL ce sl Q (up3 I 0 i 4 x) pm L (pc + 3) rest) : GG p l e R s m args below meth c G A nL ce sl Q I pm L pc (.int x :: .ref (G.2.2 0 i) :: rest) := g_put F (C := RX1) (T := TX1) (N := 10) (ci := 1) (ty := .int) inlX1 tyX1 tyX1_ok nmX1 rfl hi rfl 4 (by decide) hw rfl (by decide +kernel) rfl rfl (Nat.le_of_ble_eq_true rfl) (by simp [cvv, up3]) hd kk
theorem gf_0_5 (F : FX p s m args c cc nL own G A) (hi : i < 11) (hw : Cond.fieldLink own index "LocoFrames$Layout" "noiseTicks" "I" ∈ wsL_law) (hd : decode cc pc = .ok (.getfield index, 3)) (kk : GG p l e R s m args below meth c G A nL ce sl Q I pm L (pc + 3) (.int (I 0 i 5) :: rest)) : GG p l e R s m args below meth c G A nL ce sl Q I pm L pc (.ref (G.2.2 0 i) :: rest) := g_get F (C := RX1) (T := TX1) (N := 10) (ci := 1) inlX1 rfl hi rfl 5 (by decide) hw rfl hd kk
theorem gp_0_5 (F : FX p s m args c cc nL own G A) (hi : i < 11) (hw : Cond.fieldLink own index "LocoFrames$Layout" "noiseTicks" "I" ∈ wsL_law) (hd : decode cc pc = .ok (.putfield index, 3)) (kk : GG p l e R s m args below meth c G A nL ce sl Q (up3 I 0 i 5 x) pm L (pc + 3) rest) : GG p l e R s m args below meth c G A nL ce sl Q I pm L pc (.int x :: .ref (G.2.2 0 i) :: rest) := g_put F (C := RX1) (T := TX1) (N := 10) (ci := 1) (ty := .int) inlX1 tyX1 tyX1_ok nmX1 rfl hi rfl 5 (by decide) hw rfl (by decide +kernel) rfl rfl (Nat.le_of_ble_eq_true rfl) (by simp [cvv, up3]) hd kk
theorem gf_0_6 (F : FX p s m args c cc nL own G A) (hi : i < 11) (hw : Cond.fieldLink own index "LocoFrames$Layout" "spoiledAt" "I" ∈ wsL_law) (hd : decode cc pc = .ok (.getfield index, 3)) (kk : GG p l e R s m args below meth c G A nL ce sl Q I pm L (pc + 3) (.int (I 0 i 6) :: rest)) : GG p l e R s m args below meth c G A nL ce sl Q I pm L pc (.ref (G.2.2 0 i) :: rest) := g_get F (C := RX1) (T := TX1) (N := 10) (ci := 1) inlX1 rfl hi rfl 6 (by decide) hw rfl hd kk
theorem gp_0_6 (F : FX p s m args c cc nL own G A) (hi : i < 11) (hw : Cond.fieldLink own index "LocoFrames$Layout" "spoiledAt" "I" ∈ wsL_law) (hd : decode cc pc = .ok (.putfield index, 3)) (kk : GG p l e R s m args below meth c G A nL ce sl Q (up3 I 0 i 6 x) pm L (pc + 3) rest) : GG p l e R s m args below meth c G A nL ce sl Q I pm L pc (.int x :: .ref (G.2.2 0 i) :: rest) := g_put F (C := RX1) (T := TX1) (N := 10) (ci := 1) (ty := .int) inlX1 tyX1 tyX1_ok nmX1 rfl hi rfl 6 (by decide) hw rfl (by decide +kernel) rfl rfl (Nat.le_of_ble_eq_true rfl) (by simp [cvv, up3]) hd kk
theorem gf_0_7 (F : FX p s m args c cc nL own G A) (hi : i < 11) (hw : Cond.fieldLink own index "LocoFrames$Layout" "frames" "I" ∈ wsL_law) (hd : decode cc pc = .ok (.getfield index, 3)) (kk : GG p l e R s m args below meth c G A nL ce sl Q I pm L (pc + 3) (.int (I 0 i 7) :: rest)) : GG p l e R s m args below meth c G A nL ce sl Q I pm L pc (.ref (G.2.2 0 i) :: rest) := g_get F (C := RX1) (T := TX1) (N := 10) (ci := 1) inlX1 rfl hi rfl 7 (by decide) hw rfl hd kk
theorem gp_0_7 (F : FX p s m args c cc nL own G A) (hi : i < 11) (hw : Cond.fieldLink own index "LocoFrames$Layout" "frames" "I" ∈ wsL_law) (hd : decode cc pc = .ok (.putfield index, 3)) (kk : GG p l e R s m args below meth c G A nL ce sl Q (up3 I 0 i 7 x) pm L (pc + 3) rest) : GG p l e R s m args below meth c G A nL ce sl Q I pm L pc (.int x :: .ref (G.2.2 0 i) :: rest) := g_put F (C := RX1) (T := TX1) (N := 10) (ci := 1) (ty := .int) inlX1 tyX1 tyX1_ok nmX1 rfl hi rfl 7 (by decide) hw rfl (by decide +kernel) rfl rfl (Nat.le_of_ble_eq_true rfl) (by simp [cvv, up3]) hd kk
theorem gf_0_8 (F : FX p s m args c cc nL own G A) (hi : i < 11) (hw : Cond.fieldLink own index "LocoFrames$Layout" "broken" "I" ∈ wsL_law) (hd : decode cc pc = .ok (.getfield index, 3)) (kk : GG p l e R s m args below meth c G A nL ce sl Q I pm L (pc + 3) (.int (I 0 i 8) :: rest)) : GG p l e R s m args below meth c G A nL ce sl Q I pm L pc (.ref (G.2.2 0 i) :: rest) := g_get F (C := RX1) (T := TX1) (N := 10) (ci := 1) inlX1 rfl hi rfl 8 (by decide) hw rfl hd kk
theorem gp_0_8 (F : FX p s m args c cc nL own G A) (hi : i < 11) (hw : Cond.fieldLink own index "LocoFrames$Layout" "broken" "I" ∈ wsL_law) (hd : decode cc pc = .ok (.putfield index, 3)) (kk : GG p l e R s m args below meth c G A nL ce sl Q (up3 I 0 i 8 x) pm L (pc + 3) rest) : GG p l e R s m args below meth c G A nL ce sl Q I pm L pc (.int x :: .ref (G.2.2 0 i) :: rest) := g_put F (C := RX1) (T := TX1) (N := 10) (ci := 1) (ty := .int) inlX1 tyX1 tyX1_ok nmX1 rfl hi rfl 8 (by decide) hw rfl (by decide +kernel) rfl rfl (Nat.le_of_ble_eq_true rfl) (by simp [cvv, up3]) hd kk
theorem gf_0_9 (F : FX p s m args c cc nL own G A) (hi : i < 11) (hw : Cond.fieldLink own index "LocoFrames$Layout" "spoiled" "I" ∈ wsL_law) (hd : decode cc pc = .ok (.getfield index, 3)) (kk : GG p l e R s m args below meth c G A nL ce sl Q I pm L (pc + 3) (.int (I 0 i 9) :: rest)) : GG p l e R s m args below meth c G A nL ce sl Q I pm L pc (.ref (G.2.2 0 i) :: rest) := g_get F (C := RX1) (T := TX1) (N := 10) (ci := 1) inlX1 rfl hi rfl 9 (by decide) hw rfl hd kk
theorem gp_0_9 (F : FX p s m args c cc nL own G A) (hi : i < 11) (hw : Cond.fieldLink own index "LocoFrames$Layout" "spoiled" "I" ∈ wsL_law) (hd : decode cc pc = .ok (.putfield index, 3)) (kk : GG p l e R s m args below meth c G A nL ce sl Q (up3 I 0 i 9 x) pm L (pc + 3) rest) : GG p l e R s m args below meth c G A nL ce sl Q I pm L pc (.int x :: .ref (G.2.2 0 i) :: rest) := g_put F (C := RX1) (T := TX1) (N := 10) (ci := 1) (ty := .int) inlX1 tyX1 tyX1_ok nmX1 rfl hi rfl 9 (by decide) hw rfl (by decide +kernel) rfl rfl (Nat.le_of_ble_eq_true rfl) (by simp [cvv, up3]) hd kk
theorem gf_2_0 (F : FX p s m args c cc nL own G A) (hi : i < 11) (hw : Cond.fieldLink own index "LocoFrames$Station" "addresses" "[I" ∈ wsL_law) (hd : decode cc pc = .ok (.getfield index, 3)) (kk : GG p l e R s m args below meth c G A nL ce sl Q I pm L (pc + 3) (.ref (G.2.2 3 i) :: rest)) : GG p l e R s m args below meth c G A nL ce sl Q I pm L pc (.ref (G.2.2 2 i) :: rest) := g_get F (C := RX4) (T := TX4) (N := 4) (ci := 4) inlX4 rfl hi rfl 0 (by decide) hw rfl hd kk
theorem gf_2_1 (F : FX p s m args c cc nL own G A) (hi : i < 11) (hw : Cond.fieldLink own index "LocoFrames$Station" "data" "[I" ∈ wsL_law) (hd : decode cc pc = .ok (.getfield index, 3)) (kk : GG p l e R s m args below meth c G A nL ce sl Q I pm L (pc + 3) (.ref (G.2.2 4 i) :: rest)) : GG p l e R s m args below meth c G A nL ce sl Q I pm L pc (.ref (G.2.2 2 i) :: rest) := g_get F (C := RX4) (T := TX4) (N := 4) (ci := 4) inlX4 rfl hi rfl 1 (by decide) hw rfl hd kk
theorem gf_2_2 (F : FX p s m args c cc nL own G A) (hi : i < 11) (hw : Cond.fieldLink own index "LocoFrames$Station" "urgencies" "[I" ∈ wsL_law) (hd : decode cc pc = .ok (.getfield index, 3)) (kk : GG p l e R s m args below meth c G A nL ce sl Q I pm L (pc + 3) (.ref (G.2.2 5 i) :: rest)) : GG p l e R s m args below meth c G A nL ce sl Q I pm L pc (.ref (G.2.2 2 i) :: rest) := g_get F (C := RX4) (T := TX4) (N := 4) (ci := 4) inlX4 rfl hi rfl 2 (by decide) hw rfl hd kk
theorem gf_2_3 (F : FX p s m args c cc nL own G A) (hi : i < 11) (hw : Cond.fieldLink own index "LocoFrames$Station" "held" "I" ∈ wsL_law) (hd : decode cc pc = .ok (.getfield index, 3)) (kk : GG p l e R s m args below meth c G A nL ce sl Q I pm L (pc + 3) (.int (I 2 i 3) :: rest)) : GG p l e R s m args below meth c G A nL ce sl Q I pm L pc (.ref (G.2.2 2 i) :: rest) := g_get F (C := RX4) (T := TX4) (N := 4) (ci := 4) inlX4 rfl hi rfl 3 (by decide) hw rfl hd kk
theorem gp_2_3 (F : FX p s m args c cc nL own G A) (hi : i < 11) (hw : Cond.fieldLink own index "LocoFrames$Station" "held" "I" ∈ wsL_law) (hd : decode cc pc = .ok (.putfield index, 3)) (kk : GG p l e R s m args below meth c G A nL ce sl Q (up3 I 2 i 3 x) pm L (pc + 3) rest) : GG p l e R s m args below meth c G A nL ce sl Q I pm L pc (.int x :: .ref (G.2.2 2 i) :: rest) := g_put F (C := RX4) (T := TX4) (N := 4) (ci := 4) (ty := .int) inlX4 tyX4 tyX4_ok nmX4 rfl hi rfl 3 (by decide) hw rfl (by decide +kernel) rfl rfl (Nat.le_of_ble_eq_true rfl) (by simp [cvv, up3]) hd kk
theorem gf_7_0 (F : FX p s m args c cc nL own G A) (hi : i < 88) (hw : Cond.fieldLink own index "LocoFrames$Loco" "address" "I" ∈ wsL_law) (hd : decode cc pc = .ok (.getfield index, 3)) (kk : GG p l e R s m args below meth c G A nL ce sl Q I pm L (pc + 3) (.int (I 7 i 0) :: rest)) : GG p l e R s m args below meth c G A nL ce sl Q I pm L pc (.ref (G.2.2 7 i) :: rest) := g_get F (C := RX2) (T := TX2) (N := 11) (ci := 2) inlX2 rfl hi rfl 0 (by decide) hw rfl hd kk
theorem gp_7_0 (F : FX p s m args c cc nL own G A) (hi : i < 88) (hw : Cond.fieldLink own index "LocoFrames$Loco" "address" "I" ∈ wsL_law) (hd : decode cc pc = .ok (.putfield index, 3)) (kk : GG p l e R s m args below meth c G A nL ce sl Q (up3 I 7 i 0 x) pm L (pc + 3) rest) : GG p l e R s m args below meth c G A nL ce sl Q I pm L pc (.int x :: .ref (G.2.2 7 i) :: rest) := g_put F (C := RX2) (T := TX2) (N := 11) (ci := 2) (ty := .int) inlX2 tyX2 tyX2_ok nmX2 rfl hi rfl 0 (by decide) hw rfl (by decide +kernel) rfl rfl (Nat.le_of_ble_eq_true rfl) (by simp [cvv, up3]) hd kk
theorem gf_7_1 (F : FX p s m args c cc nL own G A) (hi : i < 88) (hw : Cond.fieldLink own index "LocoFrames$Loco" "mass" "I" ∈ wsL_law) (hd : decode cc pc = .ok (.getfield index, 3)) (kk : GG p l e R s m args below meth c G A nL ce sl Q I pm L (pc + 3) (.int (I 7 i 1) :: rest)) : GG p l e R s m args below meth c G A nL ce sl Q I pm L pc (.ref (G.2.2 7 i) :: rest) := g_get F (C := RX2) (T := TX2) (N := 11) (ci := 2) inlX2 rfl hi rfl 1 (by decide) hw rfl hd kk
theorem gp_7_1 (F : FX p s m args c cc nL own G A) (hi : i < 88) (hw : Cond.fieldLink own index "LocoFrames$Loco" "mass" "I" ∈ wsL_law) (hd : decode cc pc = .ok (.putfield index, 3)) (kk : GG p l e R s m args below meth c G A nL ce sl Q (up3 I 7 i 1 x) pm L (pc + 3) rest) : GG p l e R s m args below meth c G A nL ce sl Q I pm L pc (.int x :: .ref (G.2.2 7 i) :: rest) := g_put F (C := RX2) (T := TX2) (N := 11) (ci := 2) (ty := .int) inlX2 tyX2 tyX2_ok nmX2 rfl hi rfl 1 (by decide) hw rfl (by decide +kernel) rfl rfl (Nat.le_of_ble_eq_true rfl) (by simp [cvv, up3]) hd kk
theorem gf_7_2 (F : FX p s m args c cc nL own G A) (hi : i < 88) (hw : Cond.fieldLink own index "LocoFrames$Loco" "curve" "I" ∈ wsL_law) (hd : decode cc pc = .ok (.getfield index, 3)) (kk : GG p l e R s m args below meth c G A nL ce sl Q I pm L (pc + 3) (.int (I 7 i 2) :: rest)) : GG p l e R s m args below meth c G A nL ce sl Q I pm L pc (.ref (G.2.2 7 i) :: rest) := g_get F (C := RX2) (T := TX2) (N := 11) (ci := 2) inlX2 rfl hi rfl 2 (by decide) hw rfl hd kk
theorem gp_7_2 (F : FX p s m args c cc nL own G A) (hi : i < 88) (hw : Cond.fieldLink own index "LocoFrames$Loco" "curve" "I" ∈ wsL_law) (hd : decode cc pc = .ok (.putfield index, 3)) (kk : GG p l e R s m args below meth c G A nL ce sl Q (up3 I 7 i 2 x) pm L (pc + 3) rest) : GG p l e R s m args below meth c G A nL ce sl Q I pm L pc (.int x :: .ref (G.2.2 7 i) :: rest) := g_put F (C := RX2) (T := TX2) (N := 11) (ci := 2) (ty := .int) inlX2 tyX2 tyX2_ok nmX2 rfl hi rfl 2 (by decide) hw rfl (by decide +kernel) rfl rfl (Nat.le_of_ble_eq_true rfl) (by simp [cvv, up3]) hd kk
theorem gf_7_3 (F : FX p s m args c cc nL own G A) (hi : i < 88) (hw : Cond.fieldLink own index "LocoFrames$Loco" "place" "I" ∈ wsL_law) (hd : decode cc pc = .ok (.getfield index, 3)) (kk : GG p l e R s m args below meth c G A nL ce sl Q I pm L (pc + 3) (.int (I 7 i 3) :: rest)) : GG p l e R s m args below meth c G A nL ce sl Q I pm L pc (.ref (G.2.2 7 i) :: rest) := g_get F (C := RX2) (T := TX2) (N := 11) (ci := 2) inlX2 rfl hi rfl 3 (by decide) hw rfl hd kk
theorem gp_7_3 (F : FX p s m args c cc nL own G A) (hi : i < 88) (hw : Cond.fieldLink own index "LocoFrames$Loco" "place" "I" ∈ wsL_law) (hd : decode cc pc = .ok (.putfield index, 3)) (kk : GG p l e R s m args below meth c G A nL ce sl Q (up3 I 7 i 3 x) pm L (pc + 3) rest) : GG p l e R s m args below meth c G A nL ce sl Q I pm L pc (.int x :: .ref (G.2.2 7 i) :: rest) := g_put F (C := RX2) (T := TX2) (N := 11) (ci := 2) (ty := .int) inlX2 tyX2 tyX2_ok nmX2 rfl hi rfl 3 (by decide) hw rfl (by decide +kernel) rfl rfl (Nat.le_of_ble_eq_true rfl) (by simp [cvv, up3]) hd kk
theorem gf_7_4 (F : FX p s m args c cc nL own G A) (hi : i < 88) (hw : Cond.fieldLink own index "LocoFrames$Loco" "tenths" "I" ∈ wsL_law) (hd : decode cc pc = .ok (.getfield index, 3)) (kk : GG p l e R s m args below meth c G A nL ce sl Q I pm L (pc + 3) (.int (I 7 i 4) :: rest)) : GG p l e R s m args below meth c G A nL ce sl Q I pm L pc (.ref (G.2.2 7 i) :: rest) := g_get F (C := RX2) (T := TX2) (N := 11) (ci := 2) inlX2 rfl hi rfl 4 (by decide) hw rfl hd kk
theorem gp_7_4 (F : FX p s m args c cc nL own G A) (hi : i < 88) (hw : Cond.fieldLink own index "LocoFrames$Loco" "tenths" "I" ∈ wsL_law) (hd : decode cc pc = .ok (.putfield index, 3)) (kk : GG p l e R s m args below meth c G A nL ce sl Q (up3 I 7 i 4 x) pm L (pc + 3) rest) : GG p l e R s m args below meth c G A nL ce sl Q I pm L pc (.int x :: .ref (G.2.2 7 i) :: rest) := g_put F (C := RX2) (T := TX2) (N := 11) (ci := 2) (ty := .int) inlX2 tyX2 tyX2_ok nmX2 rfl hi rfl 4 (by decide) hw rfl (by decide +kernel) rfl rfl (Nat.le_of_ble_eq_true rfl) (by simp [cvv, up3]) hd kk
theorem gf_7_5 (F : FX p s m args c cc nL own G A) (hi : i < 88) (hw : Cond.fieldLink own index "LocoFrames$Loco" "speed" "I" ∈ wsL_law) (hd : decode cc pc = .ok (.getfield index, 3)) (kk : GG p l e R s m args below meth c G A nL ce sl Q I pm L (pc + 3) (.int (I 7 i 5) :: rest)) : GG p l e R s m args below meth c G A nL ce sl Q I pm L pc (.ref (G.2.2 7 i) :: rest) := g_get F (C := RX2) (T := TX2) (N := 11) (ci := 2) inlX2 rfl hi rfl 5 (by decide) hw rfl hd kk
theorem gp_7_5 (F : FX p s m args c cc nL own G A) (hi : i < 88) (hw : Cond.fieldLink own index "LocoFrames$Loco" "speed" "I" ∈ wsL_law) (hd : decode cc pc = .ok (.putfield index, 3)) (kk : GG p l e R s m args below meth c G A nL ce sl Q (up3 I 7 i 5 x) pm L (pc + 3) rest) : GG p l e R s m args below meth c G A nL ce sl Q I pm L pc (.int x :: .ref (G.2.2 7 i) :: rest) := g_put F (C := RX2) (T := TX2) (N := 11) (ci := 2) (ty := .int) inlX2 tyX2 tyX2_ok nmX2 rfl hi rfl 5 (by decide) hw rfl (by decide +kernel) rfl rfl (Nat.le_of_ble_eq_true rfl) (by simp [cvv, up3]) hd kk
theorem gf_7_6 (F : FX p s m args c cc nL own G A) (hi : i < 88) (hw : Cond.fieldLink own index "LocoFrames$Loco" "rounds" "I" ∈ wsL_law) (hd : decode cc pc = .ok (.getfield index, 3)) (kk : GG p l e R s m args below meth c G A nL ce sl Q I pm L (pc + 3) (.int (I 7 i 6) :: rest)) : GG p l e R s m args below meth c G A nL ce sl Q I pm L pc (.ref (G.2.2 7 i) :: rest) := g_get F (C := RX2) (T := TX2) (N := 11) (ci := 2) inlX2 rfl hi rfl 6 (by decide) hw rfl hd kk
theorem gp_7_6 (F : FX p s m args c cc nL own G A) (hi : i < 88) (hw : Cond.fieldLink own index "LocoFrames$Loco" "rounds" "I" ∈ wsL_law) (hd : decode cc pc = .ok (.putfield index, 3)) (kk : GG p l e R s m args below meth c G A nL ce sl Q (up3 I 7 i 6 x) pm L (pc + 3) rest) : GG p l e R s m args below meth c G A nL ce sl Q I pm L pc (.int x :: .ref (G.2.2 7 i) :: rest) := g_put F (C := RX2) (T := TX2) (N := 11) (ci := 2) (ty := .int) inlX2 tyX2 tyX2_ok nmX2 rfl hi rfl 6 (by decide) hw rfl (by decide +kernel) rfl rfl (Nat.le_of_ble_eq_true rfl) (by simp [cvv, up3]) hd kk
theorem gf_7_7 (F : FX p s m args c cc nL own G A) (hi : i < 88) (hw : Cond.fieldLink own index "LocoFrames$Loco" "step" "I" ∈ wsL_law) (hd : decode cc pc = .ok (.getfield index, 3)) (kk : GG p l e R s m args below meth c G A nL ce sl Q I pm L (pc + 3) (.int (I 7 i 7) :: rest)) : GG p l e R s m args below meth c G A nL ce sl Q I pm L pc (.ref (G.2.2 7 i) :: rest) := g_get F (C := RX2) (T := TX2) (N := 11) (ci := 2) inlX2 rfl hi rfl 7 (by decide) hw rfl hd kk
theorem gp_7_7 (F : FX p s m args c cc nL own G A) (hi : i < 88) (hw : Cond.fieldLink own index "LocoFrames$Loco" "step" "I" ∈ wsL_law) (hd : decode cc pc = .ok (.putfield index, 3)) (kk : GG p l e R s m args below meth c G A nL ce sl Q (up3 I 7 i 7 x) pm L (pc + 3) rest) : GG p l e R s m args below meth c G A nL ce sl Q I pm L pc (.int x :: .ref (G.2.2 7 i) :: rest) := g_put F (C := RX2) (T := TX2) (N := 11) (ci := 2) (ty := .int) inlX2 tyX2 tyX2_ok nmX2 rfl hi rfl 7 (by decide) hw rfl (by decide +kernel) rfl rfl (Nat.le_of_ble_eq_true rfl) (by simp [cvv, up3]) hd kk
theorem gf_7_8 (F : FX p s m args c cc nL own G A) (hi : i < 88) (hw : Cond.fieldLink own index "LocoFrames$Loco" "way" "I" ∈ wsL_law) (hd : decode cc pc = .ok (.getfield index, 3)) (kk : GG p l e R s m args below meth c G A nL ce sl Q I pm L (pc + 3) (.int (I 7 i 8) :: rest)) : GG p l e R s m args below meth c G A nL ce sl Q I pm L pc (.ref (G.2.2 7 i) :: rest) := g_get F (C := RX2) (T := TX2) (N := 11) (ci := 2) inlX2 rfl hi rfl 8 (by decide) hw rfl hd kk
theorem gp_7_8 (F : FX p s m args c cc nL own G A) (hi : i < 88) (hw : Cond.fieldLink own index "LocoFrames$Loco" "way" "I" ∈ wsL_law) (hd : decode cc pc = .ok (.putfield index, 3)) (kk : GG p l e R s m args below meth c G A nL ce sl Q (up3 I 7 i 8 x) pm L (pc + 3) rest) : GG p l e R s m args below meth c G A nL ce sl Q I pm L pc (.int x :: .ref (G.2.2 7 i) :: rest) := g_put F (C := RX2) (T := TX2) (N := 11) (ci := 2) (ty := .int) inlX2 tyX2 tyX2_ok nmX2 rfl hi rfl 8 (by decide) hw rfl (by decide +kernel) rfl rfl (Nat.le_of_ble_eq_true rfl) (by simp [cvv, up3]) hd kk
theorem gf_7_9 (F : FX p s m args c cc nL own G A) (hi : i < 88) (hw : Cond.fieldLink own index "LocoFrames$Loco" "lights" "I" ∈ wsL_law) (hd : decode cc pc = .ok (.getfield index, 3)) (kk : GG p l e R s m args below meth c G A nL ce sl Q I pm L (pc + 3) (.int (I 7 i 9) :: rest)) : GG p l e R s m args below meth c G A nL ce sl Q I pm L pc (.ref (G.2.2 7 i) :: rest) := g_get F (C := RX2) (T := TX2) (N := 11) (ci := 2) inlX2 rfl hi rfl 9 (by decide) hw rfl hd kk
theorem gp_7_9 (F : FX p s m args c cc nL own G A) (hi : i < 88) (hw : Cond.fieldLink own index "LocoFrames$Loco" "lights" "I" ∈ wsL_law) (hd : decode cc pc = .ok (.putfield index, 3)) (kk : GG p l e R s m args below meth c G A nL ce sl Q (up3 I 7 i 9 x) pm L (pc + 3) rest) : GG p l e R s m args below meth c G A nL ce sl Q I pm L pc (.int x :: .ref (G.2.2 7 i) :: rest) := g_put F (C := RX2) (T := TX2) (N := 11) (ci := 2) (ty := .int) inlX2 tyX2 tyX2_ok nmX2 rfl hi rfl 9 (by decide) hw rfl (by decide +kernel) rfl rfl (Nat.le_of_ble_eq_true rfl) (by simp [cvv, up3]) hd kk
theorem gf_7_10 (F : FX p s m args c cc nL own G A) (hi : i < 88) (hw : Cond.fieldLink own index "LocoFrames$Loco" "heard" "I" ∈ wsL_law) (hd : decode cc pc = .ok (.getfield index, 3)) (kk : GG p l e R s m args below meth c G A nL ce sl Q I pm L (pc + 3) (.int (I 7 i 10) :: rest)) : GG p l e R s m args below meth c G A nL ce sl Q I pm L pc (.ref (G.2.2 7 i) :: rest) := g_get F (C := RX2) (T := TX2) (N := 11) (ci := 2) inlX2 rfl hi rfl 10 (by decide) hw rfl hd kk
theorem gp_7_10 (F : FX p s m args c cc nL own G A) (hi : i < 88) (hw : Cond.fieldLink own index "LocoFrames$Loco" "heard" "I" ∈ wsL_law) (hd : decode cc pc = .ok (.putfield index, 3)) (kk : GG p l e R s m args below meth c G A nL ce sl Q (up3 I 7 i 10 x) pm L (pc + 3) rest) : GG p l e R s m args below meth c G A nL ce sl Q I pm L pc (.int x :: .ref (G.2.2 7 i) :: rest) := g_put F (C := RX2) (T := TX2) (N := 11) (ci := 2) (ty := .int) inlX2 tyX2 tyX2_ok nmX2 rfl hi rfl 10 (by decide) hw rfl (by decide +kernel) rfl rfl (Nat.le_of_ble_eq_true rfl) (by simp [cvv, up3]) hd kk
theorem gf_8_0 (F : FX p s m args c cc nL own G A) (hi : i < 1) (hw : Cond.fieldLink own index "LocoFrames" "now" "LLocoFrames$Layout;" ∈ wsL_law) (hd : decode cc pc = .ok (.getfield index, 3)) (kk : GG p l e R s m args below meth c G A nL ce sl Q I pm L (pc + 3) (.ref (G.2.2 0 0) :: rest)) : GG p l e R s m args below meth c G A nL ce sl Q I pm L pc (.ref (G.2.2 8 i) :: rest) := g_get F (C := RX5) (T := TX5) (N := 6) (ci := 5) inlX5 rfl hi rfl 0 (by decide) hw rfl hd kk
theorem gf_8_1 (F : FX p s m args c cc nL own G A) (hi : i < 1) (hw : Cond.fieldLink own index "LocoFrames" "foreseen" "LLocoFrames$Layout;" ∈ wsL_law) (hd : decode cc pc = .ok (.getfield index, 3)) (kk : GG p l e R s m args below meth c G A nL ce sl Q I pm L (pc + 3) (.ref (G.2.2 0 1) :: rest)) : GG p l e R s m args below meth c G A nL ce sl Q I pm L pc (.ref (G.2.2 8 i) :: rest) := g_get F (C := RX5) (T := TX5) (N := 6) (ci := 5) inlX5 rfl hi rfl 1 (by decide) hw rfl hd kk
theorem gf_8_2 (F : FX p s m args c cc nL own G A) (hi : i < 1) (hw : Cond.fieldLink own index "LocoFrames" "history" "LLocoFrames$History;" ∈ wsL_law) (hd : decode cc pc = .ok (.getfield index, 3)) (kk : GG p l e R s m args below meth c G A nL ce sl Q I pm L (pc + 3) (.ref (G.2.2 9 0) :: rest)) : GG p l e R s m args below meth c G A nL ce sl Q I pm L pc (.ref (G.2.2 8 i) :: rest) := g_get F (C := RX5) (T := TX5) (N := 6) (ci := 5) inlX5 rfl hi rfl 2 (by decide) hw rfl hd kk
theorem gf_8_3 (F : FX p s m args c cc nL own G A) (hi : i < 1) (hw : Cond.fieldLink own index "LocoFrames" "slots" "[LLocoFrames$Layout;" ∈ wsL_law) (hd : decode cc pc = .ok (.getfield index, 3)) (kk : GG p l e R s m args below meth c G A nL ce sl Q I pm L (pc + 3) (.ref (G.2.2 11 0) :: rest)) : GG p l e R s m args below meth c G A nL ce sl Q I pm L pc (.ref (G.2.2 8 i) :: rest) := g_get F (C := RX5) (T := TX5) (N := 6) (ci := 5) inlX5 rfl hi rfl 3 (by decide) hw rfl hd kk
theorem gf_8_4 (F : FX p s m args c cc nL own G A) (hi : i < 1) (hw : Cond.fieldLink own index "LocoFrames" "saved" "[Z" ∈ wsL_law) (hd : decode cc pc = .ok (.getfield index, 3)) (kk : GG p l e R s m args below meth c G A nL ce sl Q I pm L (pc + 3) (.ref (G.2.2 12 0) :: rest)) : GG p l e R s m args below meth c G A nL ce sl Q I pm L pc (.ref (G.2.2 8 i) :: rest) := g_get F (C := RX5) (T := TX5) (N := 6) (ci := 5) inlX5 rfl hi rfl 4 (by decide) hw rfl hd kk
theorem gf_8_5 (F : FX p s m args c cc nL own G A) (hi : i < 1) (hw : Cond.fieldLink own index "LocoFrames" "pad" "LLocoFrames$Pad;" ∈ wsL_law) (hd : decode cc pc = .ok (.getfield index, 3)) (kk : GG p l e R s m args below meth c G A nL ce sl Q I pm L (pc + 3) (.ref (G.2.2 13 0) :: rest)) : GG p l e R s m args below meth c G A nL ce sl Q I pm L pc (.ref (G.2.2 8 i) :: rest) := g_get F (C := RX5) (T := TX5) (N := 6) (ci := 5) inlX5 rfl hi rfl 5 (by decide) hw rfl hd kk
theorem gf_9_0 (F : FX p s m args c cc nL own G A) (hi : i < 1) (hw : Cond.fieldLink own index "LocoFrames$History" "states" "[LLocoFrames$Layout;" ∈ wsL_law) (hd : decode cc pc = .ok (.getfield index, 3)) (kk : GG p l e R s m args below meth c G A nL ce sl Q I pm L (pc + 3) (.ref (G.2.2 10 0) :: rest)) : GG p l e R s m args below meth c G A nL ce sl Q I pm L pc (.ref (G.2.2 9 i) :: rest) := g_get F (C := RX0) (T := TX0) (N := 3) (ci := 0) inlX0 rfl hi rfl 0 (by decide) hw rfl hd kk
theorem gf_9_1 (F : FX p s m args c cc nL own G A) (hi : i < 1) (hw : Cond.fieldLink own index "LocoFrames$History" "first" "I" ∈ wsL_law) (hd : decode cc pc = .ok (.getfield index, 3)) (kk : GG p l e R s m args below meth c G A nL ce sl Q I pm L (pc + 3) (.int (I 9 i 1) :: rest)) : GG p l e R s m args below meth c G A nL ce sl Q I pm L pc (.ref (G.2.2 9 i) :: rest) := g_get F (C := RX0) (T := TX0) (N := 3) (ci := 0) inlX0 rfl hi rfl 1 (by decide) hw rfl hd kk
theorem gp_9_1 (F : FX p s m args c cc nL own G A) (hi : i < 1) (hw : Cond.fieldLink own index "LocoFrames$History" "first" "I" ∈ wsL_law) (hd : decode cc pc = .ok (.putfield index, 3)) (kk : GG p l e R s m args below meth c G A nL ce sl Q (up3 I 9 i 1 x) pm L (pc + 3) rest) : GG p l e R s m args below meth c G A nL ce sl Q I pm L pc (.int x :: .ref (G.2.2 9 i) :: rest) := g_put F (C := RX0) (T := TX0) (N := 3) (ci := 0) (ty := .int) inlX0 tyX0 tyX0_ok nmX0 rfl hi rfl 1 (by decide) hw rfl (by decide +kernel) rfl rfl (Nat.le_of_ble_eq_true rfl) (by simp [cvv, up3]) hd kk
theorem gf_9_2 (F : FX p s m args c cc nL own G A) (hi : i < 1) (hw : Cond.fieldLink own index "LocoFrames$History" "held" "I" ∈ wsL_law) (hd : decode cc pc = .ok (.getfield index, 3)) (kk : GG p l e R s m args below meth c G A nL ce sl Q I pm L (pc + 3) (.int (I 9 i 2) :: rest)) : GG p l e R s m args below meth c G A nL ce sl Q I pm L pc (.ref (G.2.2 9 i) :: rest) := g_get F (C := RX0) (T := TX0) (N := 3) (ci := 0) inlX0 rfl hi rfl 2 (by decide) hw rfl hd kk
theorem gp_9_2 (F : FX p s m args c cc nL own G A) (hi : i < 1) (hw : Cond.fieldLink own index "LocoFrames$History" "held" "I" ∈ wsL_law) (hd : decode cc pc = .ok (.putfield index, 3)) (kk : GG p l e R s m args below meth c G A nL ce sl Q (up3 I 9 i 2 x) pm L (pc + 3) rest) : GG p l e R s m args below meth c G A nL ce sl Q I pm L pc (.int x :: .ref (G.2.2 9 i) :: rest) := g_put F (C := RX0) (T := TX0) (N := 3) (ci := 0) (ty := .int) inlX0 tyX0 tyX0_ok nmX0 rfl hi rfl 2 (by decide) hw rfl (by decide +kernel) rfl rfl (Nat.le_of_ble_eq_true rfl) (by simp [cvv, up3]) hd kk
theorem gf_13_0 (F : FX p s m args c cc nL own G A) (hi : i < 1) (hw : Cond.fieldLink own index "LocoFrames$Pad" "text" "[C" ∈ wsL_law) (hd : decode cc pc = .ok (.getfield index, 3)) (kk : GG p l e R s m args below meth c G A nL ce sl Q I pm L (pc + 3) (.ref (G.2.2 14 0) :: rest)) : GG p l e R s m args below meth c G A nL ce sl Q I pm L pc (.ref (G.2.2 13 i) :: rest) := g_get F (C := RX3) (T := TX3) (N := 6) (ci := 3) inlX3 rfl hi rfl 0 (by decide) hw rfl hd kk
theorem gf_13_1 (F : FX p s m args c cc nL own G A) (hi : i < 1) (hw : Cond.fieldLink own index "LocoFrames$Pad" "length" "I" ∈ wsL_law) (hd : decode cc pc = .ok (.getfield index, 3)) (kk : GG p l e R s m args below meth c G A nL ce sl Q I pm L (pc + 3) (.int (I 13 i 1) :: rest)) : GG p l e R s m args below meth c G A nL ce sl Q I pm L pc (.ref (G.2.2 13 i) :: rest) := g_get F (C := RX3) (T := TX3) (N := 6) (ci := 3) inlX3 rfl hi rfl 1 (by decide) hw rfl hd kk
theorem gp_13_1 (F : FX p s m args c cc nL own G A) (hi : i < 1) (hw : Cond.fieldLink own index "LocoFrames$Pad" "length" "I" ∈ wsL_law) (hd : decode cc pc = .ok (.putfield index, 3)) (kk : GG p l e R s m args below meth c G A nL ce sl Q (up3 I 13 i 1 x) pm L (pc + 3) rest) : GG p l e R s m args below meth c G A nL ce sl Q I pm L pc (.int x :: .ref (G.2.2 13 i) :: rest) := g_put F (C := RX3) (T := TX3) (N := 6) (ci := 3) (ty := .int) inlX3 tyX3 tyX3_ok nmX3 rfl hi rfl 1 (by decide) hw rfl (by decide +kernel) rfl rfl (Nat.le_of_ble_eq_true rfl) (by simp [cvv, up3]) hd kk
theorem gf_13_2 (F : FX p s m args c cc nL own G A) (hi : i < 1) (hw : Cond.fieldLink own index "LocoFrames$Pad" "at" "I" ∈ wsL_law) (hd : decode cc pc = .ok (.getfield index, 3)) (kk : GG p l e R s m args below meth c G A nL ce sl Q I pm L (pc + 3) (.int (I 13 i 2) :: rest)) : GG p l e R s m args below meth c G A nL ce sl Q I pm L pc (.ref (G.2.2 13 i) :: rest) := g_get F (C := RX3) (T := TX3) (N := 6) (ci := 3) inlX3 rfl hi rfl 2 (by decide) hw rfl hd kk
theorem gp_13_2 (F : FX p s m args c cc nL own G A) (hi : i < 1) (hw : Cond.fieldLink own index "LocoFrames$Pad" "at" "I" ∈ wsL_law) (hd : decode cc pc = .ok (.putfield index, 3)) (kk : GG p l e R s m args below meth c G A nL ce sl Q (up3 I 13 i 2 x) pm L (pc + 3) rest) : GG p l e R s m args below meth c G A nL ce sl Q I pm L pc (.int x :: .ref (G.2.2 13 i) :: rest) := g_put F (C := RX3) (T := TX3) (N := 6) (ci := 3) (ty := .int) inlX3 tyX3 tyX3_ok nmX3 rfl hi rfl 2 (by decide) hw rfl (by decide +kernel) rfl rfl (Nat.le_of_ble_eq_true rfl) (by simp [cvv, up3]) hd kk
theorem gf_13_3 (F : FX p s m args c cc nL own G A) (hi : i < 1) (hw : Cond.fieldLink own index "LocoFrames$Pad" "kind" "I" ∈ wsL_law) (hd : decode cc pc = .ok (.getfield index, 3)) (kk : GG p l e R s m args below meth c G A nL ce sl Q I pm L (pc + 3) (.int (I 13 i 3) :: rest)) : GG p l e R s m args below meth c G A nL ce sl Q I pm L pc (.ref (G.2.2 13 i) :: rest) := g_get F (C := RX3) (T := TX3) (N := 6) (ci := 3) inlX3 rfl hi rfl 3 (by decide) hw rfl hd kk
theorem gp_13_3 (F : FX p s m args c cc nL own G A) (hi : i < 1) (hw : Cond.fieldLink own index "LocoFrames$Pad" "kind" "I" ∈ wsL_law) (hd : decode cc pc = .ok (.putfield index, 3)) (kk : GG p l e R s m args below meth c G A nL ce sl Q (up3 I 13 i 3 x) pm L (pc + 3) rest) : GG p l e R s m args below meth c G A nL ce sl Q I pm L pc (.int x :: .ref (G.2.2 13 i) :: rest) := g_put F (C := RX3) (T := TX3) (N := 6) (ci := 3) (ty := .int) inlX3 tyX3 tyX3_ok nmX3 rfl hi rfl 3 (by decide) hw rfl (by decide +kernel) rfl rfl (Nat.le_of_ble_eq_true rfl) (by simp [cvv, up3]) hd kk
theorem gf_13_4 (F : FX p s m args c cc nL own G A) (hi : i < 1) (hw : Cond.fieldLink own index "LocoFrames$Pad" "numbers" "[I" ∈ wsL_law) (hd : decode cc pc = .ok (.getfield index, 3)) (kk : GG p l e R s m args below meth c G A nL ce sl Q I pm L (pc + 3) (.ref (G.2.2 15 0) :: rest)) : GG p l e R s m args below meth c G A nL ce sl Q I pm L pc (.ref (G.2.2 13 i) :: rest) := g_get F (C := RX3) (T := TX3) (N := 6) (ci := 3) inlX3 rfl hi rfl 4 (by decide) hw rfl hd kk
theorem gf_13_5 (F : FX p s m args c cc nL own G A) (hi : i < 1) (hw : Cond.fieldLink own index "LocoFrames$Pad" "numbersRead" "I" ∈ wsL_law) (hd : decode cc pc = .ok (.getfield index, 3)) (kk : GG p l e R s m args below meth c G A nL ce sl Q I pm L (pc + 3) (.int (I 13 i 5) :: rest)) : GG p l e R s m args below meth c G A nL ce sl Q I pm L pc (.ref (G.2.2 13 i) :: rest) := g_get F (C := RX3) (T := TX3) (N := 6) (ci := 3) inlX3 rfl hi rfl 5 (by decide) hw rfl hd kk
theorem gp_13_5 (F : FX p s m args c cc nL own G A) (hi : i < 1) (hw : Cond.fieldLink own index "LocoFrames$Pad" "numbersRead" "I" ∈ wsL_law) (hd : decode cc pc = .ok (.putfield index, 3)) (kk : GG p l e R s m args below meth c G A nL ce sl Q (up3 I 13 i 5 x) pm L (pc + 3) rest) : GG p l e R s m args below meth c G A nL ce sl Q I pm L pc (.int x :: .ref (G.2.2 13 i) :: rest) := g_put F (C := RX3) (T := TX3) (N := 6) (ci := 3) (ty := .int) inlX3 tyX3 tyX3_ok nmX3 rfl hi rfl 5 (by decide) hw rfl (by decide +kernel) rfl rfl (Nat.le_of_ble_eq_true rfl) (by simp [cvv, up3]) hd kk
theorem up3_f {I : Ii} {K i j : Nat} {v : Int32} : up3 I K i j v K i = upd (I K i) j v := by funext q; simp [up3, upd]
theorem vp_in_e {x : Int32} {j n : Nat} (ex : x = nI j) (hj : j < n) (hn : n < 2 ^ 31) : vp_in x n := by rw [ex]; exact vp_in_nI hj hn
theorem cl_e {x : Int32} {j n : Nat} (ex : x = nI j) (hj : j < n) (hn : n < 2 ^ 31) : x.toNatClampNeg = j := by rw [ex]; exact nI_clamp (Nat.lt_trans hj hn)
theorem ga_3 (F : FX p s m args c cc nL own G A) (hi : i < 11) (ex : x = nI j) (hj : j < 20) (hd : decode cc pc = .ok (.iaload, 1)) (kk : GG p l e R s m args below meth c G A nL ce sl Q I pm L (pc + 1) (.int (I 3 i j) :: rest)) : GG p l e R s m args below meth c G A nL ce sl Q I pm L pc (.int x :: .ref (G.2.2 3 i) :: rest) := g_iald F (n := 20) (f := I 3 i) hi rfl (vp_in_e ex hj (by decide)) hd (by rw [cl_e ex hj (by decide)]; exact kk)
theorem gs_3 (F : FX p s m args c cc nL own G A) (hi : i < 11) (ex : x = nI j) (hj : j < 20) (hd : decode cc pc = .ok (.iastore, 1)) (kk : GG p l e R s m args below meth c G A nL ce sl Q (up3 I 3 i j z) pm L (pc + 1) rest) : GG p l e R s m args below meth c G A nL ce sl Q I pm L pc (.int z :: .int x :: .ref (G.2.2 3 i) :: rest) := g_iast F (n := 20) (f := I 3 i) hi rfl (vp_in_e ex hj (by decide)) (by simp only [cvv, up3_f]) hd (by rw [cl_e ex hj (by decide)]; exact kk)
theorem ga_4 (F : FX p s m args c cc nL own G A) (hi : i < 11) (ex : x = nI j) (hj : j < 20) (hd : decode cc pc = .ok (.iaload, 1)) (kk : GG p l e R s m args below meth c G A nL ce sl Q I pm L (pc + 1) (.int (I 4 i j) :: rest)) : GG p l e R s m args below meth c G A nL ce sl Q I pm L pc (.int x :: .ref (G.2.2 4 i) :: rest) := g_iald F (n := 20) (f := I 4 i) hi rfl (vp_in_e ex hj (by decide)) hd (by rw [cl_e ex hj (by decide)]; exact kk)
theorem gs_4 (F : FX p s m args c cc nL own G A) (hi : i < 11) (ex : x = nI j) (hj : j < 20) (hd : decode cc pc = .ok (.iastore, 1)) (kk : GG p l e R s m args below meth c G A nL ce sl Q (up3 I 4 i j z) pm L (pc + 1) rest) : GG p l e R s m args below meth c G A nL ce sl Q I pm L pc (.int z :: .int x :: .ref (G.2.2 4 i) :: rest) := g_iast F (n := 20) (f := I 4 i) hi rfl (vp_in_e ex hj (by decide)) (by simp only [cvv, up3_f]) hd (by rw [cl_e ex hj (by decide)]; exact kk)
theorem ga_5 (F : FX p s m args c cc nL own G A) (hi : i < 11) (ex : x = nI j) (hj : j < 20) (hd : decode cc pc = .ok (.iaload, 1)) (kk : GG p l e R s m args below meth c G A nL ce sl Q I pm L (pc + 1) (.int (I 5 i j) :: rest)) : GG p l e R s m args below meth c G A nL ce sl Q I pm L pc (.int x :: .ref (G.2.2 5 i) :: rest) := g_iald F (n := 20) (f := I 5 i) hi rfl (vp_in_e ex hj (by decide)) hd (by rw [cl_e ex hj (by decide)]; exact kk)
theorem gs_5 (F : FX p s m args c cc nL own G A) (hi : i < 11) (ex : x = nI j) (hj : j < 20) (hd : decode cc pc = .ok (.iastore, 1)) (kk : GG p l e R s m args below meth c G A nL ce sl Q (up3 I 5 i j z) pm L (pc + 1) rest) : GG p l e R s m args below meth c G A nL ce sl Q I pm L pc (.int z :: .int x :: .ref (G.2.2 5 i) :: rest) := g_iast F (n := 20) (f := I 5 i) hi rfl (vp_in_e ex hj (by decide)) (by simp only [cvv, up3_f]) hd (by rw [cl_e ex hj (by decide)]; exact kk)
theorem ga_6 (F : FX p s m args c cc nL own G A) (hi : i < 11) (ex : x = nI j) (hj : j < 8) (hd : decode cc pc = .ok (.iaload, 1)) (kk : GG p l e R s m args below meth c G A nL ce sl Q I pm L (pc + 1) (.int (I 6 i j) :: rest)) : GG p l e R s m args below meth c G A nL ce sl Q I pm L pc (.int x :: .ref (G.2.2 6 i) :: rest) := g_iald F (n := 8) (f := I 6 i) hi rfl (vp_in_e ex hj (by decide)) hd (by rw [cl_e ex hj (by decide)]; exact kk)
theorem gs_6 (F : FX p s m args c cc nL own G A) (hi : i < 11) (ex : x = nI j) (hj : j < 8) (hd : decode cc pc = .ok (.iastore, 1)) (kk : GG p l e R s m args below meth c G A nL ce sl Q (up3 I 6 i j z) pm L (pc + 1) rest) : GG p l e R s m args below meth c G A nL ce sl Q I pm L pc (.int z :: .int x :: .ref (G.2.2 6 i) :: rest) := g_iast F (n := 8) (f := I 6 i) hi rfl (vp_in_e ex hj (by decide)) (by simp only [cvv, up3_f]) hd (by rw [cl_e ex hj (by decide)]; exact kk)
theorem ga_15 (F : FX p s m args c cc nL own G A) (hi : i < 1) (ex : x = nI j) (hj : j < 3) (hd : decode cc pc = .ok (.iaload, 1)) (kk : GG p l e R s m args below meth c G A nL ce sl Q I pm L (pc + 1) (.int (I 15 i j) :: rest)) : GG p l e R s m args below meth c G A nL ce sl Q I pm L pc (.int x :: .ref (G.2.2 15 i) :: rest) := g_iald F (n := 3) (f := I 15 i) hi rfl (vp_in_e ex hj (by decide)) hd (by rw [cl_e ex hj (by decide)]; exact kk)
theorem gs_15 (F : FX p s m args c cc nL own G A) (hi : i < 1) (ex : x = nI j) (hj : j < 3) (hd : decode cc pc = .ok (.iastore, 1)) (kk : GG p l e R s m args below meth c G A nL ce sl Q (up3 I 15 i j z) pm L (pc + 1) rest) : GG p l e R s m args below meth c G A nL ce sl Q I pm L pc (.int z :: .int x :: .ref (G.2.2 15 i) :: rest) := g_iast F (n := 3) (f := I 15 i) hi rfl (vp_in_e ex hj (by decide)) (by simp only [cvv, up3_f]) hd (by rw [cl_e ex hj (by decide)]; exact kk)
theorem ga_12 (F : FX p s m args c cc nL own G A) (hi : i < 1) (ex : x = nI j) (hj : j < 2) (hd : decode cc pc = .ok (.baload, 1)) (kk : GG p l e R s m args below meth c G A nL ce sl Q I pm L (pc + 1) (.int (I 12 i j) :: rest)) : GG p l e R s m args below meth c G A nL ce sl Q I pm L pc (.int x :: .ref (G.2.2 12 i) :: rest) := g_zald F (n := 2) (f := I 12 i) hi rfl (vp_in_e ex hj (by decide)) hd (by rw [cl_e ex hj (by decide)]; exact kk)
theorem gs_12 (F : FX p s m args c cc nL own G A) (hi : i < 1) (ex : x = nI j) (hj : j < 2) (hn : narrow .boolean (.int z) = .int z) (hd : decode cc pc = .ok (.bastore, 1)) (kk : GG p l e R s m args below meth c G A nL ce sl Q (up3 I 12 i j z) pm L (pc + 1) rest) : GG p l e R s m args below meth c G A nL ce sl Q I pm L pc (.int z :: .int x :: .ref (G.2.2 12 i) :: rest) := g_zast F (n := 2) (f := I 12 i) hi rfl (vp_in_e ex hj (by decide)) hn (by simp only [cvv, up3_f]) hd (by rw [cl_e ex hj (by decide)]; exact kk)
theorem ga_14 (F : FX p s m args c cc nL own G A) (hi : i < 1) (ex : x = nI j) (hj : j < 80) (hd : decode cc pc = .ok (.caload, 1)) (kk : GG p l e R s m args below meth c G A nL ce sl Q I pm L (pc + 1) (.int (I 14 i j) :: rest)) : GG p l e R s m args below meth c G A nL ce sl Q I pm L pc (.int x :: .ref (G.2.2 14 i) :: rest) := g_cald F (n := 80) (f := I 14 i) hi rfl (vp_in_e ex hj (by decide)) hd (by rw [cl_e ex hj (by decide)]; exact kk)
theorem gs_14 (F : FX p s m args c cc nL own G A) (hi : i < 1) (ex : x = nI j) (hj : j < 80) (hn : narrow .char (.int z) = .int z) (hd : decode cc pc = .ok (.castore, 1)) (kk : GG p l e R s m args below meth c G A nL ce sl Q (up3 I 14 i j z) pm L (pc + 1) rest) : GG p l e R s m args below meth c G A nL ce sl Q I pm L pc (.int z :: .int x :: .ref (G.2.2 14 i) :: rest) := g_cast F (n := 80) (f := I 14 i) hi rfl (vp_in_e ex hj (by decide)) hn (by simp only [cvv, up3_f]) hd (by rw [cl_e ex hj (by decide)]; exact kk)
theorem ga_1 (F : FX p s m args c cc nL own G A) (hi : i < 11) (ex : x = nI j) (hj : j < 8) (hd : decode cc pc = .ok (.aaload, 1)) (kk : GG p l e R s m args below meth c G A nL ce sl Q I pm L (pc + 1) (.ref (G.2.2 7 (8 * i + pm i j)) :: rest)) : GG p l e R s m args below meth c G A nL ce sl Q I pm L pc (.int x :: .ref (G.2.2 1 i) :: rest) := g_aald F (n := 8) (t0 := 4) hi rfl rfl (vp_in_e ex hj (by decide)) (by rw [cl_e ex hj (by decide)]) hd kk
theorem ga_10 (F : FX p s m args c cc nL own G A) (ex : x = nI j) (hj : j < 7) (hd : decode cc pc = .ok (.aaload, 1)) (kk : GG p l e R s m args below meth c G A nL ce sl Q I pm L (pc + 1) (.ref (G.2.2 0 (4 + j)) :: rest)) : GG p l e R s m args below meth c G A nL ce sl Q I pm L pc (.int x :: .ref (G.2.2 10 0) :: rest) := g_aald F (n := 7) (t0 := 3) (by decide) rfl rfl (vp_in_e ex hj (by decide)) (by rw [cl_e ex hj (by decide)]) hd kk
theorem ga_11 (F : FX p s m args c cc nL own G A) (ex : x = nI j) (hj : j < 2) (hd : decode cc pc = .ok (.aaload, 1)) (kk : GG p l e R s m args below meth c G A nL ce sl Q I pm L (pc + 1) (.ref (G.2.2 0 (2 + j)) :: rest)) : GG p l e R s m args below meth c G A nL ce sl Q I pm L pc (.int x :: .ref (G.2.2 11 0) :: rest) := g_aald F (n := 2) (t0 := 3) (by decide) rfl rfl (vp_in_e ex hj (by decide)) (by rw [cl_e ex hj (by decide)]) hd kk
theorem gs_1 (F : FX p s m args c cc nL own G A) {v : Nat} (hi : i < 11) (hv : v < 8) (ex : x = nI j) (hj : j < 8) (hd : decode cc pc = .ok (.aastore, 1)) (kk : GG p l e R s m args below meth c G A nL ce sl Q I (upP pm i j v) L (pc + 1) rest) : GG p l e R s m args below meth c G A nL ce sl Q I pm L pc (.ref (G.2.2 7 (8 * i + v)) :: .int x :: .ref (G.2.2 1 i) :: rest) := g_aast F hi hv (vp_in_e ex hj (by decide)) hd (by rw [cl_e ex hj (by decide)]; exact kk)
end FIELDS
end
section
theorem dX0_init_0 : decode cX0_init 0 = .ok (.aload_n 0, 1) := by decide +kernel
theorem dX0_init_1 : decode cX0_init 1 = .ok (.invokespecial 3, 3) := by decide +kernel
theorem dX0_init_4 : decode cX0_init 4 = .ok (.aload_n 0, 1) := by decide +kernel
theorem dX0_init_5 : decode cX0_init 5 = .ok (.bipush 7, 2) := by decide +kernel
theorem dX0_init_7 : decode cX0_init 7 = .ok (.anewarray 9, 3) := by decide +kernel
theorem dX0_init_10 : decode cX0_init 10 = .ok (.putfield 11, 3) := by decide +kernel
theorem dX0_init_13 : decode cX0_init 13 = .ok (.iconst 0, 1) := by decide +kernel
theorem dX0_init_14 : decode cX0_init 14 = .ok (.istore_n 1, 1) := by decide +kernel
theorem dX0_init_15 : decode cX0_init 15 = .ok (.iload_n 1, 1) := by decide +kernel
theorem dX0_init_16 : decode cX0_init 16 = .ok (.bipush 7, 2) := by decide +kernel
theorem dX0_init_18 : decode cX0_init 18 = .ok (.if_icmp .ge 22, 3) := by decide +kernel
theorem dX0_init_21 : decode cX0_init 21 = .ok (.aload_n 0, 1) := by decide +kernel
theorem dX0_init_22 : decode cX0_init 22 = .ok (.getfield 11, 3) := by decide +kernel
theorem dX0_init_25 : decode cX0_init 25 = .ok (.iload_n 1, 1) := by decide +kernel
theorem dX0_init_26 : decode cX0_init 26 = .ok (.new 9, 3) := by decide +kernel
theorem dX0_init_29 : decode cX0_init 29 = .ok (.dup, 1) := by decide +kernel
theorem dX0_init_30 : decode cX0_init 30 = .ok (.invokespecial 17, 3) := by decide +kernel
theorem dX0_init_33 : decode cX0_init 33 = .ok (.aastore, 1) := by decide +kernel
theorem dX0_init_34 : decode cX0_init 34 = .ok (.iinc 1 1, 3) := by decide +kernel
theorem dX0_init_37 : decode cX0_init 37 = .ok (.goto (-22), 3) := by decide +kernel
theorem dX0_init_40 : decode cX0_init 40 = .ok (.return_, 1) := by decide +kernel
theorem dX0_draft_0 : decode cX0_draft 0 = .ok (.aload_n 0, 1) := by decide +kernel
theorem dX0_draft_1 : decode cX0_draft 1 = .ok (.getfield 11, 3) := by decide +kernel
theorem dX0_draft_4 : decode cX0_draft 4 = .ok (.aload_n 0, 1) := by decide +kernel
theorem dX0_draft_5 : decode cX0_draft 5 = .ok (.getfield 18, 3) := by decide +kernel
theorem dX0_draft_8 : decode cX0_draft 8 = .ok (.aload_n 0, 1) := by decide +kernel
theorem dX0_draft_9 : decode cX0_draft 9 = .ok (.getfield 22, 3) := by decide +kernel
theorem dX0_draft_12 : decode cX0_draft 12 = .ok (.iadd, 1) := by decide +kernel
theorem dX0_draft_13 : decode cX0_draft 13 = .ok (.bipush 7, 2) := by decide +kernel
theorem dX0_draft_15 : decode cX0_draft 15 = .ok (.irem, 1) := by decide +kernel
theorem dX0_draft_16 : decode cX0_draft 16 = .ok (.aaload, 1) := by decide +kernel
theorem dX0_draft_17 : decode cX0_draft 17 = .ok (.aload_n 1, 1) := by decide +kernel
theorem dX0_draft_18 : decode cX0_draft 18 = .ok (.invokevirtual 25, 3) := by decide +kernel
theorem dX0_draft_21 : decode cX0_draft 21 = .ok (.return_, 1) := by decide +kernel
theorem dX0_kept_0 : decode cX0_kept 0 = .ok (.iload_n 1, 1) := by decide +kernel
theorem dX0_kept_1 : decode cX0_kept 1 = .ok (.ifCond .ge 5, 3) := by decide +kernel
theorem dX0_kept_4 : decode cX0_kept 4 = .ok (.iload_n 1, 1) := by decide +kernel
theorem dX0_kept_5 : decode cX0_kept 5 = .ok (.ireturn, 1) := by decide +kernel
theorem dX0_kept_6 : decode cX0_kept 6 = .ok (.aload_n 0, 1) := by decide +kernel
theorem dX0_kept_7 : decode cX0_kept 7 = .ok (.getfield 22, 3) := by decide +kernel
theorem dX0_kept_10 : decode cX0_kept 10 = .ok (.bipush 6, 2) := by decide +kernel
theorem dX0_kept_12 : decode cX0_kept 12 = .ok (.if_icmp .ge 16, 3) := by decide +kernel
theorem dX0_kept_15 : decode cX0_kept 15 = .ok (.aload_n 0, 1) := by decide +kernel
theorem dX0_kept_16 : decode cX0_kept 16 = .ok (.dup, 1) := by decide +kernel
theorem dX0_kept_17 : decode cX0_kept 17 = .ok (.getfield 22, 3) := by decide +kernel
theorem dX0_kept_20 : decode cX0_kept 20 = .ok (.iconst 1, 1) := by decide +kernel
theorem dX0_kept_21 : decode cX0_kept 21 = .ok (.iadd, 1) := by decide +kernel
theorem dX0_kept_22 : decode cX0_kept 22 = .ok (.putfield 22, 3) := by decide +kernel
theorem dX0_kept_25 : decode cX0_kept 25 = .ok (.goto 16, 3) := by decide +kernel
theorem dX0_kept_28 : decode cX0_kept 28 = .ok (.aload_n 0, 1) := by decide +kernel
theorem dX0_kept_29 : decode cX0_kept 29 = .ok (.aload_n 0, 1) := by decide +kernel
theorem dX0_kept_30 : decode cX0_kept 30 = .ok (.getfield 18, 3) := by decide +kernel
theorem dX0_kept_33 : decode cX0_kept 33 = .ok (.iconst 1, 1) := by decide +kernel
theorem dX0_kept_34 : decode cX0_kept 34 = .ok (.iadd, 1) := by decide +kernel
theorem dX0_kept_35 : decode cX0_kept 35 = .ok (.bipush 7, 2) := by decide +kernel
theorem dX0_kept_37 : decode cX0_kept 37 = .ok (.irem, 1) := by decide +kernel
theorem dX0_kept_38 : decode cX0_kept 38 = .ok (.putfield 18, 3) := by decide +kernel
theorem dX0_kept_41 : decode cX0_kept 41 = .ok (.iload_n 1, 1) := by decide +kernel
theorem dX0_kept_42 : decode cX0_kept 42 = .ok (.ireturn, 1) := by decide +kernel
theorem dX0_takeBack_0 : decode cX0_takeBack 0 = .ok (.aload_n 0, 1) := by decide +kernel
theorem dX0_takeBack_1 : decode cX0_takeBack 1 = .ok (.getfield 22, 3) := by decide +kernel
theorem dX0_takeBack_4 : decode cX0_takeBack 4 = .ok (.iconst 1, 1) := by decide +kernel
theorem dX0_takeBack_5 : decode cX0_takeBack 5 = .ok (.if_icmp .ge 6, 3) := by decide +kernel
theorem dX0_takeBack_8 : decode cX0_takeBack 8 = .ok (.bipush (-5), 2) := by decide +kernel
theorem dX0_takeBack_10 : decode cX0_takeBack 10 = .ok (.ireturn, 1) := by decide +kernel
theorem dX0_takeBack_11 : decode cX0_takeBack 11 = .ok (.aload_n 0, 1) := by decide +kernel
theorem dX0_takeBack_12 : decode cX0_takeBack 12 = .ok (.dup, 1) := by decide +kernel
theorem dX0_takeBack_13 : decode cX0_takeBack 13 = .ok (.getfield 22, 3) := by decide +kernel
theorem dX0_takeBack_16 : decode cX0_takeBack 16 = .ok (.iconst 1, 1) := by decide +kernel
theorem dX0_takeBack_17 : decode cX0_takeBack 17 = .ok (.isub, 1) := by decide +kernel
theorem dX0_takeBack_18 : decode cX0_takeBack 18 = .ok (.putfield 22, 3) := by decide +kernel
theorem dX0_takeBack_21 : decode cX0_takeBack 21 = .ok (.aload_n 1, 1) := by decide +kernel
theorem dX0_takeBack_22 : decode cX0_takeBack 22 = .ok (.aload_n 0, 1) := by decide +kernel
theorem dX0_takeBack_23 : decode cX0_takeBack 23 = .ok (.getfield 11, 3) := by decide +kernel
theorem dX0_takeBack_26 : decode cX0_takeBack 26 = .ok (.aload_n 0, 1) := by decide +kernel
theorem dX0_takeBack_27 : decode cX0_takeBack 27 = .ok (.getfield 18, 3) := by decide +kernel
theorem dX0_takeBack_30 : decode cX0_takeBack 30 = .ok (.aload_n 0, 1) := by decide +kernel
theorem dX0_takeBack_31 : decode cX0_takeBack 31 = .ok (.getfield 22, 3) := by decide +kernel
theorem dX0_takeBack_34 : decode cX0_takeBack 34 = .ok (.iadd, 1) := by decide +kernel
theorem dX0_takeBack_35 : decode cX0_takeBack 35 = .ok (.bipush 7, 2) := by decide +kernel
theorem dX0_takeBack_37 : decode cX0_takeBack 37 = .ok (.irem, 1) := by decide +kernel
theorem dX0_takeBack_38 : decode cX0_takeBack 38 = .ok (.aaload, 1) := by decide +kernel
theorem dX0_takeBack_39 : decode cX0_takeBack 39 = .ok (.invokevirtual 25, 3) := by decide +kernel
theorem dX0_takeBack_42 : decode cX0_takeBack 42 = .ok (.aload_n 0, 1) := by decide +kernel
theorem dX0_takeBack_43 : decode cX0_takeBack 43 = .ok (.getfield 22, 3) := by decide +kernel
theorem dX0_takeBack_46 : decode cX0_takeBack 46 = .ok (.ireturn, 1) := by decide +kernel
theorem dX1_init_0 : decode cX1_init 0 = .ok (.aload_n 0, 1) := by decide +kernel
theorem dX1_init_1 : decode cX1_init 1 = .ok (.invokespecial 3, 3) := by decide +kernel
theorem dX1_init_4 : decode cX1_init 4 = .ok (.aload_n 0, 1) := by decide +kernel
theorem dX1_init_5 : decode cX1_init 5 = .ok (.bipush 8, 2) := by decide +kernel
theorem dX1_init_7 : decode cX1_init 7 = .ok (.anewarray 9, 3) := by decide +kernel
theorem dX1_init_10 : decode cX1_init 10 = .ok (.putfield 11, 3) := by decide +kernel
theorem dX1_init_13 : decode cX1_init 13 = .ok (.aload_n 0, 1) := by decide +kernel
theorem dX1_init_14 : decode cX1_init 14 = .ok (.new 17, 3) := by decide +kernel
theorem dX1_init_17 : decode cX1_init 17 = .ok (.dup, 1) := by decide +kernel
theorem dX1_init_18 : decode cX1_init 18 = .ok (.invokespecial 19, 3) := by decide +kernel
theorem dX1_init_21 : decode cX1_init 21 = .ok (.putfield 20, 3) := by decide +kernel
theorem dX1_init_24 : decode cX1_init 24 = .ok (.aload_n 0, 1) := by decide +kernel
theorem dX1_init_25 : decode cX1_init 25 = .ok (.bipush 8, 2) := by decide +kernel
theorem dX1_init_27 : decode cX1_init 27 = .ok (.newarray .int, 2) := by decide +kernel
theorem dX1_init_29 : decode cX1_init 29 = .ok (.putfield 24, 3) := by decide +kernel
theorem dX1_init_32 : decode cX1_init 32 = .ok (.iconst 0, 1) := by decide +kernel
theorem dX1_init_33 : decode cX1_init 33 = .ok (.istore_n 1, 1) := by decide +kernel
theorem dX1_init_34 : decode cX1_init 34 = .ok (.iload_n 1, 1) := by decide +kernel
theorem dX1_init_35 : decode cX1_init 35 = .ok (.bipush 8, 2) := by decide +kernel
theorem dX1_init_37 : decode cX1_init 37 = .ok (.if_icmp .ge 22, 3) := by decide +kernel
theorem dX1_init_40 : decode cX1_init 40 = .ok (.aload_n 0, 1) := by decide +kernel
theorem dX1_init_41 : decode cX1_init 41 = .ok (.getfield 11, 3) := by decide +kernel
theorem dX1_init_44 : decode cX1_init 44 = .ok (.iload_n 1, 1) := by decide +kernel
theorem dX1_init_45 : decode cX1_init 45 = .ok (.new 9, 3) := by decide +kernel
theorem dX1_init_48 : decode cX1_init 48 = .ok (.dup, 1) := by decide +kernel
theorem dX1_init_49 : decode cX1_init 49 = .ok (.invokespecial 28, 3) := by decide +kernel
theorem dX1_init_52 : decode cX1_init 52 = .ok (.aastore, 1) := by decide +kernel
theorem dX1_init_53 : decode cX1_init 53 = .ok (.iinc 1 1, 3) := by decide +kernel
theorem dX1_init_56 : decode cX1_init 56 = .ok (.goto (-22), 3) := by decide +kernel
theorem dX1_init_59 : decode cX1_init 59 = .ok (.return_, 1) := by decide +kernel
theorem dX1_copyFrom_0 : decode cX1_copyFrom 0 = .ok (.iconst 0, 1) := by decide +kernel
theorem dX1_copyFrom_1 : decode cX1_copyFrom 1 = .ok (.istore_n 2, 1) := by decide +kernel
theorem dX1_copyFrom_2 : decode cX1_copyFrom 2 = .ok (.iload_n 2, 1) := by decide +kernel
theorem dX1_copyFrom_3 : decode cX1_copyFrom 3 = .ok (.aload_n 1, 1) := by decide +kernel
theorem dX1_copyFrom_4 : decode cX1_copyFrom 4 = .ok (.getfield 29, 3) := by decide +kernel
theorem dX1_copyFrom_7 : decode cX1_copyFrom 7 = .ok (.if_icmp .ge 24, 3) := by decide +kernel
theorem dX1_copyFrom_10 : decode cX1_copyFrom 10 = .ok (.aload_n 0, 1) := by decide +kernel
theorem dX1_copyFrom_11 : decode cX1_copyFrom 11 = .ok (.getfield 11, 3) := by decide +kernel
theorem dX1_copyFrom_14 : decode cX1_copyFrom 14 = .ok (.iload_n 2, 1) := by decide +kernel
theorem dX1_copyFrom_15 : decode cX1_copyFrom 15 = .ok (.aaload, 1) := by decide +kernel
theorem dX1_copyFrom_16 : decode cX1_copyFrom 16 = .ok (.aload_n 1, 1) := by decide +kernel
theorem dX1_copyFrom_17 : decode cX1_copyFrom 17 = .ok (.getfield 11, 3) := by decide +kernel
theorem dX1_copyFrom_20 : decode cX1_copyFrom 20 = .ok (.iload_n 2, 1) := by decide +kernel
theorem dX1_copyFrom_21 : decode cX1_copyFrom 21 = .ok (.aaload, 1) := by decide +kernel
theorem dX1_copyFrom_22 : decode cX1_copyFrom 22 = .ok (.invokevirtual 33, 3) := by decide +kernel
theorem dX1_copyFrom_25 : decode cX1_copyFrom 25 = .ok (.iinc 2 1, 3) := by decide +kernel
theorem dX1_copyFrom_28 : decode cX1_copyFrom 28 = .ok (.goto (-26), 3) := by decide +kernel
theorem dX1_copyFrom_31 : decode cX1_copyFrom 31 = .ok (.aload_n 0, 1) := by decide +kernel
theorem dX1_copyFrom_32 : decode cX1_copyFrom 32 = .ok (.getfield 20, 3) := by decide +kernel
theorem dX1_copyFrom_35 : decode cX1_copyFrom 35 = .ok (.aload_n 1, 1) := by decide +kernel
theorem dX1_copyFrom_36 : decode cX1_copyFrom 36 = .ok (.getfield 20, 3) := by decide +kernel
theorem dX1_copyFrom_39 : decode cX1_copyFrom 39 = .ok (.invokevirtual 37, 3) := by decide +kernel
theorem dX1_copyFrom_42 : decode cX1_copyFrom 42 = .ok (.aload_n 1, 1) := by decide +kernel
theorem dX1_copyFrom_43 : decode cX1_copyFrom 43 = .ok (.getfield 24, 3) := by decide +kernel
theorem dX1_copyFrom_46 : decode cX1_copyFrom 46 = .ok (.iconst 0, 1) := by decide +kernel
theorem dX1_copyFrom_47 : decode cX1_copyFrom 47 = .ok (.aload_n 0, 1) := by decide +kernel
theorem dX1_copyFrom_48 : decode cX1_copyFrom 48 = .ok (.getfield 24, 3) := by decide +kernel
theorem dX1_copyFrom_51 : decode cX1_copyFrom 51 = .ok (.iconst 0, 1) := by decide +kernel
theorem dX1_copyFrom_52 : decode cX1_copyFrom 52 = .ok (.bipush 8, 2) := by decide +kernel
theorem dX1_copyFrom_54 : decode cX1_copyFrom 54 = .ok (.invokestatic 40, 3) := by decide +kernel
theorem dX1_copyFrom_57 : decode cX1_copyFrom 57 = .ok (.aload_n 0, 1) := by decide +kernel
theorem dX1_copyFrom_58 : decode cX1_copyFrom 58 = .ok (.aload_n 1, 1) := by decide +kernel
theorem dX1_copyFrom_59 : decode cX1_copyFrom 59 = .ok (.getfield 29, 3) := by decide +kernel
theorem dX1_copyFrom_62 : decode cX1_copyFrom 62 = .ok (.putfield 29, 3) := by decide +kernel
theorem dX1_copyFrom_65 : decode cX1_copyFrom 65 = .ok (.aload_n 0, 1) := by decide +kernel
theorem dX1_copyFrom_66 : decode cX1_copyFrom 66 = .ok (.aload_n 1, 1) := by decide +kernel
theorem dX1_copyFrom_67 : decode cX1_copyFrom 67 = .ok (.getfield 46, 3) := by decide +kernel
theorem dX1_copyFrom_70 : decode cX1_copyFrom 70 = .ok (.putfield 46, 3) := by decide +kernel
theorem dX1_copyFrom_73 : decode cX1_copyFrom 73 = .ok (.aload_n 0, 1) := by decide +kernel
theorem dX1_copyFrom_74 : decode cX1_copyFrom 74 = .ok (.aload_n 1, 1) := by decide +kernel
theorem dX1_copyFrom_75 : decode cX1_copyFrom 75 = .ok (.getfield 49, 3) := by decide +kernel
theorem dX1_copyFrom_78 : decode cX1_copyFrom 78 = .ok (.putfield 49, 3) := by decide +kernel
theorem dX1_copyFrom_81 : decode cX1_copyFrom 81 = .ok (.aload_n 0, 1) := by decide +kernel
theorem dX1_copyFrom_82 : decode cX1_copyFrom 82 = .ok (.aload_n 1, 1) := by decide +kernel
theorem dX1_copyFrom_83 : decode cX1_copyFrom 83 = .ok (.getfield 52, 3) := by decide +kernel
theorem dX1_copyFrom_86 : decode cX1_copyFrom 86 = .ok (.putfield 52, 3) := by decide +kernel
theorem dX1_copyFrom_89 : decode cX1_copyFrom 89 = .ok (.aload_n 0, 1) := by decide +kernel
theorem dX1_copyFrom_90 : decode cX1_copyFrom 90 = .ok (.aload_n 1, 1) := by decide +kernel
theorem dX1_copyFrom_91 : decode cX1_copyFrom 91 = .ok (.getfield 55, 3) := by decide +kernel
theorem dX1_copyFrom_94 : decode cX1_copyFrom 94 = .ok (.putfield 55, 3) := by decide +kernel
theorem dX1_copyFrom_97 : decode cX1_copyFrom 97 = .ok (.aload_n 0, 1) := by decide +kernel
theorem dX1_copyFrom_98 : decode cX1_copyFrom 98 = .ok (.aload_n 1, 1) := by decide +kernel
theorem dX1_copyFrom_99 : decode cX1_copyFrom 99 = .ok (.getfield 58, 3) := by decide +kernel
theorem dX1_copyFrom_102 : decode cX1_copyFrom 102 = .ok (.putfield 58, 3) := by decide +kernel
theorem dX1_copyFrom_105 : decode cX1_copyFrom 105 = .ok (.aload_n 0, 1) := by decide +kernel
theorem dX1_copyFrom_106 : decode cX1_copyFrom 106 = .ok (.aload_n 1, 1) := by decide +kernel
theorem dX1_copyFrom_107 : decode cX1_copyFrom 107 = .ok (.getfield 61, 3) := by decide +kernel
theorem dX1_copyFrom_110 : decode cX1_copyFrom 110 = .ok (.putfield 61, 3) := by decide +kernel
theorem dX1_copyFrom_113 : decode cX1_copyFrom 113 = .ok (.return_, 1) := by decide +kernel
theorem dX1_locoAt_0 : decode cX1_locoAt 0 = .ok (.iload_n 1, 1) := by decide +kernel
theorem dX1_locoAt_1 : decode cX1_locoAt 1 = .ok (.iconst 0, 1) := by decide +kernel
theorem dX1_locoAt_2 : decode cX1_locoAt 2 = .ok (.aload_n 0, 1) := by decide +kernel
theorem dX1_locoAt_3 : decode cX1_locoAt 3 = .ok (.getfield 29, 3) := by decide +kernel
theorem dX1_locoAt_6 : decode cX1_locoAt 6 = .ok (.iconst 1, 1) := by decide +kernel
theorem dX1_locoAt_7 : decode cX1_locoAt 7 = .ok (.isub, 1) := by decide +kernel
theorem dX1_locoAt_8 : decode cX1_locoAt 8 = .ok (.invokestatic 64, 3) := by decide +kernel
theorem dX1_locoAt_11 : decode cX1_locoAt 11 = .ok (.ifCond .eq 12, 3) := by decide +kernel
theorem dX1_locoAt_14 : decode cX1_locoAt 14 = .ok (.aload_n 0, 1) := by decide +kernel
theorem dX1_locoAt_15 : decode cX1_locoAt 15 = .ok (.getfield 11, 3) := by decide +kernel
theorem dX1_locoAt_18 : decode cX1_locoAt 18 = .ok (.iload_n 1, 1) := by decide +kernel
theorem dX1_locoAt_19 : decode cX1_locoAt 19 = .ok (.aaload, 1) := by decide +kernel
theorem dX1_locoAt_20 : decode cX1_locoAt 20 = .ok (.goto 4, 3) := by decide +kernel
theorem dX1_locoAt_23 : decode cX1_locoAt 23 = .ok (.aconst_null, 1) := by decide +kernel
theorem dX1_locoAt_24 : decode cX1_locoAt 24 = .ok (.areturn, 1) := by decide +kernel
theorem dX1_locoWith_0 : decode cX1_locoWith 0 = .ok (.aload_n 0, 1) := by decide +kernel
theorem dX1_locoWith_1 : decode cX1_locoWith 1 = .ok (.aload_n 0, 1) := by decide +kernel
theorem dX1_locoWith_2 : decode cX1_locoWith 2 = .ok (.iload_n 1, 1) := by decide +kernel
theorem dX1_locoWith_3 : decode cX1_locoWith 3 = .ok (.invokevirtual 68, 3) := by decide +kernel
theorem dX1_locoWith_6 : decode cX1_locoWith 6 = .ok (.invokevirtual 72, 3) := by decide +kernel
theorem dX1_locoWith_9 : decode cX1_locoWith 9 = .ok (.areturn, 1) := by decide +kernel
theorem dX1_rankOf_0 : decode cX1_rankOf 0 = .ok (.iconst 0, 1) := by decide +kernel
theorem dX1_rankOf_1 : decode cX1_rankOf 1 = .ok (.istore_n 2, 1) := by decide +kernel
theorem dX1_rankOf_2 : decode cX1_rankOf 2 = .ok (.iload_n 2, 1) := by decide +kernel
theorem dX1_rankOf_3 : decode cX1_rankOf 3 = .ok (.aload_n 0, 1) := by decide +kernel
theorem dX1_rankOf_4 : decode cX1_rankOf 4 = .ok (.getfield 29, 3) := by decide +kernel
theorem dX1_rankOf_7 : decode cX1_rankOf 7 = .ok (.if_icmp .ge 22, 3) := by decide +kernel
theorem dX1_rankOf_10 : decode cX1_rankOf 10 = .ok (.aload_n 0, 1) := by decide +kernel
theorem dX1_rankOf_11 : decode cX1_rankOf 11 = .ok (.getfield 11, 3) := by decide +kernel
theorem dX1_rankOf_14 : decode cX1_rankOf 14 = .ok (.iload_n 2, 1) := by decide +kernel
theorem dX1_rankOf_15 : decode cX1_rankOf 15 = .ok (.aaload, 1) := by decide +kernel
theorem dX1_rankOf_16 : decode cX1_rankOf 16 = .ok (.getfield 76, 3) := by decide +kernel
theorem dX1_rankOf_19 : decode cX1_rankOf 19 = .ok (.iload_n 1, 1) := by decide +kernel
theorem dX1_rankOf_20 : decode cX1_rankOf 20 = .ok (.if_icmp .eq 9, 3) := by decide +kernel
theorem dX1_rankOf_23 : decode cX1_rankOf 23 = .ok (.iinc 2 1, 3) := by decide +kernel
theorem dX1_rankOf_26 : decode cX1_rankOf 26 = .ok (.goto (-24), 3) := by decide +kernel
theorem dX1_rankOf_29 : decode cX1_rankOf 29 = .ok (.iload_n 2, 1) := by decide +kernel
theorem dX1_rankOf_30 : decode cX1_rankOf 30 = .ok (.ireturn, 1) := by decide +kernel
theorem dX1_addLoco_0 : decode cX1_addLoco 0 = .ok (.iload_n 1, 1) := by decide +kernel
theorem dX1_addLoco_1 : decode cX1_addLoco 1 = .ok (.iconst 1, 1) := by decide +kernel
theorem dX1_addLoco_2 : decode cX1_addLoco 2 = .ok (.bipush 99, 2) := by decide +kernel
theorem dX1_addLoco_4 : decode cX1_addLoco 4 = .ok (.invokestatic 64, 3) := by decide +kernel
theorem dX1_addLoco_7 : decode cX1_addLoco 7 = .ok (.ifCond .eq 34, 3) := by decide +kernel
theorem dX1_addLoco_10 : decode cX1_addLoco 10 = .ok (.iload_n 2, 1) := by decide +kernel
theorem dX1_addLoco_11 : decode cX1_addLoco 11 = .ok (.iconst 1, 1) := by decide +kernel
theorem dX1_addLoco_12 : decode cX1_addLoco 12 = .ok (.bipush 20, 2) := by decide +kernel
theorem dX1_addLoco_14 : decode cX1_addLoco 14 = .ok (.invokestatic 64, 3) := by decide +kernel
theorem dX1_addLoco_17 : decode cX1_addLoco 17 = .ok (.ifCond .eq 24, 3) := by decide +kernel
theorem dX1_addLoco_20 : decode cX1_addLoco 20 = .ok (.iload_n 3, 1) := by decide +kernel
theorem dX1_addLoco_21 : decode cX1_addLoco 21 = .ok (.iconst 0, 1) := by decide +kernel
theorem dX1_addLoco_22 : decode cX1_addLoco 22 = .ok (.iconst 2, 1) := by decide +kernel
theorem dX1_addLoco_23 : decode cX1_addLoco 23 = .ok (.invokestatic 64, 3) := by decide +kernel
theorem dX1_addLoco_26 : decode cX1_addLoco 26 = .ok (.ifCond .eq 15, 3) := by decide +kernel
theorem dX1_addLoco_29 : decode cX1_addLoco 29 = .ok (.iload 4, 2) := by decide +kernel
theorem dX1_addLoco_31 : decode cX1_addLoco 31 = .ok (.iconst 0, 1) := by decide +kernel
theorem dX1_addLoco_32 : decode cX1_addLoco 32 = .ok (.sipush 799, 3) := by decide +kernel
theorem dX1_addLoco_35 : decode cX1_addLoco 35 = .ok (.invokestatic 64, 3) := by decide +kernel
theorem dX1_addLoco_38 : decode cX1_addLoco 38 = .ok (.ifCond .ne 6, 3) := by decide +kernel
theorem dX1_addLoco_41 : decode cX1_addLoco 41 = .ok (.bipush (-2), 2) := by decide +kernel
theorem dX1_addLoco_43 : decode cX1_addLoco 43 = .ok (.ireturn, 1) := by decide +kernel
theorem dX1_addLoco_44 : decode cX1_addLoco 44 = .ok (.aload_n 0, 1) := by decide +kernel
theorem dX1_addLoco_45 : decode cX1_addLoco 45 = .ok (.iload_n 1, 1) := by decide +kernel
theorem dX1_addLoco_46 : decode cX1_addLoco 46 = .ok (.invokevirtual 68, 3) := by decide +kernel
theorem dX1_addLoco_49 : decode cX1_addLoco 49 = .ok (.aload_n 0, 1) := by decide +kernel
theorem dX1_addLoco_50 : decode cX1_addLoco 50 = .ok (.getfield 29, 3) := by decide +kernel
theorem dX1_addLoco_53 : decode cX1_addLoco 53 = .ok (.if_icmp .ge 6, 3) := by decide +kernel
theorem dX1_addLoco_56 : decode cX1_addLoco 56 = .ok (.bipush (-5), 2) := by decide +kernel
theorem dX1_addLoco_58 : decode cX1_addLoco 58 = .ok (.ireturn, 1) := by decide +kernel
theorem dX1_addLoco_59 : decode cX1_addLoco 59 = .ok (.aload_n 0, 1) := by decide +kernel
theorem dX1_addLoco_60 : decode cX1_addLoco 60 = .ok (.getfield 29, 3) := by decide +kernel
theorem dX1_addLoco_63 : decode cX1_addLoco 63 = .ok (.bipush 8, 2) := by decide +kernel
theorem dX1_addLoco_65 : decode cX1_addLoco 65 = .ok (.if_icmp .lt 6, 3) := by decide +kernel
theorem dX1_addLoco_68 : decode cX1_addLoco 68 = .ok (.bipush (-4), 2) := by decide +kernel
theorem dX1_addLoco_70 : decode cX1_addLoco 70 = .ok (.ireturn, 1) := by decide +kernel
theorem dX1_addLoco_71 : decode cX1_addLoco 71 = .ok (.aload_n 0, 1) := by decide +kernel
theorem dX1_addLoco_72 : decode cX1_addLoco 72 = .ok (.getfield 11, 3) := by decide +kernel
theorem dX1_addLoco_75 : decode cX1_addLoco 75 = .ok (.aload_n 0, 1) := by decide +kernel
theorem dX1_addLoco_76 : decode cX1_addLoco 76 = .ok (.getfield 29, 3) := by decide +kernel
theorem dX1_addLoco_79 : decode cX1_addLoco 79 = .ok (.aaload, 1) := by decide +kernel
theorem dX1_addLoco_80 : decode cX1_addLoco 80 = .ok (.astore 5, 2) := by decide +kernel
theorem dX1_addLoco_82 : decode cX1_addLoco 82 = .ok (.aload_n 0, 1) := by decide +kernel
theorem dX1_addLoco_83 : decode cX1_addLoco 83 = .ok (.getfield 29, 3) := by decide +kernel
theorem dX1_addLoco_86 : decode cX1_addLoco 86 = .ok (.istore 6, 2) := by decide +kernel
theorem dX1_addLoco_88 : decode cX1_addLoco 88 = .ok (.iload 6, 2) := by decide +kernel
theorem dX1_addLoco_90 : decode cX1_addLoco 90 = .ok (.ifCond .le 41, 3) := by decide +kernel
theorem dX1_addLoco_93 : decode cX1_addLoco 93 = .ok (.aload_n 0, 1) := by decide +kernel
theorem dX1_addLoco_94 : decode cX1_addLoco 94 = .ok (.getfield 11, 3) := by decide +kernel
theorem dX1_addLoco_97 : decode cX1_addLoco 97 = .ok (.iload 6, 2) := by decide +kernel
theorem dX1_addLoco_99 : decode cX1_addLoco 99 = .ok (.iconst 1, 1) := by decide +kernel
theorem dX1_addLoco_100 : decode cX1_addLoco 100 = .ok (.isub, 1) := by decide +kernel
theorem dX1_addLoco_101 : decode cX1_addLoco 101 = .ok (.aaload, 1) := by decide +kernel
theorem dX1_addLoco_102 : decode cX1_addLoco 102 = .ok (.getfield 76, 3) := by decide +kernel
theorem dX1_addLoco_105 : decode cX1_addLoco 105 = .ok (.iload_n 1, 1) := by decide +kernel
theorem dX1_addLoco_106 : decode cX1_addLoco 106 = .ok (.if_icmp .le 25, 3) := by decide +kernel
theorem dX1_addLoco_109 : decode cX1_addLoco 109 = .ok (.aload_n 0, 1) := by decide +kernel
theorem dX1_addLoco_110 : decode cX1_addLoco 110 = .ok (.getfield 11, 3) := by decide +kernel
theorem dX1_addLoco_113 : decode cX1_addLoco 113 = .ok (.iload 6, 2) := by decide +kernel
theorem dX1_addLoco_115 : decode cX1_addLoco 115 = .ok (.aload_n 0, 1) := by decide +kernel
theorem dX1_addLoco_116 : decode cX1_addLoco 116 = .ok (.getfield 11, 3) := by decide +kernel
theorem dX1_addLoco_119 : decode cX1_addLoco 119 = .ok (.iload 6, 2) := by decide +kernel
theorem dX1_addLoco_121 : decode cX1_addLoco 121 = .ok (.iconst 1, 1) := by decide +kernel
theorem dX1_addLoco_122 : decode cX1_addLoco 122 = .ok (.isub, 1) := by decide +kernel
theorem dX1_addLoco_123 : decode cX1_addLoco 123 = .ok (.aaload, 1) := by decide +kernel
theorem dX1_addLoco_124 : decode cX1_addLoco 124 = .ok (.aastore, 1) := by decide +kernel
theorem dX1_addLoco_125 : decode cX1_addLoco 125 = .ok (.iinc 6 (-1), 3) := by decide +kernel
theorem dX1_addLoco_128 : decode cX1_addLoco 128 = .ok (.goto (-40), 3) := by decide +kernel
theorem dX1_addLoco_131 : decode cX1_addLoco 131 = .ok (.aload_n 0, 1) := by decide +kernel
theorem dX1_addLoco_132 : decode cX1_addLoco 132 = .ok (.getfield 11, 3) := by decide +kernel
theorem dX1_addLoco_135 : decode cX1_addLoco 135 = .ok (.iload 6, 2) := by decide +kernel
theorem dX1_addLoco_137 : decode cX1_addLoco 137 = .ok (.aload 5, 2) := by decide +kernel
theorem dX1_addLoco_139 : decode cX1_addLoco 139 = .ok (.aastore, 1) := by decide +kernel
theorem dX1_addLoco_140 : decode cX1_addLoco 140 = .ok (.aload 5, 2) := by decide +kernel
theorem dX1_addLoco_142 : decode cX1_addLoco 142 = .ok (.iload_n 1, 1) := by decide +kernel
theorem dX1_addLoco_143 : decode cX1_addLoco 143 = .ok (.iload_n 2, 1) := by decide +kernel
theorem dX1_addLoco_144 : decode cX1_addLoco 144 = .ok (.iload_n 3, 1) := by decide +kernel
theorem dX1_addLoco_145 : decode cX1_addLoco 145 = .ok (.iload 4, 2) := by decide +kernel
theorem dX1_addLoco_147 : decode cX1_addLoco 147 = .ok (.invokevirtual 79, 3) := by decide +kernel
theorem dX1_addLoco_150 : decode cX1_addLoco 150 = .ok (.aload_n 0, 1) := by decide +kernel
theorem dX1_addLoco_151 : decode cX1_addLoco 151 = .ok (.dup, 1) := by decide +kernel
theorem dX1_addLoco_152 : decode cX1_addLoco 152 = .ok (.getfield 29, 3) := by decide +kernel
theorem dX1_addLoco_155 : decode cX1_addLoco 155 = .ok (.iconst 1, 1) := by decide +kernel
theorem dX1_addLoco_156 : decode cX1_addLoco 156 = .ok (.iadd, 1) := by decide +kernel
theorem dX1_addLoco_157 : decode cX1_addLoco 157 = .ok (.putfield 29, 3) := by decide +kernel
theorem dX1_addLoco_160 : decode cX1_addLoco 160 = .ok (.aload_n 0, 1) := by decide +kernel
theorem dX1_addLoco_161 : decode cX1_addLoco 161 = .ok (.getfield 29, 3) := by decide +kernel
theorem dX1_addLoco_164 : decode cX1_addLoco 164 = .ok (.ireturn, 1) := by decide +kernel
theorem dX1_removeLoco_0 : decode cX1_removeLoco 0 = .ok (.aload_n 0, 1) := by decide +kernel
theorem dX1_removeLoco_1 : decode cX1_removeLoco 1 = .ok (.iload_n 1, 1) := by decide +kernel
theorem dX1_removeLoco_2 : decode cX1_removeLoco 2 = .ok (.invokevirtual 68, 3) := by decide +kernel
theorem dX1_removeLoco_5 : decode cX1_removeLoco 5 = .ok (.istore_n 2, 1) := by decide +kernel
theorem dX1_removeLoco_6 : decode cX1_removeLoco 6 = .ok (.iload_n 2, 1) := by decide +kernel
theorem dX1_removeLoco_7 : decode cX1_removeLoco 7 = .ok (.aload_n 0, 1) := by decide +kernel
theorem dX1_removeLoco_8 : decode cX1_removeLoco 8 = .ok (.getfield 29, 3) := by decide +kernel
theorem dX1_removeLoco_11 : decode cX1_removeLoco 11 = .ok (.if_icmp .lt 5, 3) := by decide +kernel
theorem dX1_removeLoco_14 : decode cX1_removeLoco 14 = .ok (.iconst (-1), 1) := by decide +kernel
theorem dX1_removeLoco_15 : decode cX1_removeLoco 15 = .ok (.ireturn, 1) := by decide +kernel
theorem dX1_removeLoco_16 : decode cX1_removeLoco 16 = .ok (.aload_n 0, 1) := by decide +kernel
theorem dX1_removeLoco_17 : decode cX1_removeLoco 17 = .ok (.getfield 11, 3) := by decide +kernel
theorem dX1_removeLoco_20 : decode cX1_removeLoco 20 = .ok (.iload_n 2, 1) := by decide +kernel
theorem dX1_removeLoco_21 : decode cX1_removeLoco 21 = .ok (.aaload, 1) := by decide +kernel
theorem dX1_removeLoco_22 : decode cX1_removeLoco 22 = .ok (.astore_n 3, 1) := by decide +kernel
theorem dX1_removeLoco_23 : decode cX1_removeLoco 23 = .ok (.iload_n 2, 1) := by decide +kernel
theorem dX1_removeLoco_24 : decode cX1_removeLoco 24 = .ok (.iconst 1, 1) := by decide +kernel
theorem dX1_removeLoco_25 : decode cX1_removeLoco 25 = .ok (.iadd, 1) := by decide +kernel
theorem dX1_removeLoco_26 : decode cX1_removeLoco 26 = .ok (.istore 4, 2) := by decide +kernel
theorem dX1_removeLoco_28 : decode cX1_removeLoco 28 = .ok (.iload 4, 2) := by decide +kernel
theorem dX1_removeLoco_30 : decode cX1_removeLoco 30 = .ok (.aload_n 0, 1) := by decide +kernel
theorem dX1_removeLoco_31 : decode cX1_removeLoco 31 = .ok (.getfield 29, 3) := by decide +kernel
theorem dX1_removeLoco_34 : decode cX1_removeLoco 34 = .ok (.if_icmp .ge 25, 3) := by decide +kernel
theorem dX1_removeLoco_37 : decode cX1_removeLoco 37 = .ok (.aload_n 0, 1) := by decide +kernel
theorem dX1_removeLoco_38 : decode cX1_removeLoco 38 = .ok (.getfield 11, 3) := by decide +kernel
theorem dX1_removeLoco_41 : decode cX1_removeLoco 41 = .ok (.iload 4, 2) := by decide +kernel
theorem dX1_removeLoco_43 : decode cX1_removeLoco 43 = .ok (.iconst 1, 1) := by decide +kernel
theorem dX1_removeLoco_44 : decode cX1_removeLoco 44 = .ok (.isub, 1) := by decide +kernel
theorem dX1_removeLoco_45 : decode cX1_removeLoco 45 = .ok (.aload_n 0, 1) := by decide +kernel
theorem dX1_removeLoco_46 : decode cX1_removeLoco 46 = .ok (.getfield 11, 3) := by decide +kernel
theorem dX1_removeLoco_49 : decode cX1_removeLoco 49 = .ok (.iload 4, 2) := by decide +kernel
theorem dX1_removeLoco_51 : decode cX1_removeLoco 51 = .ok (.aaload, 1) := by decide +kernel
theorem dX1_removeLoco_52 : decode cX1_removeLoco 52 = .ok (.aastore, 1) := by decide +kernel
theorem dX1_removeLoco_53 : decode cX1_removeLoco 53 = .ok (.iinc 4 1, 3) := by decide +kernel
theorem dX1_removeLoco_56 : decode cX1_removeLoco 56 = .ok (.goto (-28), 3) := by decide +kernel
theorem dX1_removeLoco_59 : decode cX1_removeLoco 59 = .ok (.aload_n 0, 1) := by decide +kernel
theorem dX1_removeLoco_60 : decode cX1_removeLoco 60 = .ok (.dup, 1) := by decide +kernel
theorem dX1_removeLoco_61 : decode cX1_removeLoco 61 = .ok (.getfield 29, 3) := by decide +kernel
theorem dX1_removeLoco_64 : decode cX1_removeLoco 64 = .ok (.iconst 1, 1) := by decide +kernel
theorem dX1_removeLoco_65 : decode cX1_removeLoco 65 = .ok (.isub, 1) := by decide +kernel
theorem dX1_removeLoco_66 : decode cX1_removeLoco 66 = .ok (.putfield 29, 3) := by decide +kernel
theorem dX1_removeLoco_69 : decode cX1_removeLoco 69 = .ok (.aload_n 0, 1) := by decide +kernel
theorem dX1_removeLoco_70 : decode cX1_removeLoco 70 = .ok (.getfield 11, 3) := by decide +kernel
theorem dX1_removeLoco_73 : decode cX1_removeLoco 73 = .ok (.aload_n 0, 1) := by decide +kernel
theorem dX1_removeLoco_74 : decode cX1_removeLoco 74 = .ok (.getfield 29, 3) := by decide +kernel
theorem dX1_removeLoco_77 : decode cX1_removeLoco 77 = .ok (.aload_n 3, 1) := by decide +kernel
theorem dX1_removeLoco_78 : decode cX1_removeLoco 78 = .ok (.aastore, 1) := by decide +kernel
theorem dX1_removeLoco_79 : decode cX1_removeLoco 79 = .ok (.aload_n 0, 1) := by decide +kernel
theorem dX1_removeLoco_80 : decode cX1_removeLoco 80 = .ok (.getfield 29, 3) := by decide +kernel
theorem dX1_removeLoco_83 : decode cX1_removeLoco 83 = .ok (.ireturn, 1) := by decide +kernel
theorem dX1_changeNoise_0 : decode cX1_changeNoise 0 = .ok (.iload_n 1, 1) := by decide +kernel
theorem dX1_changeNoise_1 : decode cX1_changeNoise 1 = .ok (.iconst 0, 1) := by decide +kernel
theorem dX1_changeNoise_2 : decode cX1_changeNoise 2 = .ok (.bipush 9, 2) := by decide +kernel
theorem dX1_changeNoise_4 : decode cX1_changeNoise 4 = .ok (.invokestatic 64, 3) := by decide +kernel
theorem dX1_changeNoise_7 : decode cX1_changeNoise 7 = .ok (.ifCond .ne 6, 3) := by decide +kernel
theorem dX1_changeNoise_10 : decode cX1_changeNoise 10 = .ok (.bipush (-2), 2) := by decide +kernel
theorem dX1_changeNoise_12 : decode cX1_changeNoise 12 = .ok (.ireturn, 1) := by decide +kernel
theorem dX1_changeNoise_13 : decode cX1_changeNoise 13 = .ok (.aload_n 0, 1) := by decide +kernel
theorem dX1_changeNoise_14 : decode cX1_changeNoise 14 = .ok (.getfield 49, 3) := by decide +kernel
theorem dX1_changeNoise_17 : decode cX1_changeNoise 17 = .ok (.istore_n 2, 1) := by decide +kernel
theorem dX1_changeNoise_18 : decode cX1_changeNoise 18 = .ok (.aload_n 0, 1) := by decide +kernel
theorem dX1_changeNoise_19 : decode cX1_changeNoise 19 = .ok (.iload_n 1, 1) := by decide +kernel
theorem dX1_changeNoise_20 : decode cX1_changeNoise 20 = .ok (.putfield 49, 3) := by decide +kernel
theorem dX1_changeNoise_23 : decode cX1_changeNoise 23 = .ok (.iload_n 2, 1) := by decide +kernel
theorem dX1_changeNoise_24 : decode cX1_changeNoise 24 = .ok (.ireturn, 1) := by decide +kernel
theorem dX1_changeShort_0 : decode cX1_changeShort 0 = .ok (.iload_n 1, 1) := by decide +kernel
theorem dX1_changeShort_1 : decode cX1_changeShort 1 = .ok (.invokestatic 83, 3) := by decide +kernel
theorem dX1_changeShort_4 : decode cX1_changeShort 4 = .ok (.ifCond .ne 5, 3) := by decide +kernel
theorem dX1_changeShort_7 : decode cX1_changeShort 7 = .ok (.iconst (-1), 1) := by decide +kernel
theorem dX1_changeShort_8 : decode cX1_changeShort 8 = .ok (.ireturn, 1) := by decide +kernel
theorem dX1_changeShort_9 : decode cX1_changeShort 9 = .ok (.iload_n 2, 1) := by decide +kernel
theorem dX1_changeShort_10 : decode cX1_changeShort 10 = .ok (.iconst 0, 1) := by decide +kernel
theorem dX1_changeShort_11 : decode cX1_changeShort 11 = .ok (.bipush 99, 2) := by decide +kernel
theorem dX1_changeShort_13 : decode cX1_changeShort 13 = .ok (.invokestatic 64, 3) := by decide +kernel
theorem dX1_changeShort_16 : decode cX1_changeShort 16 = .ok (.ifCond .ne 6, 3) := by decide +kernel
theorem dX1_changeShort_19 : decode cX1_changeShort 19 = .ok (.bipush (-2), 2) := by decide +kernel
theorem dX1_changeShort_21 : decode cX1_changeShort 21 = .ok (.ireturn, 1) := by decide +kernel
theorem dX1_changeShort_22 : decode cX1_changeShort 22 = .ok (.aload_n 0, 1) := by decide +kernel
theorem dX1_changeShort_23 : decode cX1_changeShort 23 = .ok (.getfield 24, 3) := by decide +kernel
theorem dX1_changeShort_26 : decode cX1_changeShort 26 = .ok (.iload_n 1, 1) := by decide +kernel
theorem dX1_changeShort_27 : decode cX1_changeShort 27 = .ok (.iaload, 1) := by decide +kernel
theorem dX1_changeShort_28 : decode cX1_changeShort 28 = .ok (.istore_n 3, 1) := by decide +kernel
theorem dX1_changeShort_29 : decode cX1_changeShort 29 = .ok (.aload_n 0, 1) := by decide +kernel
theorem dX1_changeShort_30 : decode cX1_changeShort 30 = .ok (.getfield 24, 3) := by decide +kernel
theorem dX1_changeShort_33 : decode cX1_changeShort 33 = .ok (.iload_n 1, 1) := by decide +kernel
theorem dX1_changeShort_34 : decode cX1_changeShort 34 = .ok (.iload_n 2, 1) := by decide +kernel
theorem dX1_changeShort_35 : decode cX1_changeShort 35 = .ok (.iastore, 1) := by decide +kernel
theorem dX1_changeShort_36 : decode cX1_changeShort 36 = .ok (.iload_n 3, 1) := by decide +kernel
theorem dX1_changeShort_37 : decode cX1_changeShort 37 = .ok (.ireturn, 1) := by decide +kernel
theorem dX1_takeFrame_0 : decode cX1_takeFrame 0 = .ok (.iload_n 1, 1) := by decide +kernel
theorem dX1_takeFrame_1 : decode cX1_takeFrame 1 = .ok (.iconst 0, 1) := by decide +kernel
theorem dX1_takeFrame_2 : decode cX1_takeFrame 2 = .ok (.sipush 255, 3) := by decide +kernel
theorem dX1_takeFrame_5 : decode cX1_takeFrame 5 = .ok (.invokestatic 64, 3) := by decide +kernel
theorem dX1_takeFrame_8 : decode cX1_takeFrame 8 = .ok (.ifCond .eq 25, 3) := by decide +kernel
theorem dX1_takeFrame_11 : decode cX1_takeFrame 11 = .ok (.iload_n 2, 1) := by decide +kernel
theorem dX1_takeFrame_12 : decode cX1_takeFrame 12 = .ok (.iconst 0, 1) := by decide +kernel
theorem dX1_takeFrame_13 : decode cX1_takeFrame 13 = .ok (.sipush 255, 3) := by decide +kernel
theorem dX1_takeFrame_16 : decode cX1_takeFrame 16 = .ok (.invokestatic 64, 3) := by decide +kernel
theorem dX1_takeFrame_19 : decode cX1_takeFrame 19 = .ok (.ifCond .eq 14, 3) := by decide +kernel
theorem dX1_takeFrame_22 : decode cX1_takeFrame 22 = .ok (.iload_n 3, 1) := by decide +kernel
theorem dX1_takeFrame_23 : decode cX1_takeFrame 23 = .ok (.iconst 0, 1) := by decide +kernel
theorem dX1_takeFrame_24 : decode cX1_takeFrame 24 = .ok (.sipush 255, 3) := by decide +kernel
theorem dX1_takeFrame_27 : decode cX1_takeFrame 27 = .ok (.invokestatic 64, 3) := by decide +kernel
theorem dX1_takeFrame_30 : decode cX1_takeFrame 30 = .ok (.ifCond .ne 6, 3) := by decide +kernel
theorem dX1_takeFrame_33 : decode cX1_takeFrame 33 = .ok (.bipush (-2), 2) := by decide +kernel
theorem dX1_takeFrame_35 : decode cX1_takeFrame 35 = .ok (.ireturn, 1) := by decide +kernel
theorem dX1_takeFrame_36 : decode cX1_takeFrame 36 = .ok (.aload_n 0, 1) := by decide +kernel
theorem dX1_takeFrame_37 : decode cX1_takeFrame 37 = .ok (.dup, 1) := by decide +kernel
theorem dX1_takeFrame_38 : decode cX1_takeFrame 38 = .ok (.getfield 55, 3) := by decide +kernel
theorem dX1_takeFrame_41 : decode cX1_takeFrame 41 = .ok (.iconst 1, 1) := by decide +kernel
theorem dX1_takeFrame_42 : decode cX1_takeFrame 42 = .ok (.iadd, 1) := by decide +kernel
theorem dX1_takeFrame_43 : decode cX1_takeFrame 43 = .ok (.putfield 55, 3) := by decide +kernel
theorem dX1_takeFrame_46 : decode cX1_takeFrame 46 = .ok (.iload_n 3, 1) := by decide +kernel
theorem dX1_takeFrame_47 : decode cX1_takeFrame 47 = .ok (.iload_n 1, 1) := by decide +kernel
theorem dX1_takeFrame_48 : decode cX1_takeFrame 48 = .ok (.iload_n 2, 1) := by decide +kernel
theorem dX1_takeFrame_49 : decode cX1_takeFrame 49 = .ok (.ixor, 1) := by decide +kernel
theorem dX1_takeFrame_50 : decode cX1_takeFrame 50 = .ok (.if_icmp .eq 15, 3) := by decide +kernel
theorem dX1_takeFrame_53 : decode cX1_takeFrame 53 = .ok (.aload_n 0, 1) := by decide +kernel
theorem dX1_takeFrame_54 : decode cX1_takeFrame 54 = .ok (.dup, 1) := by decide +kernel
theorem dX1_takeFrame_55 : decode cX1_takeFrame 55 = .ok (.getfield 58, 3) := by decide +kernel
theorem dX1_takeFrame_58 : decode cX1_takeFrame 58 = .ok (.iconst 1, 1) := by decide +kernel
theorem dX1_takeFrame_59 : decode cX1_takeFrame 59 = .ok (.iadd, 1) := by decide +kernel
theorem dX1_takeFrame_60 : decode cX1_takeFrame 60 = .ok (.putfield 58, 3) := by decide +kernel
theorem dX1_takeFrame_63 : decode cX1_takeFrame 63 = .ok (.iconst 0, 1) := by decide +kernel
theorem dX1_takeFrame_64 : decode cX1_takeFrame 64 = .ok (.ireturn, 1) := by decide +kernel
theorem dX1_takeFrame_65 : decode cX1_takeFrame 65 = .ok (.iconst 0, 1) := by decide +kernel
theorem dX1_takeFrame_66 : decode cX1_takeFrame 66 = .ok (.istore 4, 2) := by decide +kernel
theorem dX1_takeFrame_68 : decode cX1_takeFrame 68 = .ok (.iconst 0, 1) := by decide +kernel
theorem dX1_takeFrame_69 : decode cX1_takeFrame 69 = .ok (.istore 5, 2) := by decide +kernel
theorem dX1_takeFrame_71 : decode cX1_takeFrame 71 = .ok (.iload 5, 2) := by decide +kernel
theorem dX1_takeFrame_73 : decode cX1_takeFrame 73 = .ok (.aload_n 0, 1) := by decide +kernel
theorem dX1_takeFrame_74 : decode cX1_takeFrame 74 = .ok (.getfield 29, 3) := by decide +kernel
theorem dX1_takeFrame_77 : decode cX1_takeFrame 77 = .ok (.if_icmp .ge 52, 3) := by decide +kernel
theorem dX1_takeFrame_80 : decode cX1_takeFrame 80 = .ok (.aload_n 0, 1) := by decide +kernel
theorem dX1_takeFrame_81 : decode cX1_takeFrame 81 = .ok (.getfield 11, 3) := by decide +kernel
theorem dX1_takeFrame_84 : decode cX1_takeFrame 84 = .ok (.iload 5, 2) := by decide +kernel
theorem dX1_takeFrame_86 : decode cX1_takeFrame 86 = .ok (.aaload, 1) := by decide +kernel
theorem dX1_takeFrame_87 : decode cX1_takeFrame 87 = .ok (.astore 6, 2) := by decide +kernel
theorem dX1_takeFrame_89 : decode cX1_takeFrame 89 = .ok (.iload_n 1, 1) := by decide +kernel
theorem dX1_takeFrame_90 : decode cX1_takeFrame 90 = .ok (.ifCond .eq 12, 3) := by decide +kernel
theorem dX1_takeFrame_93 : decode cX1_takeFrame 93 = .ok (.iload_n 1, 1) := by decide +kernel
theorem dX1_takeFrame_94 : decode cX1_takeFrame 94 = .ok (.aload 6, 2) := by decide +kernel
theorem dX1_takeFrame_96 : decode cX1_takeFrame 96 = .ok (.getfield 76, 3) := by decide +kernel
theorem dX1_takeFrame_99 : decode cX1_takeFrame 99 = .ok (.if_icmp .ne 24, 3) := by decide +kernel
theorem dX1_takeFrame_102 : decode cX1_takeFrame 102 = .ok (.aload_n 0, 1) := by decide +kernel
theorem dX1_takeFrame_103 : decode cX1_takeFrame 103 = .ok (.aload 6, 2) := by decide +kernel
theorem dX1_takeFrame_105 : decode cX1_takeFrame 105 = .ok (.invokevirtual 87, 3) := by decide +kernel
theorem dX1_takeFrame_108 : decode cX1_takeFrame 108 = .ok (.invokevirtual 91, 3) := by decide +kernel
theorem dX1_takeFrame_111 : decode cX1_takeFrame 111 = .ok (.ifCond .ne 12, 3) := by decide +kernel
theorem dX1_takeFrame_114 : decode cX1_takeFrame 114 = .ok (.aload 6, 2) := by decide +kernel
theorem dX1_takeFrame_116 : decode cX1_takeFrame 116 = .ok (.iload_n 2, 1) := by decide +kernel
theorem dX1_takeFrame_117 : decode cX1_takeFrame 117 = .ok (.invokevirtual 94, 3) := by decide +kernel
theorem dX1_takeFrame_120 : decode cX1_takeFrame 120 = .ok (.iinc 4 1, 3) := by decide +kernel
theorem dX1_takeFrame_123 : decode cX1_takeFrame 123 = .ok (.iinc 5 1, 3) := by decide +kernel
theorem dX1_takeFrame_126 : decode cX1_takeFrame 126 = .ok (.goto (-55), 3) := by decide +kernel
theorem dX1_takeFrame_129 : decode cX1_takeFrame 129 = .ok (.iload 4, 2) := by decide +kernel
theorem dX1_takeFrame_131 : decode cX1_takeFrame 131 = .ok (.ireturn, 1) := by decide +kernel
theorem dX1_takeTicks_0 : decode cX1_takeTicks 0 = .ok (.iload_n 1, 1) := by decide +kernel
theorem dX1_takeTicks_1 : decode cX1_takeTicks 1 = .ok (.iconst 1, 1) := by decide +kernel
theorem dX1_takeTicks_2 : decode cX1_takeTicks 2 = .ok (.bipush 99, 2) := by decide +kernel
theorem dX1_takeTicks_4 : decode cX1_takeTicks 4 = .ok (.invokestatic 64, 3) := by decide +kernel
theorem dX1_takeTicks_7 : decode cX1_takeTicks 7 = .ok (.ifCond .ne 6, 3) := by decide +kernel
theorem dX1_takeTicks_10 : decode cX1_takeTicks 10 = .ok (.bipush (-2), 2) := by decide +kernel
theorem dX1_takeTicks_12 : decode cX1_takeTicks 12 = .ok (.ireturn, 1) := by decide +kernel
theorem dX1_takeTicks_13 : decode cX1_takeTicks 13 = .ok (.aload_n 0, 1) := by decide +kernel
theorem dX1_takeTicks_14 : decode cX1_takeTicks 14 = .ok (.getfield 46, 3) := by decide +kernel
theorem dX1_takeTicks_17 : decode cX1_takeTicks 17 = .ok (.iload_n 1, 1) := by decide +kernel
theorem dX1_takeTicks_18 : decode cX1_takeTicks 18 = .ok (.iadd, 1) := by decide +kernel
theorem dX1_takeTicks_19 : decode cX1_takeTicks 19 = .ok (.ldc 98, 2) := by decide +kernel
theorem dX1_takeTicks_21 : decode cX1_takeTicks 21 = .ok (.if_icmp .le 6, 3) := by decide +kernel
theorem dX1_takeTicks_24 : decode cX1_takeTicks 24 = .ok (.bipush (-5), 2) := by decide +kernel
theorem dX1_takeTicks_26 : decode cX1_takeTicks 26 = .ok (.ireturn, 1) := by decide +kernel
theorem dX1_takeTicks_27 : decode cX1_takeTicks 27 = .ok (.iconst 0, 1) := by decide +kernel
theorem dX1_takeTicks_28 : decode cX1_takeTicks 28 = .ok (.istore_n 2, 1) := by decide +kernel
theorem dX1_takeTicks_29 : decode cX1_takeTicks 29 = .ok (.iconst 0, 1) := by decide +kernel
theorem dX1_takeTicks_30 : decode cX1_takeTicks 30 = .ok (.istore_n 3, 1) := by decide +kernel
theorem dX1_takeTicks_31 : decode cX1_takeTicks 31 = .ok (.iload_n 3, 1) := by decide +kernel
theorem dX1_takeTicks_32 : decode cX1_takeTicks 32 = .ok (.iload_n 1, 1) := by decide +kernel
theorem dX1_takeTicks_33 : decode cX1_takeTicks 33 = .ok (.if_icmp .ge 16, 3) := by decide +kernel
theorem dX1_takeTicks_36 : decode cX1_takeTicks 36 = .ok (.iload_n 2, 1) := by decide +kernel
theorem dX1_takeTicks_37 : decode cX1_takeTicks 37 = .ok (.aload_n 0, 1) := by decide +kernel
theorem dX1_takeTicks_38 : decode cX1_takeTicks 38 = .ok (.invokevirtual 99, 3) := by decide +kernel
theorem dX1_takeTicks_41 : decode cX1_takeTicks 41 = .ok (.iadd, 1) := by decide +kernel
theorem dX1_takeTicks_42 : decode cX1_takeTicks 42 = .ok (.istore_n 2, 1) := by decide +kernel
theorem dX1_takeTicks_43 : decode cX1_takeTicks 43 = .ok (.iinc 3 1, 3) := by decide +kernel
theorem dX1_takeTicks_46 : decode cX1_takeTicks 46 = .ok (.goto (-15), 3) := by decide +kernel
theorem dX1_takeTicks_49 : decode cX1_takeTicks 49 = .ok (.iload_n 2, 1) := by decide +kernel
theorem dX1_takeTicks_50 : decode cX1_takeTicks 50 = .ok (.ireturn, 1) := by decide +kernel
theorem dX1_tick_0 : decode cX1_tick 0 = .ok (.aload_n 0, 1) := by decide +kernel
theorem dX1_tick_1 : decode cX1_tick 1 = .ok (.invokevirtual 102, 3) := by decide +kernel
theorem dX1_tick_4 : decode cX1_tick 4 = .ok (.istore_n 1, 1) := by decide +kernel
theorem dX1_tick_5 : decode cX1_tick 5 = .ok (.iconst 0, 1) := by decide +kernel
theorem dX1_tick_6 : decode cX1_tick 6 = .ok (.istore_n 2, 1) := by decide +kernel
theorem dX1_tick_7 : decode cX1_tick 7 = .ok (.iload_n 2, 1) := by decide +kernel
theorem dX1_tick_8 : decode cX1_tick 8 = .ok (.aload_n 0, 1) := by decide +kernel
theorem dX1_tick_9 : decode cX1_tick 9 = .ok (.getfield 29, 3) := by decide +kernel
theorem dX1_tick_12 : decode cX1_tick 12 = .ok (.if_icmp .ge 43, 3) := by decide +kernel
theorem dX1_tick_15 : decode cX1_tick 15 = .ok (.aload_n 0, 1) := by decide +kernel
theorem dX1_tick_16 : decode cX1_tick 16 = .ok (.getfield 11, 3) := by decide +kernel
theorem dX1_tick_19 : decode cX1_tick 19 = .ok (.iload_n 2, 1) := by decide +kernel
theorem dX1_tick_20 : decode cX1_tick 20 = .ok (.aaload, 1) := by decide +kernel
theorem dX1_tick_21 : decode cX1_tick 21 = .ok (.astore_n 3, 1) := by decide +kernel
theorem dX1_tick_22 : decode cX1_tick 22 = .ok (.aload_n 0, 1) := by decide +kernel
theorem dX1_tick_23 : decode cX1_tick 23 = .ok (.aload_n 3, 1) := by decide +kernel
theorem dX1_tick_24 : decode cX1_tick 24 = .ok (.invokevirtual 87, 3) := by decide +kernel
theorem dX1_tick_27 : decode cX1_tick 27 = .ok (.invokevirtual 91, 3) := by decide +kernel
theorem dX1_tick_30 : decode cX1_tick 30 = .ok (.ifCond .eq 11, 3) := by decide +kernel
theorem dX1_tick_33 : decode cX1_tick 33 = .ok (.aload_n 3, 1) := by decide +kernel
theorem dX1_tick_34 : decode cX1_tick 34 = .ok (.iconst 0, 1) := by decide +kernel
theorem dX1_tick_35 : decode cX1_tick 35 = .ok (.putfield 105, 3) := by decide +kernel
theorem dX1_tick_38 : decode cX1_tick 38 = .ok (.goto 7, 3) := by decide +kernel
theorem dX1_tick_41 : decode cX1_tick 41 = .ok (.aload_n 3, 1) := by decide +kernel
theorem dX1_tick_42 : decode cX1_tick 42 = .ok (.invokevirtual 108, 3) := by decide +kernel
theorem dX1_tick_45 : decode cX1_tick 45 = .ok (.aload_n 3, 1) := by decide +kernel
theorem dX1_tick_46 : decode cX1_tick 46 = .ok (.invokevirtual 111, 3) := by decide +kernel
theorem dX1_tick_49 : decode cX1_tick 49 = .ok (.iinc 2 1, 3) := by decide +kernel
theorem dX1_tick_52 : decode cX1_tick 52 = .ok (.goto (-45), 3) := by decide +kernel
theorem dX1_tick_55 : decode cX1_tick 55 = .ok (.iconst 0, 1) := by decide +kernel
theorem dX1_tick_56 : decode cX1_tick 56 = .ok (.istore_n 2, 1) := by decide +kernel
theorem dX1_tick_57 : decode cX1_tick 57 = .ok (.iload_n 2, 1) := by decide +kernel
theorem dX1_tick_58 : decode cX1_tick 58 = .ok (.bipush 8, 2) := by decide +kernel
theorem dX1_tick_60 : decode cX1_tick 60 = .ok (.if_icmp .ge 27, 3) := by decide +kernel
theorem dX1_tick_63 : decode cX1_tick 63 = .ok (.aload_n 0, 1) := by decide +kernel
theorem dX1_tick_64 : decode cX1_tick 64 = .ok (.getfield 24, 3) := by decide +kernel
theorem dX1_tick_67 : decode cX1_tick 67 = .ok (.iload_n 2, 1) := by decide +kernel
theorem dX1_tick_68 : decode cX1_tick 68 = .ok (.iconst 0, 1) := by decide +kernel
theorem dX1_tick_69 : decode cX1_tick 69 = .ok (.aload_n 0, 1) := by decide +kernel
theorem dX1_tick_70 : decode cX1_tick 70 = .ok (.getfield 24, 3) := by decide +kernel
theorem dX1_tick_73 : decode cX1_tick 73 = .ok (.iload_n 2, 1) := by decide +kernel
theorem dX1_tick_74 : decode cX1_tick 74 = .ok (.iaload, 1) := by decide +kernel
theorem dX1_tick_75 : decode cX1_tick 75 = .ok (.iconst 1, 1) := by decide +kernel
theorem dX1_tick_76 : decode cX1_tick 76 = .ok (.isub, 1) := by decide +kernel
theorem dX1_tick_77 : decode cX1_tick 77 = .ok (.invokestatic 114, 3) := by decide +kernel
theorem dX1_tick_80 : decode cX1_tick 80 = .ok (.iastore, 1) := by decide +kernel
theorem dX1_tick_81 : decode cX1_tick 81 = .ok (.iinc 2 1, 3) := by decide +kernel
theorem dX1_tick_84 : decode cX1_tick 84 = .ok (.goto (-27), 3) := by decide +kernel
theorem dX1_tick_87 : decode cX1_tick 87 = .ok (.aload_n 0, 1) := by decide +kernel
theorem dX1_tick_88 : decode cX1_tick 88 = .ok (.dup, 1) := by decide +kernel
theorem dX1_tick_89 : decode cX1_tick 89 = .ok (.getfield 46, 3) := by decide +kernel
theorem dX1_tick_92 : decode cX1_tick 92 = .ok (.iconst 1, 1) := by decide +kernel
theorem dX1_tick_93 : decode cX1_tick 93 = .ok (.iadd, 1) := by decide +kernel
theorem dX1_tick_94 : decode cX1_tick 94 = .ok (.putfield 46, 3) := by decide +kernel
theorem dX1_tick_97 : decode cX1_tick 97 = .ok (.iload_n 1, 1) := by decide +kernel
theorem dX1_tick_98 : decode cX1_tick 98 = .ok (.ireturn, 1) := by decide +kernel
theorem dX1_sendFirst_0 : decode cX1_sendFirst 0 = .ok (.aload_n 0, 1) := by decide +kernel
theorem dX1_sendFirst_1 : decode cX1_sendFirst 1 = .ok (.getfield 20, 3) := by decide +kernel
theorem dX1_sendFirst_4 : decode cX1_sendFirst 4 = .ok (.getfield 120, 3) := by decide +kernel
theorem dX1_sendFirst_7 : decode cX1_sendFirst 7 = .ok (.iconst 1, 1) := by decide +kernel
theorem dX1_sendFirst_8 : decode cX1_sendFirst 8 = .ok (.if_icmp .ge 5, 3) := by decide +kernel
theorem dX1_sendFirst_11 : decode cX1_sendFirst 11 = .ok (.iconst 0, 1) := by decide +kernel
theorem dX1_sendFirst_12 : decode cX1_sendFirst 12 = .ok (.ireturn, 1) := by decide +kernel
theorem dX1_sendFirst_13 : decode cX1_sendFirst 13 = .ok (.aload_n 0, 1) := by decide +kernel
theorem dX1_sendFirst_14 : decode cX1_sendFirst 14 = .ok (.getfield 20, 3) := by decide +kernel
theorem dX1_sendFirst_17 : decode cX1_sendFirst 17 = .ok (.getfield 123, 3) := by decide +kernel
theorem dX1_sendFirst_20 : decode cX1_sendFirst 20 = .ok (.iconst 0, 1) := by decide +kernel
theorem dX1_sendFirst_21 : decode cX1_sendFirst 21 = .ok (.iaload, 1) := by decide +kernel
theorem dX1_sendFirst_22 : decode cX1_sendFirst 22 = .ok (.istore_n 1, 1) := by decide +kernel
theorem dX1_sendFirst_23 : decode cX1_sendFirst 23 = .ok (.aload_n 0, 1) := by decide +kernel
theorem dX1_sendFirst_24 : decode cX1_sendFirst 24 = .ok (.getfield 20, 3) := by decide +kernel
theorem dX1_sendFirst_27 : decode cX1_sendFirst 27 = .ok (.getfield 126, 3) := by decide +kernel
theorem dX1_sendFirst_30 : decode cX1_sendFirst 30 = .ok (.iconst 0, 1) := by decide +kernel
theorem dX1_sendFirst_31 : decode cX1_sendFirst 31 = .ok (.iaload, 1) := by decide +kernel
theorem dX1_sendFirst_32 : decode cX1_sendFirst 32 = .ok (.istore_n 2, 1) := by decide +kernel
theorem dX1_sendFirst_33 : decode cX1_sendFirst 33 = .ok (.iload_n 1, 1) := by decide +kernel
theorem dX1_sendFirst_34 : decode cX1_sendFirst 34 = .ok (.iload_n 2, 1) := by decide +kernel
theorem dX1_sendFirst_35 : decode cX1_sendFirst 35 = .ok (.ixor, 1) := by decide +kernel
theorem dX1_sendFirst_36 : decode cX1_sendFirst 36 = .ok (.istore_n 3, 1) := by decide +kernel
theorem dX1_sendFirst_37 : decode cX1_sendFirst 37 = .ok (.aload_n 0, 1) := by decide +kernel
theorem dX1_sendFirst_38 : decode cX1_sendFirst 38 = .ok (.getfield 20, 3) := by decide +kernel
theorem dX1_sendFirst_41 : decode cX1_sendFirst 41 = .ok (.invokevirtual 129, 3) := by decide +kernel
theorem dX1_sendFirst_44 : decode cX1_sendFirst 44 = .ok (.aload_n 0, 1) := by decide +kernel
theorem dX1_sendFirst_45 : decode cX1_sendFirst 45 = .ok (.getfield 49, 3) := by decide +kernel
theorem dX1_sendFirst_48 : decode cX1_sendFirst 48 = .ok (.ifCond .le 45, 3) := by decide +kernel
theorem dX1_sendFirst_51 : decode cX1_sendFirst 51 = .ok (.aload_n 0, 1) := by decide +kernel
theorem dX1_sendFirst_52 : decode cX1_sendFirst 52 = .ok (.getfield 46, 3) := by decide +kernel
theorem dX1_sendFirst_55 : decode cX1_sendFirst 55 = .ok (.aload_n 0, 1) := by decide +kernel
theorem dX1_sendFirst_56 : decode cX1_sendFirst 56 = .ok (.getfield 52, 3) := by decide +kernel
theorem dX1_sendFirst_59 : decode cX1_sendFirst 59 = .ok (.isub, 1) := by decide +kernel
theorem dX1_sendFirst_60 : decode cX1_sendFirst 60 = .ok (.aload_n 0, 1) := by decide +kernel
theorem dX1_sendFirst_61 : decode cX1_sendFirst 61 = .ok (.getfield 49, 3) := by decide +kernel
theorem dX1_sendFirst_64 : decode cX1_sendFirst 64 = .ok (.if_icmp .lt 29, 3) := by decide +kernel
theorem dX1_sendFirst_67 : decode cX1_sendFirst 67 = .ok (.iload_n 3, 1) := by decide +kernel
theorem dX1_sendFirst_68 : decode cX1_sendFirst 68 = .ok (.iconst 1, 1) := by decide +kernel
theorem dX1_sendFirst_69 : decode cX1_sendFirst 69 = .ok (.iadd, 1) := by decide +kernel
theorem dX1_sendFirst_70 : decode cX1_sendFirst 70 = .ok (.sipush 256, 3) := by decide +kernel
theorem dX1_sendFirst_73 : decode cX1_sendFirst 73 = .ok (.irem, 1) := by decide +kernel
theorem dX1_sendFirst_74 : decode cX1_sendFirst 74 = .ok (.istore_n 3, 1) := by decide +kernel
theorem dX1_sendFirst_75 : decode cX1_sendFirst 75 = .ok (.aload_n 0, 1) := by decide +kernel
theorem dX1_sendFirst_76 : decode cX1_sendFirst 76 = .ok (.aload_n 0, 1) := by decide +kernel
theorem dX1_sendFirst_77 : decode cX1_sendFirst 77 = .ok (.getfield 46, 3) := by decide +kernel
theorem dX1_sendFirst_80 : decode cX1_sendFirst 80 = .ok (.putfield 52, 3) := by decide +kernel
theorem dX1_sendFirst_83 : decode cX1_sendFirst 83 = .ok (.aload_n 0, 1) := by decide +kernel
theorem dX1_sendFirst_84 : decode cX1_sendFirst 84 = .ok (.dup, 1) := by decide +kernel
theorem dX1_sendFirst_85 : decode cX1_sendFirst 85 = .ok (.getfield 61, 3) := by decide +kernel
theorem dX1_sendFirst_88 : decode cX1_sendFirst 88 = .ok (.iconst 1, 1) := by decide +kernel
theorem dX1_sendFirst_89 : decode cX1_sendFirst 89 = .ok (.iadd, 1) := by decide +kernel
theorem dX1_sendFirst_90 : decode cX1_sendFirst 90 = .ok (.putfield 61, 3) := by decide +kernel
theorem dX1_sendFirst_93 : decode cX1_sendFirst 93 = .ok (.aload_n 0, 1) := by decide +kernel
theorem dX1_sendFirst_94 : decode cX1_sendFirst 94 = .ok (.iload_n 1, 1) := by decide +kernel
theorem dX1_sendFirst_95 : decode cX1_sendFirst 95 = .ok (.iload_n 2, 1) := by decide +kernel
theorem dX1_sendFirst_96 : decode cX1_sendFirst 96 = .ok (.iload_n 3, 1) := by decide +kernel
theorem dX1_sendFirst_97 : decode cX1_sendFirst 97 = .ok (.invokevirtual 132, 3) := by decide +kernel
theorem dX1_sendFirst_100 : decode cX1_sendFirst 100 = .ok (.pop, 1) := by decide +kernel
theorem dX1_sendFirst_101 : decode cX1_sendFirst 101 = .ok (.iconst 1, 1) := by decide +kernel
theorem dX1_sendFirst_102 : decode cX1_sendFirst 102 = .ok (.ireturn, 1) := by decide +kernel
theorem dX1_isShorted_0 : decode cX1_isShorted 0 = .ok (.iload_n 1, 1) := by decide +kernel
theorem dX1_isShorted_1 : decode cX1_isShorted 1 = .ok (.ifCond .lt 22, 3) := by decide +kernel
theorem dX1_isShorted_4 : decode cX1_isShorted 4 = .ok (.iload_n 1, 1) := by decide +kernel
theorem dX1_isShorted_5 : decode cX1_isShorted 5 = .ok (.bipush 8, 2) := by decide +kernel
theorem dX1_isShorted_7 : decode cX1_isShorted 7 = .ok (.if_icmp .ge 16, 3) := by decide +kernel
theorem dX1_isShorted_10 : decode cX1_isShorted 10 = .ok (.aload_n 0, 1) := by decide +kernel
theorem dX1_isShorted_11 : decode cX1_isShorted 11 = .ok (.getfield 24, 3) := by decide +kernel
theorem dX1_isShorted_14 : decode cX1_isShorted 14 = .ok (.iload_n 1, 1) := by decide +kernel
theorem dX1_isShorted_15 : decode cX1_isShorted 15 = .ok (.iaload, 1) := by decide +kernel
theorem dX1_isShorted_16 : decode cX1_isShorted 16 = .ok (.ifCond .le 7, 3) := by decide +kernel
theorem dX1_isShorted_19 : decode cX1_isShorted 19 = .ok (.iconst 1, 1) := by decide +kernel
theorem dX1_isShorted_20 : decode cX1_isShorted 20 = .ok (.goto 4, 3) := by decide +kernel
theorem dX1_isShorted_23 : decode cX1_isShorted 23 = .ok (.iconst 0, 1) := by decide +kernel
theorem dX1_isShorted_24 : decode cX1_isShorted 24 = .ok (.ireturn, 1) := by decide +kernel
theorem dX1_locosIn_0 : decode cX1_locosIn 0 = .ok (.iconst 0, 1) := by decide +kernel
theorem dX1_locosIn_1 : decode cX1_locosIn 1 = .ok (.istore_n 2, 1) := by decide +kernel
theorem dX1_locosIn_2 : decode cX1_locosIn 2 = .ok (.iconst 0, 1) := by decide +kernel
theorem dX1_locosIn_3 : decode cX1_locosIn 3 = .ok (.istore_n 3, 1) := by decide +kernel
theorem dX1_locosIn_4 : decode cX1_locosIn 4 = .ok (.iload_n 3, 1) := by decide +kernel
theorem dX1_locosIn_5 : decode cX1_locosIn 5 = .ok (.aload_n 0, 1) := by decide +kernel
theorem dX1_locosIn_6 : decode cX1_locosIn 6 = .ok (.getfield 29, 3) := by decide +kernel
theorem dX1_locosIn_9 : decode cX1_locosIn 9 = .ok (.if_icmp .ge 25, 3) := by decide +kernel
theorem dX1_locosIn_12 : decode cX1_locosIn 12 = .ok (.aload_n 0, 1) := by decide +kernel
theorem dX1_locosIn_13 : decode cX1_locosIn 13 = .ok (.getfield 11, 3) := by decide +kernel
theorem dX1_locosIn_16 : decode cX1_locosIn 16 = .ok (.iload_n 3, 1) := by decide +kernel
theorem dX1_locosIn_17 : decode cX1_locosIn 17 = .ok (.aaload, 1) := by decide +kernel
theorem dX1_locosIn_18 : decode cX1_locosIn 18 = .ok (.invokevirtual 87, 3) := by decide +kernel
theorem dX1_locosIn_21 : decode cX1_locosIn 21 = .ok (.iload_n 1, 1) := by decide +kernel
theorem dX1_locosIn_22 : decode cX1_locosIn 22 = .ok (.if_icmp .ne 6, 3) := by decide +kernel
theorem dX1_locosIn_25 : decode cX1_locosIn 25 = .ok (.iinc 2 1, 3) := by decide +kernel
theorem dX1_locosIn_28 : decode cX1_locosIn 28 = .ok (.iinc 3 1, 3) := by decide +kernel
theorem dX1_locosIn_31 : decode cX1_locosIn 31 = .ok (.goto (-27), 3) := by decide +kernel
theorem dX1_locosIn_34 : decode cX1_locosIn 34 = .ok (.iload_n 2, 1) := by decide +kernel
theorem dX1_locosIn_35 : decode cX1_locosIn 35 = .ok (.ireturn, 1) := by decide +kernel
theorem dX1_blocksWithShort_0 : decode cX1_blocksWithShort 0 = .ok (.iconst 0, 1) := by decide +kernel
theorem dX1_blocksWithShort_1 : decode cX1_blocksWithShort 1 = .ok (.istore_n 1, 1) := by decide +kernel
theorem dX1_blocksWithShort_2 : decode cX1_blocksWithShort 2 = .ok (.iconst 0, 1) := by decide +kernel
theorem dX1_blocksWithShort_3 : decode cX1_blocksWithShort 3 = .ok (.istore_n 2, 1) := by decide +kernel
theorem dX1_blocksWithShort_4 : decode cX1_blocksWithShort 4 = .ok (.iload_n 2, 1) := by decide +kernel
theorem dX1_blocksWithShort_5 : decode cX1_blocksWithShort 5 = .ok (.bipush 8, 2) := by decide +kernel
theorem dX1_blocksWithShort_7 : decode cX1_blocksWithShort 7 = .ok (.if_icmp .ge 21, 3) := by decide +kernel
theorem dX1_blocksWithShort_10 : decode cX1_blocksWithShort 10 = .ok (.aload_n 0, 1) := by decide +kernel
theorem dX1_blocksWithShort_11 : decode cX1_blocksWithShort 11 = .ok (.getfield 24, 3) := by decide +kernel
theorem dX1_blocksWithShort_14 : decode cX1_blocksWithShort 14 = .ok (.iload_n 2, 1) := by decide +kernel
theorem dX1_blocksWithShort_15 : decode cX1_blocksWithShort 15 = .ok (.iaload, 1) := by decide +kernel
theorem dX1_blocksWithShort_16 : decode cX1_blocksWithShort 16 = .ok (.ifCond .le 6, 3) := by decide +kernel
theorem dX1_blocksWithShort_19 : decode cX1_blocksWithShort 19 = .ok (.iinc 1 1, 3) := by decide +kernel
theorem dX1_blocksWithShort_22 : decode cX1_blocksWithShort 22 = .ok (.iinc 2 1, 3) := by decide +kernel
theorem dX1_blocksWithShort_25 : decode cX1_blocksWithShort 25 = .ok (.goto (-21), 3) := by decide +kernel
theorem dX1_blocksWithShort_28 : decode cX1_blocksWithShort 28 = .ok (.iload_n 1, 1) := by decide +kernel
theorem dX1_blocksWithShort_29 : decode cX1_blocksWithShort 29 = .ok (.ireturn, 1) := by decide +kernel
theorem dX1_crowdedBlocks_0 : decode cX1_crowdedBlocks 0 = .ok (.iconst 0, 1) := by decide +kernel
theorem dX1_crowdedBlocks_1 : decode cX1_crowdedBlocks 1 = .ok (.istore_n 1, 1) := by decide +kernel
theorem dX1_crowdedBlocks_2 : decode cX1_crowdedBlocks 2 = .ok (.iconst 0, 1) := by decide +kernel
theorem dX1_crowdedBlocks_3 : decode cX1_crowdedBlocks 3 = .ok (.istore_n 2, 1) := by decide +kernel
theorem dX1_crowdedBlocks_4 : decode cX1_crowdedBlocks 4 = .ok (.iload_n 2, 1) := by decide +kernel
theorem dX1_crowdedBlocks_5 : decode cX1_crowdedBlocks 5 = .ok (.bipush 8, 2) := by decide +kernel
theorem dX1_crowdedBlocks_7 : decode cX1_crowdedBlocks 7 = .ok (.if_icmp .ge 21, 3) := by decide +kernel
theorem dX1_crowdedBlocks_10 : decode cX1_crowdedBlocks 10 = .ok (.aload_n 0, 1) := by decide +kernel
theorem dX1_crowdedBlocks_11 : decode cX1_crowdedBlocks 11 = .ok (.iload_n 2, 1) := by decide +kernel
theorem dX1_crowdedBlocks_12 : decode cX1_crowdedBlocks 12 = .ok (.invokevirtual 136, 3) := by decide +kernel
theorem dX1_crowdedBlocks_15 : decode cX1_crowdedBlocks 15 = .ok (.iconst 1, 1) := by decide +kernel
theorem dX1_crowdedBlocks_16 : decode cX1_crowdedBlocks 16 = .ok (.if_icmp .le 6, 3) := by decide +kernel
theorem dX1_crowdedBlocks_19 : decode cX1_crowdedBlocks 19 = .ok (.iinc 1 1, 3) := by decide +kernel
theorem dX1_crowdedBlocks_22 : decode cX1_crowdedBlocks 22 = .ok (.iinc 2 1, 3) := by decide +kernel
theorem dX1_crowdedBlocks_25 : decode cX1_crowdedBlocks 25 = .ok (.goto (-21), 3) := by decide +kernel
theorem dX1_crowdedBlocks_28 : decode cX1_crowdedBlocks 28 = .ok (.iload_n 1, 1) := by decide +kernel
theorem dX1_crowdedBlocks_29 : decode cX1_crowdedBlocks 29 = .ok (.ireturn, 1) := by decide +kernel
theorem dX1_speedSum_0 : decode cX1_speedSum 0 = .ok (.iconst 0, 1) := by decide +kernel
theorem dX1_speedSum_1 : decode cX1_speedSum 1 = .ok (.istore_n 1, 1) := by decide +kernel
theorem dX1_speedSum_2 : decode cX1_speedSum 2 = .ok (.iconst 0, 1) := by decide +kernel
theorem dX1_speedSum_3 : decode cX1_speedSum 3 = .ok (.istore_n 2, 1) := by decide +kernel
theorem dX1_speedSum_4 : decode cX1_speedSum 4 = .ok (.iload_n 2, 1) := by decide +kernel
theorem dX1_speedSum_5 : decode cX1_speedSum 5 = .ok (.aload_n 0, 1) := by decide +kernel
theorem dX1_speedSum_6 : decode cX1_speedSum 6 = .ok (.getfield 29, 3) := by decide +kernel
theorem dX1_speedSum_9 : decode cX1_speedSum 9 = .ok (.if_icmp .ge 21, 3) := by decide +kernel
theorem dX1_speedSum_12 : decode cX1_speedSum 12 = .ok (.iload_n 1, 1) := by decide +kernel
theorem dX1_speedSum_13 : decode cX1_speedSum 13 = .ok (.aload_n 0, 1) := by decide +kernel
theorem dX1_speedSum_14 : decode cX1_speedSum 14 = .ok (.getfield 11, 3) := by decide +kernel
theorem dX1_speedSum_17 : decode cX1_speedSum 17 = .ok (.iload_n 2, 1) := by decide +kernel
theorem dX1_speedSum_18 : decode cX1_speedSum 18 = .ok (.aaload, 1) := by decide +kernel
theorem dX1_speedSum_19 : decode cX1_speedSum 19 = .ok (.getfield 105, 3) := by decide +kernel
theorem dX1_speedSum_22 : decode cX1_speedSum 22 = .ok (.iadd, 1) := by decide +kernel
theorem dX1_speedSum_23 : decode cX1_speedSum 23 = .ok (.istore_n 1, 1) := by decide +kernel
theorem dX1_speedSum_24 : decode cX1_speedSum 24 = .ok (.iinc 2 1, 3) := by decide +kernel
theorem dX1_speedSum_27 : decode cX1_speedSum 27 = .ok (.goto (-23), 3) := by decide +kernel
theorem dX1_speedSum_30 : decode cX1_speedSum 30 = .ok (.iload_n 1, 1) := by decide +kernel
theorem dX1_speedSum_31 : decode cX1_speedSum 31 = .ok (.ireturn, 1) := by decide +kernel
theorem dX2_init_0 : decode cX2_init 0 = .ok (.aload_n 0, 1) := by decide +kernel
theorem dX2_init_1 : decode cX2_init 1 = .ok (.invokespecial 3, 3) := by decide +kernel
theorem dX2_init_4 : decode cX2_init 4 = .ok (.return_, 1) := by decide +kernel
theorem dX2_begin_0 : decode cX2_begin 0 = .ok (.aload_n 0, 1) := by decide +kernel
theorem dX2_begin_1 : decode cX2_begin 1 = .ok (.iload_n 1, 1) := by decide +kernel
theorem dX2_begin_2 : decode cX2_begin 2 = .ok (.putfield 9, 3) := by decide +kernel
theorem dX2_begin_5 : decode cX2_begin 5 = .ok (.aload_n 0, 1) := by decide +kernel
theorem dX2_begin_6 : decode cX2_begin 6 = .ok (.iload_n 2, 1) := by decide +kernel
theorem dX2_begin_7 : decode cX2_begin 7 = .ok (.putfield 15, 3) := by decide +kernel
theorem dX2_begin_10 : decode cX2_begin 10 = .ok (.aload_n 0, 1) := by decide +kernel
theorem dX2_begin_11 : decode cX2_begin 11 = .ok (.iload_n 3, 1) := by decide +kernel
theorem dX2_begin_12 : decode cX2_begin 12 = .ok (.putfield 18, 3) := by decide +kernel
theorem dX2_begin_15 : decode cX2_begin 15 = .ok (.aload_n 0, 1) := by decide +kernel
theorem dX2_begin_16 : decode cX2_begin 16 = .ok (.iload 4, 2) := by decide +kernel
theorem dX2_begin_18 : decode cX2_begin 18 = .ok (.putfield 21, 3) := by decide +kernel
theorem dX2_begin_21 : decode cX2_begin 21 = .ok (.aload_n 0, 1) := by decide +kernel
theorem dX2_begin_22 : decode cX2_begin 22 = .ok (.iconst 0, 1) := by decide +kernel
theorem dX2_begin_23 : decode cX2_begin 23 = .ok (.putfield 24, 3) := by decide +kernel
theorem dX2_begin_26 : decode cX2_begin 26 = .ok (.aload_n 0, 1) := by decide +kernel
theorem dX2_begin_27 : decode cX2_begin 27 = .ok (.iconst 0, 1) := by decide +kernel
theorem dX2_begin_28 : decode cX2_begin 28 = .ok (.putfield 27, 3) := by decide +kernel
theorem dX2_begin_31 : decode cX2_begin 31 = .ok (.aload_n 0, 1) := by decide +kernel
theorem dX2_begin_32 : decode cX2_begin 32 = .ok (.iconst 0, 1) := by decide +kernel
theorem dX2_begin_33 : decode cX2_begin 33 = .ok (.putfield 30, 3) := by decide +kernel
theorem dX2_begin_36 : decode cX2_begin 36 = .ok (.aload_n 0, 1) := by decide +kernel
theorem dX2_begin_37 : decode cX2_begin 37 = .ok (.iconst 0, 1) := by decide +kernel
theorem dX2_begin_38 : decode cX2_begin 38 = .ok (.putfield 33, 3) := by decide +kernel
theorem dX2_begin_41 : decode cX2_begin 41 = .ok (.aload_n 0, 1) := by decide +kernel
theorem dX2_begin_42 : decode cX2_begin 42 = .ok (.iconst 1, 1) := by decide +kernel
theorem dX2_begin_43 : decode cX2_begin 43 = .ok (.putfield 36, 3) := by decide +kernel
theorem dX2_begin_46 : decode cX2_begin 46 = .ok (.aload_n 0, 1) := by decide +kernel
theorem dX2_begin_47 : decode cX2_begin 47 = .ok (.iconst 0, 1) := by decide +kernel
theorem dX2_begin_48 : decode cX2_begin 48 = .ok (.putfield 39, 3) := by decide +kernel
theorem dX2_begin_51 : decode cX2_begin 51 = .ok (.aload_n 0, 1) := by decide +kernel
theorem dX2_begin_52 : decode cX2_begin 52 = .ok (.iconst 0, 1) := by decide +kernel
theorem dX2_begin_53 : decode cX2_begin 53 = .ok (.putfield 42, 3) := by decide +kernel
theorem dX2_begin_56 : decode cX2_begin 56 = .ok (.return_, 1) := by decide +kernel
theorem dX2_copyFrom_0 : decode cX2_copyFrom 0 = .ok (.aload_n 0, 1) := by decide +kernel
theorem dX2_copyFrom_1 : decode cX2_copyFrom 1 = .ok (.aload_n 1, 1) := by decide +kernel
theorem dX2_copyFrom_2 : decode cX2_copyFrom 2 = .ok (.getfield 9, 3) := by decide +kernel
theorem dX2_copyFrom_5 : decode cX2_copyFrom 5 = .ok (.putfield 9, 3) := by decide +kernel
theorem dX2_copyFrom_8 : decode cX2_copyFrom 8 = .ok (.aload_n 0, 1) := by decide +kernel
theorem dX2_copyFrom_9 : decode cX2_copyFrom 9 = .ok (.aload_n 1, 1) := by decide +kernel
theorem dX2_copyFrom_10 : decode cX2_copyFrom 10 = .ok (.getfield 15, 3) := by decide +kernel
theorem dX2_copyFrom_13 : decode cX2_copyFrom 13 = .ok (.putfield 15, 3) := by decide +kernel
theorem dX2_copyFrom_16 : decode cX2_copyFrom 16 = .ok (.aload_n 0, 1) := by decide +kernel
theorem dX2_copyFrom_17 : decode cX2_copyFrom 17 = .ok (.aload_n 1, 1) := by decide +kernel
theorem dX2_copyFrom_18 : decode cX2_copyFrom 18 = .ok (.getfield 18, 3) := by decide +kernel
theorem dX2_copyFrom_21 : decode cX2_copyFrom 21 = .ok (.putfield 18, 3) := by decide +kernel
theorem dX2_copyFrom_24 : decode cX2_copyFrom 24 = .ok (.aload_n 0, 1) := by decide +kernel
theorem dX2_copyFrom_25 : decode cX2_copyFrom 25 = .ok (.aload_n 1, 1) := by decide +kernel
theorem dX2_copyFrom_26 : decode cX2_copyFrom 26 = .ok (.getfield 21, 3) := by decide +kernel
theorem dX2_copyFrom_29 : decode cX2_copyFrom 29 = .ok (.putfield 21, 3) := by decide +kernel
theorem dX2_copyFrom_32 : decode cX2_copyFrom 32 = .ok (.aload_n 0, 1) := by decide +kernel
theorem dX2_copyFrom_33 : decode cX2_copyFrom 33 = .ok (.aload_n 1, 1) := by decide +kernel
theorem dX2_copyFrom_34 : decode cX2_copyFrom 34 = .ok (.getfield 24, 3) := by decide +kernel
theorem dX2_copyFrom_37 : decode cX2_copyFrom 37 = .ok (.putfield 24, 3) := by decide +kernel
theorem dX2_copyFrom_40 : decode cX2_copyFrom 40 = .ok (.aload_n 0, 1) := by decide +kernel
theorem dX2_copyFrom_41 : decode cX2_copyFrom 41 = .ok (.aload_n 1, 1) := by decide +kernel
theorem dX2_copyFrom_42 : decode cX2_copyFrom 42 = .ok (.getfield 27, 3) := by decide +kernel
theorem dX2_copyFrom_45 : decode cX2_copyFrom 45 = .ok (.putfield 27, 3) := by decide +kernel
theorem dX2_copyFrom_48 : decode cX2_copyFrom 48 = .ok (.aload_n 0, 1) := by decide +kernel
theorem dX2_copyFrom_49 : decode cX2_copyFrom 49 = .ok (.aload_n 1, 1) := by decide +kernel
theorem dX2_copyFrom_50 : decode cX2_copyFrom 50 = .ok (.getfield 30, 3) := by decide +kernel
theorem dX2_copyFrom_53 : decode cX2_copyFrom 53 = .ok (.putfield 30, 3) := by decide +kernel
theorem dX2_copyFrom_56 : decode cX2_copyFrom 56 = .ok (.aload_n 0, 1) := by decide +kernel
theorem dX2_copyFrom_57 : decode cX2_copyFrom 57 = .ok (.aload_n 1, 1) := by decide +kernel
theorem dX2_copyFrom_58 : decode cX2_copyFrom 58 = .ok (.getfield 33, 3) := by decide +kernel
theorem dX2_copyFrom_61 : decode cX2_copyFrom 61 = .ok (.putfield 33, 3) := by decide +kernel
theorem dX2_copyFrom_64 : decode cX2_copyFrom 64 = .ok (.aload_n 0, 1) := by decide +kernel
theorem dX2_copyFrom_65 : decode cX2_copyFrom 65 = .ok (.aload_n 1, 1) := by decide +kernel
theorem dX2_copyFrom_66 : decode cX2_copyFrom 66 = .ok (.getfield 36, 3) := by decide +kernel
theorem dX2_copyFrom_69 : decode cX2_copyFrom 69 = .ok (.putfield 36, 3) := by decide +kernel
theorem dX2_copyFrom_72 : decode cX2_copyFrom 72 = .ok (.aload_n 0, 1) := by decide +kernel
theorem dX2_copyFrom_73 : decode cX2_copyFrom 73 = .ok (.aload_n 1, 1) := by decide +kernel
theorem dX2_copyFrom_74 : decode cX2_copyFrom 74 = .ok (.getfield 39, 3) := by decide +kernel
theorem dX2_copyFrom_77 : decode cX2_copyFrom 77 = .ok (.putfield 39, 3) := by decide +kernel
theorem dX2_copyFrom_80 : decode cX2_copyFrom 80 = .ok (.aload_n 0, 1) := by decide +kernel
theorem dX2_copyFrom_81 : decode cX2_copyFrom 81 = .ok (.aload_n 1, 1) := by decide +kernel
theorem dX2_copyFrom_82 : decode cX2_copyFrom 82 = .ok (.getfield 42, 3) := by decide +kernel
theorem dX2_copyFrom_85 : decode cX2_copyFrom 85 = .ok (.putfield 42, 3) := by decide +kernel
theorem dX2_copyFrom_88 : decode cX2_copyFrom 88 = .ok (.return_, 1) := by decide +kernel
theorem dX2_blockNumber_0 : decode cX2_blockNumber 0 = .ok (.aload_n 0, 1) := by decide +kernel
theorem dX2_blockNumber_1 : decode cX2_blockNumber 1 = .ok (.getfield 21, 3) := by decide +kernel
theorem dX2_blockNumber_4 : decode cX2_blockNumber 4 = .ok (.bipush 100, 2) := by decide +kernel
theorem dX2_blockNumber_6 : decode cX2_blockNumber 6 = .ok (.idiv, 1) := by decide +kernel
theorem dX2_blockNumber_7 : decode cX2_blockNumber 7 = .ok (.ireturn, 1) := by decide +kernel
theorem dX2_goal_0 : decode cX2_goal 0 = .ok (.aload_n 0, 1) := by decide +kernel
theorem dX2_goal_1 : decode cX2_goal 1 = .ok (.getfield 18, 3) := by decide +kernel
theorem dX2_goal_4 : decode cX2_goal 4 = .ok (.aload_n 0, 1) := by decide +kernel
theorem dX2_goal_5 : decode cX2_goal 5 = .ok (.getfield 33, 3) := by decide +kernel
theorem dX2_goal_8 : decode cX2_goal 8 = .ok (.invokestatic 45, 3) := by decide +kernel
theorem dX2_goal_11 : decode cX2_goal 11 = .ok (.istore_n 1, 1) := by decide +kernel
theorem dX2_goal_12 : decode cX2_goal 12 = .ok (.aload_n 0, 1) := by decide +kernel
theorem dX2_goal_13 : decode cX2_goal 13 = .ok (.getfield 36, 3) := by decide +kernel
theorem dX2_goal_16 : decode cX2_goal 16 = .ok (.iconst 1, 1) := by decide +kernel
theorem dX2_goal_17 : decode cX2_goal 17 = .ok (.if_icmp .ne 7, 3) := by decide +kernel
theorem dX2_goal_20 : decode cX2_goal 20 = .ok (.iload_n 1, 1) := by decide +kernel
theorem dX2_goal_21 : decode cX2_goal 21 = .ok (.goto 5, 3) := by decide +kernel
theorem dX2_goal_24 : decode cX2_goal 24 = .ok (.iload_n 1, 1) := by decide +kernel
theorem dX2_goal_25 : decode cX2_goal 25 = .ok (.ineg, 1) := by decide +kernel
theorem dX2_goal_26 : decode cX2_goal 26 = .ok (.ireturn, 1) := by decide +kernel
theorem dX2_mostGain_0 : decode cX2_mostGain 0 = .ok (.aload_n 0, 1) := by decide +kernel
theorem dX2_mostGain_1 : decode cX2_mostGain 1 = .ok (.getfield 15, 3) := by decide +kernel
theorem dX2_mostGain_4 : decode cX2_mostGain 4 = .ok (.ifCond .le 13, 3) := by decide +kernel
theorem dX2_mostGain_7 : decode cX2_mostGain 7 = .ok (.bipush 60, 2) := by decide +kernel
theorem dX2_mostGain_9 : decode cX2_mostGain 9 = .ok (.aload_n 0, 1) := by decide +kernel
theorem dX2_mostGain_10 : decode cX2_mostGain 10 = .ok (.getfield 15, 3) := by decide +kernel
theorem dX2_mostGain_13 : decode cX2_mostGain 13 = .ok (.idiv, 1) := by decide +kernel
theorem dX2_mostGain_14 : decode cX2_mostGain 14 = .ok (.goto 4, 3) := by decide +kernel
theorem dX2_mostGain_17 : decode cX2_mostGain 17 = .ok (.iconst 0, 1) := by decide +kernel
theorem dX2_mostGain_18 : decode cX2_mostGain 18 = .ok (.ireturn, 1) := by decide +kernel
theorem dX2_ticksToGoal_0 : decode cX2_ticksToGoal 0 = .ok (.aload_n 0, 1) := by decide +kernel
theorem dX2_ticksToGoal_1 : decode cX2_ticksToGoal 1 = .ok (.invokevirtual 49, 3) := by decide +kernel
theorem dX2_ticksToGoal_4 : decode cX2_ticksToGoal 4 = .ok (.istore_n 1, 1) := by decide +kernel
theorem dX2_ticksToGoal_5 : decode cX2_ticksToGoal 5 = .ok (.aload_n 0, 1) := by decide +kernel
theorem dX2_ticksToGoal_6 : decode cX2_ticksToGoal 6 = .ok (.invokevirtual 53, 3) := by decide +kernel
theorem dX2_ticksToGoal_9 : decode cX2_ticksToGoal 9 = .ok (.aload_n 0, 1) := by decide +kernel
theorem dX2_ticksToGoal_10 : decode cX2_ticksToGoal 10 = .ok (.getfield 27, 3) := by decide +kernel
theorem dX2_ticksToGoal_13 : decode cX2_ticksToGoal 13 = .ok (.isub, 1) := by decide +kernel
theorem dX2_ticksToGoal_14 : decode cX2_ticksToGoal 14 = .ok (.invokestatic 56, 3) := by decide +kernel
theorem dX2_ticksToGoal_17 : decode cX2_ticksToGoal 17 = .ok (.istore_n 2, 1) := by decide +kernel
theorem dX2_ticksToGoal_18 : decode cX2_ticksToGoal 18 = .ok (.iload_n 1, 1) := by decide +kernel
theorem dX2_ticksToGoal_19 : decode cX2_ticksToGoal 19 = .ok (.ifCond .le 13, 3) := by decide +kernel
theorem dX2_ticksToGoal_22 : decode cX2_ticksToGoal 22 = .ok (.iload_n 2, 1) := by decide +kernel
theorem dX2_ticksToGoal_23 : decode cX2_ticksToGoal 23 = .ok (.iload_n 1, 1) := by decide +kernel
theorem dX2_ticksToGoal_24 : decode cX2_ticksToGoal 24 = .ok (.iadd, 1) := by decide +kernel
theorem dX2_ticksToGoal_25 : decode cX2_ticksToGoal 25 = .ok (.iconst 1, 1) := by decide +kernel
theorem dX2_ticksToGoal_26 : decode cX2_ticksToGoal 26 = .ok (.isub, 1) := by decide +kernel
theorem dX2_ticksToGoal_27 : decode cX2_ticksToGoal 27 = .ok (.iload_n 1, 1) := by decide +kernel
theorem dX2_ticksToGoal_28 : decode cX2_ticksToGoal 28 = .ok (.idiv, 1) := by decide +kernel
theorem dX2_ticksToGoal_29 : decode cX2_ticksToGoal 29 = .ok (.goto 4, 3) := by decide +kernel
theorem dX2_ticksToGoal_32 : decode cX2_ticksToGoal 32 = .ok (.iconst 0, 1) := by decide +kernel
theorem dX2_ticksToGoal_33 : decode cX2_ticksToGoal 33 = .ok (.ireturn, 1) := by decide +kernel
theorem dX2_changeSpeed_0 : decode cX2_changeSpeed 0 = .ok (.aload_n 0, 1) := by decide +kernel
theorem dX2_changeSpeed_1 : decode cX2_changeSpeed 1 = .ok (.invokevirtual 49, 3) := by decide +kernel
theorem dX2_changeSpeed_4 : decode cX2_changeSpeed 4 = .ok (.istore_n 1, 1) := by decide +kernel
theorem dX2_changeSpeed_5 : decode cX2_changeSpeed 5 = .ok (.aload_n 0, 1) := by decide +kernel
theorem dX2_changeSpeed_6 : decode cX2_changeSpeed 6 = .ok (.dup, 1) := by decide +kernel
theorem dX2_changeSpeed_7 : decode cX2_changeSpeed 7 = .ok (.getfield 27, 3) := by decide +kernel
theorem dX2_changeSpeed_10 : decode cX2_changeSpeed 10 = .ok (.iload_n 1, 1) := by decide +kernel
theorem dX2_changeSpeed_11 : decode cX2_changeSpeed 11 = .ok (.ineg, 1) := by decide +kernel
theorem dX2_changeSpeed_12 : decode cX2_changeSpeed 12 = .ok (.iload_n 1, 1) := by decide +kernel
theorem dX2_changeSpeed_13 : decode cX2_changeSpeed 13 = .ok (.aload_n 0, 1) := by decide +kernel
theorem dX2_changeSpeed_14 : decode cX2_changeSpeed 14 = .ok (.invokevirtual 53, 3) := by decide +kernel
theorem dX2_changeSpeed_17 : decode cX2_changeSpeed 17 = .ok (.aload_n 0, 1) := by decide +kernel
theorem dX2_changeSpeed_18 : decode cX2_changeSpeed 18 = .ok (.getfield 27, 3) := by decide +kernel
theorem dX2_changeSpeed_21 : decode cX2_changeSpeed 21 = .ok (.isub, 1) := by decide +kernel
theorem dX2_changeSpeed_22 : decode cX2_changeSpeed 22 = .ok (.invokestatic 62, 3) := by decide +kernel
theorem dX2_changeSpeed_25 : decode cX2_changeSpeed 25 = .ok (.invokestatic 65, 3) := by decide +kernel
theorem dX2_changeSpeed_28 : decode cX2_changeSpeed 28 = .ok (.iadd, 1) := by decide +kernel
theorem dX2_changeSpeed_29 : decode cX2_changeSpeed 29 = .ok (.putfield 27, 3) := by decide +kernel
theorem dX2_changeSpeed_32 : decode cX2_changeSpeed 32 = .ok (.return_, 1) := by decide +kernel
theorem dX2_roll_0 : decode cX2_roll 0 = .ok (.aload_n 0, 1) := by decide +kernel
theorem dX2_roll_1 : decode cX2_roll 1 = .ok (.getfield 21, 3) := by decide +kernel
theorem dX2_roll_4 : decode cX2_roll 4 = .ok (.bipush 10, 2) := by decide +kernel
theorem dX2_roll_6 : decode cX2_roll 6 = .ok (.imul, 1) := by decide +kernel
theorem dX2_roll_7 : decode cX2_roll 7 = .ok (.aload_n 0, 1) := by decide +kernel
theorem dX2_roll_8 : decode cX2_roll 8 = .ok (.getfield 24, 3) := by decide +kernel
theorem dX2_roll_11 : decode cX2_roll 11 = .ok (.iadd, 1) := by decide +kernel
theorem dX2_roll_12 : decode cX2_roll 12 = .ok (.aload_n 0, 1) := by decide +kernel
theorem dX2_roll_13 : decode cX2_roll 13 = .ok (.getfield 27, 3) := by decide +kernel
theorem dX2_roll_16 : decode cX2_roll 16 = .ok (.iadd, 1) := by decide +kernel
theorem dX2_roll_17 : decode cX2_roll 17 = .ok (.istore_n 1, 1) := by decide +kernel
theorem dX2_roll_18 : decode cX2_roll 18 = .ok (.aload_n 0, 1) := by decide +kernel
theorem dX2_roll_19 : decode cX2_roll 19 = .ok (.dup, 1) := by decide +kernel
theorem dX2_roll_20 : decode cX2_roll 20 = .ok (.getfield 30, 3) := by decide +kernel
theorem dX2_roll_23 : decode cX2_roll 23 = .ok (.iload_n 1, 1) := by decide +kernel
theorem dX2_roll_24 : decode cX2_roll 24 = .ok (.sipush 8000, 3) := by decide +kernel
theorem dX2_roll_27 : decode cX2_roll 27 = .ok (.invokestatic 68, 3) := by decide +kernel
theorem dX2_roll_30 : decode cX2_roll 30 = .ok (.iadd, 1) := by decide +kernel
theorem dX2_roll_31 : decode cX2_roll 31 = .ok (.putfield 30, 3) := by decide +kernel
theorem dX2_roll_34 : decode cX2_roll 34 = .ok (.iload_n 1, 1) := by decide +kernel
theorem dX2_roll_35 : decode cX2_roll 35 = .ok (.sipush 8000, 3) := by decide +kernel
theorem dX2_roll_38 : decode cX2_roll 38 = .ok (.invokestatic 71, 3) := by decide +kernel
theorem dX2_roll_41 : decode cX2_roll 41 = .ok (.istore_n 2, 1) := by decide +kernel
theorem dX2_roll_42 : decode cX2_roll 42 = .ok (.aload_n 0, 1) := by decide +kernel
theorem dX2_roll_43 : decode cX2_roll 43 = .ok (.iload_n 2, 1) := by decide +kernel
theorem dX2_roll_44 : decode cX2_roll 44 = .ok (.bipush 10, 2) := by decide +kernel
theorem dX2_roll_46 : decode cX2_roll 46 = .ok (.idiv, 1) := by decide +kernel
theorem dX2_roll_47 : decode cX2_roll 47 = .ok (.putfield 21, 3) := by decide +kernel
theorem dX2_roll_50 : decode cX2_roll 50 = .ok (.aload_n 0, 1) := by decide +kernel
theorem dX2_roll_51 : decode cX2_roll 51 = .ok (.iload_n 2, 1) := by decide +kernel
theorem dX2_roll_52 : decode cX2_roll 52 = .ok (.bipush 10, 2) := by decide +kernel
theorem dX2_roll_54 : decode cX2_roll 54 = .ok (.irem, 1) := by decide +kernel
theorem dX2_roll_55 : decode cX2_roll 55 = .ok (.putfield 24, 3) := by decide +kernel
theorem dX2_roll_58 : decode cX2_roll 58 = .ok (.return_, 1) := by decide +kernel
theorem dX2_hear_0 : decode cX2_hear 0 = .ok (.aload_n 0, 1) := by decide +kernel
theorem dX2_hear_1 : decode cX2_hear 1 = .ok (.dup, 1) := by decide +kernel
theorem dX2_hear_2 : decode cX2_hear 2 = .ok (.getfield 42, 3) := by decide +kernel
theorem dX2_hear_5 : decode cX2_hear 5 = .ok (.iconst 1, 1) := by decide +kernel
theorem dX2_hear_6 : decode cX2_hear 6 = .ok (.iadd, 1) := by decide +kernel
theorem dX2_hear_7 : decode cX2_hear 7 = .ok (.putfield 42, 3) := by decide +kernel
theorem dX2_hear_10 : decode cX2_hear 10 = .ok (.iload_n 1, 1) := by decide +kernel
theorem dX2_hear_11 : decode cX2_hear 11 = .ok (.sipush 128, 3) := by decide +kernel
theorem dX2_hear_14 : decode cX2_hear 14 = .ok (.irem, 1) := by decide +kernel
theorem dX2_hear_15 : decode cX2_hear 15 = .ok (.istore_n 2, 1) := by decide +kernel
theorem dX2_hear_16 : decode cX2_hear 16 = .ok (.iload_n 2, 1) := by decide +kernel
theorem dX2_hear_17 : decode cX2_hear 17 = .ok (.bipush 28, 2) := by decide +kernel
theorem dX2_hear_19 : decode cX2_hear 19 = .ok (.if_icmp .gt 20, 3) := by decide +kernel
theorem dX2_hear_22 : decode cX2_hear 22 = .ok (.aload_n 0, 1) := by decide +kernel
theorem dX2_hear_23 : decode cX2_hear 23 = .ok (.iload_n 2, 1) := by decide +kernel
theorem dX2_hear_24 : decode cX2_hear 24 = .ok (.putfield 33, 3) := by decide +kernel
theorem dX2_hear_27 : decode cX2_hear 27 = .ok (.aload_n 0, 1) := by decide +kernel
theorem dX2_hear_28 : decode cX2_hear 28 = .ok (.iload_n 1, 1) := by decide +kernel
theorem dX2_hear_29 : decode cX2_hear 29 = .ok (.sipush 128, 3) := by decide +kernel
theorem dX2_hear_32 : decode cX2_hear 32 = .ok (.idiv, 1) := by decide +kernel
theorem dX2_hear_33 : decode cX2_hear 33 = .ok (.putfield 36, 3) := by decide +kernel
theorem dX2_hear_36 : decode cX2_hear 36 = .ok (.goto 42, 3) := by decide +kernel
theorem dX2_hear_39 : decode cX2_hear 39 = .ok (.iload_n 1, 1) := by decide +kernel
theorem dX2_hear_40 : decode cX2_hear 40 = .ok (.bipush 31, 2) := by decide +kernel
theorem dX2_hear_42 : decode cX2_hear 42 = .ok (.if_icmp .ne 16, 3) := by decide +kernel
theorem dX2_hear_45 : decode cX2_hear 45 = .ok (.aload_n 0, 1) := by decide +kernel
theorem dX2_hear_46 : decode cX2_hear 46 = .ok (.iconst 0, 1) := by decide +kernel
theorem dX2_hear_47 : decode cX2_hear 47 = .ok (.putfield 33, 3) := by decide +kernel
theorem dX2_hear_50 : decode cX2_hear 50 = .ok (.aload_n 0, 1) := by decide +kernel
theorem dX2_hear_51 : decode cX2_hear 51 = .ok (.iconst 0, 1) := by decide +kernel
theorem dX2_hear_52 : decode cX2_hear 52 = .ok (.putfield 27, 3) := by decide +kernel
theorem dX2_hear_55 : decode cX2_hear 55 = .ok (.goto 23, 3) := by decide +kernel
theorem dX2_hear_58 : decode cX2_hear 58 = .ok (.iload_n 1, 1) := by decide +kernel
theorem dX2_hear_59 : decode cX2_hear 59 = .ok (.bipush 64, 2) := by decide +kernel
theorem dX2_hear_61 : decode cX2_hear 61 = .ok (.if_icmp .lt 17, 3) := by decide +kernel
theorem dX2_hear_64 : decode cX2_hear 64 = .ok (.iload_n 1, 1) := by decide +kernel
theorem dX2_hear_65 : decode cX2_hear 65 = .ok (.bipush 67, 2) := by decide +kernel
theorem dX2_hear_67 : decode cX2_hear 67 = .ok (.if_icmp .gt 11, 3) := by decide +kernel
theorem dX2_hear_70 : decode cX2_hear 70 = .ok (.aload_n 0, 1) := by decide +kernel
theorem dX2_hear_71 : decode cX2_hear 71 = .ok (.iload_n 1, 1) := by decide +kernel
theorem dX2_hear_72 : decode cX2_hear 72 = .ok (.bipush 64, 2) := by decide +kernel
theorem dX2_hear_74 : decode cX2_hear 74 = .ok (.isub, 1) := by decide +kernel
theorem dX2_hear_75 : decode cX2_hear 75 = .ok (.putfield 39, 3) := by decide +kernel
theorem dX2_hear_78 : decode cX2_hear 78 = .ok (.return_, 1) := by decide +kernel
theorem dX2_told_0 : decode cX2_told 0 = .ok (.iload_n 1, 1) := by decide +kernel
theorem dX2_told_1 : decode cX2_told 1 = .ok (.tableswitch 135 0 11 #[63, 68, 73, 78, 83, 92, 101, 106, 111, 116, 121, 126], 63) := by decide +kernel
theorem dX2_told_64 : decode cX2_told 64 = .ok (.aload_n 0, 1) := by decide +kernel
theorem dX2_told_65 : decode cX2_told 65 = .ok (.getfield 15, 3) := by decide +kernel
theorem dX2_told_68 : decode cX2_told 68 = .ok (.ireturn, 1) := by decide +kernel
theorem dX2_told_69 : decode cX2_told 69 = .ok (.aload_n 0, 1) := by decide +kernel
theorem dX2_told_70 : decode cX2_told 70 = .ok (.getfield 18, 3) := by decide +kernel
theorem dX2_told_73 : decode cX2_told 73 = .ok (.ireturn, 1) := by decide +kernel
theorem dX2_told_74 : decode cX2_told 74 = .ok (.aload_n 0, 1) := by decide +kernel
theorem dX2_told_75 : decode cX2_told 75 = .ok (.getfield 21, 3) := by decide +kernel
theorem dX2_told_78 : decode cX2_told 78 = .ok (.ireturn, 1) := by decide +kernel
theorem dX2_told_79 : decode cX2_told 79 = .ok (.aload_n 0, 1) := by decide +kernel
theorem dX2_told_80 : decode cX2_told 80 = .ok (.getfield 24, 3) := by decide +kernel
theorem dX2_told_83 : decode cX2_told 83 = .ok (.ireturn, 1) := by decide +kernel
theorem dX2_told_84 : decode cX2_told 84 = .ok (.aload_n 0, 1) := by decide +kernel
theorem dX2_told_85 : decode cX2_told 85 = .ok (.getfield 27, 3) := by decide +kernel
theorem dX2_told_88 : decode cX2_told 88 = .ok (.sipush 1000, 3) := by decide +kernel
theorem dX2_told_91 : decode cX2_told 91 = .ok (.iadd, 1) := by decide +kernel
theorem dX2_told_92 : decode cX2_told 92 = .ok (.ireturn, 1) := by decide +kernel
theorem dX2_told_93 : decode cX2_told 93 = .ok (.aload_n 0, 1) := by decide +kernel
theorem dX2_told_94 : decode cX2_told 94 = .ok (.invokevirtual 53, 3) := by decide +kernel
theorem dX2_told_97 : decode cX2_told 97 = .ok (.sipush 1000, 3) := by decide +kernel
theorem dX2_told_100 : decode cX2_told 100 = .ok (.iadd, 1) := by decide +kernel
theorem dX2_told_101 : decode cX2_told 101 = .ok (.ireturn, 1) := by decide +kernel
theorem dX2_told_102 : decode cX2_told 102 = .ok (.aload_n 0, 1) := by decide +kernel
theorem dX2_told_103 : decode cX2_told 103 = .ok (.getfield 33, 3) := by decide +kernel
theorem dX2_told_106 : decode cX2_told 106 = .ok (.ireturn, 1) := by decide +kernel
theorem dX2_told_107 : decode cX2_told 107 = .ok (.aload_n 0, 1) := by decide +kernel
theorem dX2_told_108 : decode cX2_told 108 = .ok (.getfield 36, 3) := by decide +kernel
theorem dX2_told_111 : decode cX2_told 111 = .ok (.ireturn, 1) := by decide +kernel
theorem dX2_told_112 : decode cX2_told 112 = .ok (.aload_n 0, 1) := by decide +kernel
theorem dX2_told_113 : decode cX2_told 113 = .ok (.getfield 39, 3) := by decide +kernel
theorem dX2_told_116 : decode cX2_told 116 = .ok (.ireturn, 1) := by decide +kernel
theorem dX2_told_117 : decode cX2_told 117 = .ok (.aload_n 0, 1) := by decide +kernel
theorem dX2_told_118 : decode cX2_told 118 = .ok (.invokevirtual 74, 3) := by decide +kernel
theorem dX2_told_121 : decode cX2_told 121 = .ok (.ireturn, 1) := by decide +kernel
theorem dX2_told_122 : decode cX2_told 122 = .ok (.aload_n 0, 1) := by decide +kernel
theorem dX2_told_123 : decode cX2_told 123 = .ok (.getfield 42, 3) := by decide +kernel
theorem dX2_told_126 : decode cX2_told 126 = .ok (.ireturn, 1) := by decide +kernel
theorem dX2_told_127 : decode cX2_told 127 = .ok (.aload_n 0, 1) := by decide +kernel
theorem dX2_told_128 : decode cX2_told 128 = .ok (.getfield 30, 3) := by decide +kernel
theorem dX2_told_131 : decode cX2_told 131 = .ok (.sipush 1000, 3) := by decide +kernel
theorem dX2_told_134 : decode cX2_told 134 = .ok (.iadd, 1) := by decide +kernel
theorem dX2_told_135 : decode cX2_told 135 = .ok (.ireturn, 1) := by decide +kernel
theorem dX2_told_136 : decode cX2_told 136 = .ok (.bipush (-2), 2) := by decide +kernel
theorem dX2_told_138 : decode cX2_told 138 = .ok (.ireturn, 1) := by decide +kernel
theorem dX3_init_0 : decode cX3_init 0 = .ok (.aload_n 0, 1) := by decide +kernel
theorem dX3_init_1 : decode cX3_init 1 = .ok (.invokespecial 3, 3) := by decide +kernel
theorem dX3_init_4 : decode cX3_init 4 = .ok (.aload_n 0, 1) := by decide +kernel
theorem dX3_init_5 : decode cX3_init 5 = .ok (.bipush 80, 2) := by decide +kernel
theorem dX3_init_7 : decode cX3_init 7 = .ok (.newarray .char, 2) := by decide +kernel
theorem dX3_init_9 : decode cX3_init 9 = .ok (.putfield 9, 3) := by decide +kernel
theorem dX3_init_12 : decode cX3_init 12 = .ok (.aload_n 0, 1) := by decide +kernel
theorem dX3_init_13 : decode cX3_init 13 = .ok (.iconst 3, 1) := by decide +kernel
theorem dX3_init_14 : decode cX3_init 14 = .ok (.newarray .int, 2) := by decide +kernel
theorem dX3_init_16 : decode cX3_init 16 = .ok (.putfield 15, 3) := by decide +kernel
theorem dX3_init_19 : decode cX3_init 19 = .ok (.return_, 1) := by decide +kernel
theorem dX4_init_0 : decode cX4_init 0 = .ok (.aload_n 0, 1) := by decide +kernel
theorem dX4_init_1 : decode cX4_init 1 = .ok (.invokespecial 3, 3) := by decide +kernel
theorem dX4_init_4 : decode cX4_init 4 = .ok (.aload_n 0, 1) := by decide +kernel
theorem dX4_init_5 : decode cX4_init 5 = .ok (.bipush 20, 2) := by decide +kernel
theorem dX4_init_7 : decode cX4_init 7 = .ok (.newarray .int, 2) := by decide +kernel
theorem dX4_init_9 : decode cX4_init 9 = .ok (.putfield 9, 3) := by decide +kernel
theorem dX4_init_12 : decode cX4_init 12 = .ok (.aload_n 0, 1) := by decide +kernel
theorem dX4_init_13 : decode cX4_init 13 = .ok (.bipush 20, 2) := by decide +kernel
theorem dX4_init_15 : decode cX4_init 15 = .ok (.newarray .int, 2) := by decide +kernel
theorem dX4_init_17 : decode cX4_init 17 = .ok (.putfield 15, 3) := by decide +kernel
theorem dX4_init_20 : decode cX4_init 20 = .ok (.aload_n 0, 1) := by decide +kernel
theorem dX4_init_21 : decode cX4_init 21 = .ok (.bipush 20, 2) := by decide +kernel
theorem dX4_init_23 : decode cX4_init 23 = .ok (.newarray .int, 2) := by decide +kernel
theorem dX4_init_25 : decode cX4_init 25 = .ok (.putfield 18, 3) := by decide +kernel
theorem dX4_init_28 : decode cX4_init 28 = .ok (.return_, 1) := by decide +kernel
theorem dX4_copyFrom_0 : decode cX4_copyFrom 0 = .ok (.aload_n 1, 1) := by decide +kernel
theorem dX4_copyFrom_1 : decode cX4_copyFrom 1 = .ok (.getfield 9, 3) := by decide +kernel
theorem dX4_copyFrom_4 : decode cX4_copyFrom 4 = .ok (.iconst 0, 1) := by decide +kernel
theorem dX4_copyFrom_5 : decode cX4_copyFrom 5 = .ok (.aload_n 0, 1) := by decide +kernel
theorem dX4_copyFrom_6 : decode cX4_copyFrom 6 = .ok (.getfield 9, 3) := by decide +kernel
theorem dX4_copyFrom_9 : decode cX4_copyFrom 9 = .ok (.iconst 0, 1) := by decide +kernel
theorem dX4_copyFrom_10 : decode cX4_copyFrom 10 = .ok (.bipush 20, 2) := by decide +kernel
theorem dX4_copyFrom_12 : decode cX4_copyFrom 12 = .ok (.invokestatic 21, 3) := by decide +kernel
theorem dX4_copyFrom_15 : decode cX4_copyFrom 15 = .ok (.aload_n 1, 1) := by decide +kernel
theorem dX4_copyFrom_16 : decode cX4_copyFrom 16 = .ok (.getfield 15, 3) := by decide +kernel
theorem dX4_copyFrom_19 : decode cX4_copyFrom 19 = .ok (.iconst 0, 1) := by decide +kernel
theorem dX4_copyFrom_20 : decode cX4_copyFrom 20 = .ok (.aload_n 0, 1) := by decide +kernel
theorem dX4_copyFrom_21 : decode cX4_copyFrom 21 = .ok (.getfield 15, 3) := by decide +kernel
theorem dX4_copyFrom_24 : decode cX4_copyFrom 24 = .ok (.iconst 0, 1) := by decide +kernel
theorem dX4_copyFrom_25 : decode cX4_copyFrom 25 = .ok (.bipush 20, 2) := by decide +kernel
theorem dX4_copyFrom_27 : decode cX4_copyFrom 27 = .ok (.invokestatic 21, 3) := by decide +kernel
theorem dX4_copyFrom_30 : decode cX4_copyFrom 30 = .ok (.aload_n 1, 1) := by decide +kernel
theorem dX4_copyFrom_31 : decode cX4_copyFrom 31 = .ok (.getfield 18, 3) := by decide +kernel
theorem dX4_copyFrom_34 : decode cX4_copyFrom 34 = .ok (.iconst 0, 1) := by decide +kernel
theorem dX4_copyFrom_35 : decode cX4_copyFrom 35 = .ok (.aload_n 0, 1) := by decide +kernel
theorem dX4_copyFrom_36 : decode cX4_copyFrom 36 = .ok (.getfield 18, 3) := by decide +kernel
theorem dX4_copyFrom_39 : decode cX4_copyFrom 39 = .ok (.iconst 0, 1) := by decide +kernel
theorem dX4_copyFrom_40 : decode cX4_copyFrom 40 = .ok (.bipush 20, 2) := by decide +kernel
theorem dX4_copyFrom_42 : decode cX4_copyFrom 42 = .ok (.invokestatic 21, 3) := by decide +kernel
theorem dX4_copyFrom_45 : decode cX4_copyFrom 45 = .ok (.aload_n 0, 1) := by decide +kernel
theorem dX4_copyFrom_46 : decode cX4_copyFrom 46 = .ok (.aload_n 1, 1) := by decide +kernel
theorem dX4_copyFrom_47 : decode cX4_copyFrom 47 = .ok (.getfield 27, 3) := by decide +kernel
theorem dX4_copyFrom_50 : decode cX4_copyFrom 50 = .ok (.putfield 27, 3) := by decide +kernel
theorem dX4_copyFrom_53 : decode cX4_copyFrom 53 = .ok (.return_, 1) := by decide +kernel
theorem dX4_take_0 : decode cX4_take 0 = .ok (.iload_n 1, 1) := by decide +kernel
theorem dX4_take_1 : decode cX4_take 1 = .ok (.iconst 0, 1) := by decide +kernel
theorem dX4_take_2 : decode cX4_take 2 = .ok (.bipush 99, 2) := by decide +kernel
theorem dX4_take_4 : decode cX4_take 4 = .ok (.invokestatic 31, 3) := by decide +kernel
theorem dX4_take_7 : decode cX4_take 7 = .ok (.ifCond .eq 23, 3) := by decide +kernel
theorem dX4_take_10 : decode cX4_take 10 = .ok (.iload_n 2, 1) := by decide +kernel
theorem dX4_take_11 : decode cX4_take 11 = .ok (.iconst 0, 1) := by decide +kernel
theorem dX4_take_12 : decode cX4_take 12 = .ok (.sipush 255, 3) := by decide +kernel
theorem dX4_take_15 : decode cX4_take 15 = .ok (.invokestatic 31, 3) := by decide +kernel
theorem dX4_take_18 : decode cX4_take 18 = .ok (.ifCond .eq 12, 3) := by decide +kernel
theorem dX4_take_21 : decode cX4_take 21 = .ok (.iload_n 3, 1) := by decide +kernel
theorem dX4_take_22 : decode cX4_take 22 = .ok (.iconst 0, 1) := by decide +kernel
theorem dX4_take_23 : decode cX4_take 23 = .ok (.iconst 3, 1) := by decide +kernel
theorem dX4_take_24 : decode cX4_take 24 = .ok (.invokestatic 31, 3) := by decide +kernel
theorem dX4_take_27 : decode cX4_take 27 = .ok (.ifCond .ne 6, 3) := by decide +kernel
theorem dX4_take_30 : decode cX4_take 30 = .ok (.bipush (-2), 2) := by decide +kernel
theorem dX4_take_32 : decode cX4_take 32 = .ok (.ireturn, 1) := by decide +kernel
theorem dX4_take_33 : decode cX4_take 33 = .ok (.aload_n 0, 1) := by decide +kernel
theorem dX4_take_34 : decode cX4_take 34 = .ok (.getfield 27, 3) := by decide +kernel
theorem dX4_take_37 : decode cX4_take 37 = .ok (.bipush 20, 2) := by decide +kernel
theorem dX4_take_39 : decode cX4_take 39 = .ok (.if_icmp .lt 6, 3) := by decide +kernel
theorem dX4_take_42 : decode cX4_take 42 = .ok (.bipush (-4), 2) := by decide +kernel
theorem dX4_take_44 : decode cX4_take 44 = .ok (.ireturn, 1) := by decide +kernel
theorem dX4_take_45 : decode cX4_take 45 = .ok (.aload_n 0, 1) := by decide +kernel
theorem dX4_take_46 : decode cX4_take 46 = .ok (.getfield 27, 3) := by decide +kernel
theorem dX4_take_49 : decode cX4_take 49 = .ok (.istore 4, 2) := by decide +kernel
theorem dX4_take_51 : decode cX4_take 51 = .ok (.iload 4, 2) := by decide +kernel
theorem dX4_take_53 : decode cX4_take 53 = .ok (.ifCond .le 55, 3) := by decide +kernel
theorem dX4_take_56 : decode cX4_take 56 = .ok (.aload_n 0, 1) := by decide +kernel
theorem dX4_take_57 : decode cX4_take 57 = .ok (.getfield 18, 3) := by decide +kernel
theorem dX4_take_60 : decode cX4_take 60 = .ok (.iload 4, 2) := by decide +kernel
theorem dX4_take_62 : decode cX4_take 62 = .ok (.iconst 1, 1) := by decide +kernel
theorem dX4_take_63 : decode cX4_take 63 = .ok (.isub, 1) := by decide +kernel
theorem dX4_take_64 : decode cX4_take 64 = .ok (.iaload, 1) := by decide +kernel
theorem dX4_take_65 : decode cX4_take 65 = .ok (.iload_n 3, 1) := by decide +kernel
theorem dX4_take_66 : decode cX4_take 66 = .ok (.if_icmp .ge 42, 3) := by decide +kernel
theorem dX4_take_69 : decode cX4_take 69 = .ok (.aload_n 0, 1) := by decide +kernel
theorem dX4_take_70 : decode cX4_take 70 = .ok (.iload 4, 2) := by decide +kernel
theorem dX4_take_72 : decode cX4_take 72 = .ok (.aload_n 0, 1) := by decide +kernel
theorem dX4_take_73 : decode cX4_take 73 = .ok (.getfield 9, 3) := by decide +kernel
theorem dX4_take_76 : decode cX4_take 76 = .ok (.iload 4, 2) := by decide +kernel
theorem dX4_take_78 : decode cX4_take 78 = .ok (.iconst 1, 1) := by decide +kernel
theorem dX4_take_79 : decode cX4_take 79 = .ok (.isub, 1) := by decide +kernel
theorem dX4_take_80 : decode cX4_take 80 = .ok (.iaload, 1) := by decide +kernel
theorem dX4_take_81 : decode cX4_take 81 = .ok (.aload_n 0, 1) := by decide +kernel
theorem dX4_take_82 : decode cX4_take 82 = .ok (.getfield 15, 3) := by decide +kernel
theorem dX4_take_85 : decode cX4_take 85 = .ok (.iload 4, 2) := by decide +kernel
theorem dX4_take_87 : decode cX4_take 87 = .ok (.iconst 1, 1) := by decide +kernel
theorem dX4_take_88 : decode cX4_take 88 = .ok (.isub, 1) := by decide +kernel
theorem dX4_take_89 : decode cX4_take 89 = .ok (.iaload, 1) := by decide +kernel
theorem dX4_take_90 : decode cX4_take 90 = .ok (.aload_n 0, 1) := by decide +kernel
theorem dX4_take_91 : decode cX4_take 91 = .ok (.getfield 18, 3) := by decide +kernel
theorem dX4_take_94 : decode cX4_take 94 = .ok (.iload 4, 2) := by decide +kernel
theorem dX4_take_96 : decode cX4_take 96 = .ok (.iconst 1, 1) := by decide +kernel
theorem dX4_take_97 : decode cX4_take 97 = .ok (.isub, 1) := by decide +kernel
theorem dX4_take_98 : decode cX4_take 98 = .ok (.iaload, 1) := by decide +kernel
theorem dX4_take_99 : decode cX4_take 99 = .ok (.invokevirtual 35, 3) := by decide +kernel
theorem dX4_take_102 : decode cX4_take 102 = .ok (.iinc 4 (-1), 3) := by decide +kernel
theorem dX4_take_105 : decode cX4_take 105 = .ok (.goto (-54), 3) := by decide +kernel
theorem dX4_take_108 : decode cX4_take 108 = .ok (.aload_n 0, 1) := by decide +kernel
theorem dX4_take_109 : decode cX4_take 109 = .ok (.iload 4, 2) := by decide +kernel
theorem dX4_take_111 : decode cX4_take 111 = .ok (.iload_n 1, 1) := by decide +kernel
theorem dX4_take_112 : decode cX4_take 112 = .ok (.iload_n 2, 1) := by decide +kernel
theorem dX4_take_113 : decode cX4_take 113 = .ok (.iload_n 3, 1) := by decide +kernel
theorem dX4_take_114 : decode cX4_take 114 = .ok (.invokevirtual 35, 3) := by decide +kernel
theorem dX4_take_117 : decode cX4_take 117 = .ok (.aload_n 0, 1) := by decide +kernel
theorem dX4_take_118 : decode cX4_take 118 = .ok (.dup, 1) := by decide +kernel
theorem dX4_take_119 : decode cX4_take 119 = .ok (.getfield 27, 3) := by decide +kernel
theorem dX4_take_122 : decode cX4_take 122 = .ok (.iconst 1, 1) := by decide +kernel
theorem dX4_take_123 : decode cX4_take 123 = .ok (.iadd, 1) := by decide +kernel
theorem dX4_take_124 : decode cX4_take 124 = .ok (.putfield 27, 3) := by decide +kernel
theorem dX4_take_127 : decode cX4_take 127 = .ok (.aload_n 0, 1) := by decide +kernel
theorem dX4_take_128 : decode cX4_take 128 = .ok (.getfield 27, 3) := by decide +kernel
theorem dX4_take_131 : decode cX4_take 131 = .ok (.ireturn, 1) := by decide +kernel
theorem dX4_setRow_0 : decode cX4_setRow 0 = .ok (.aload_n 0, 1) := by decide +kernel
theorem dX4_setRow_1 : decode cX4_setRow 1 = .ok (.getfield 9, 3) := by decide +kernel
theorem dX4_setRow_4 : decode cX4_setRow 4 = .ok (.iload_n 1, 1) := by decide +kernel
theorem dX4_setRow_5 : decode cX4_setRow 5 = .ok (.iload_n 2, 1) := by decide +kernel
theorem dX4_setRow_6 : decode cX4_setRow 6 = .ok (.iastore, 1) := by decide +kernel
theorem dX4_setRow_7 : decode cX4_setRow 7 = .ok (.aload_n 0, 1) := by decide +kernel
theorem dX4_setRow_8 : decode cX4_setRow 8 = .ok (.getfield 15, 3) := by decide +kernel
theorem dX4_setRow_11 : decode cX4_setRow 11 = .ok (.iload_n 1, 1) := by decide +kernel
theorem dX4_setRow_12 : decode cX4_setRow 12 = .ok (.iload_n 3, 1) := by decide +kernel
theorem dX4_setRow_13 : decode cX4_setRow 13 = .ok (.iastore, 1) := by decide +kernel
theorem dX4_setRow_14 : decode cX4_setRow 14 = .ok (.aload_n 0, 1) := by decide +kernel
theorem dX4_setRow_15 : decode cX4_setRow 15 = .ok (.getfield 18, 3) := by decide +kernel
theorem dX4_setRow_18 : decode cX4_setRow 18 = .ok (.iload_n 1, 1) := by decide +kernel
theorem dX4_setRow_19 : decode cX4_setRow 19 = .ok (.iload 4, 2) := by decide +kernel
theorem dX4_setRow_21 : decode cX4_setRow 21 = .ok (.iastore, 1) := by decide +kernel
theorem dX4_setRow_22 : decode cX4_setRow 22 = .ok (.return_, 1) := by decide +kernel
theorem dX4_dropFirst_0 : decode cX4_dropFirst 0 = .ok (.iconst 1, 1) := by decide +kernel
theorem dX4_dropFirst_1 : decode cX4_dropFirst 1 = .ok (.istore_n 1, 1) := by decide +kernel
theorem dX4_dropFirst_2 : decode cX4_dropFirst 2 = .ok (.iload_n 1, 1) := by decide +kernel
theorem dX4_dropFirst_3 : decode cX4_dropFirst 3 = .ok (.aload_n 0, 1) := by decide +kernel
theorem dX4_dropFirst_4 : decode cX4_dropFirst 4 = .ok (.getfield 27, 3) := by decide +kernel
theorem dX4_dropFirst_7 : decode cX4_dropFirst 7 = .ok (.if_icmp .ge 34, 3) := by decide +kernel
theorem dX4_dropFirst_10 : decode cX4_dropFirst 10 = .ok (.aload_n 0, 1) := by decide +kernel
theorem dX4_dropFirst_11 : decode cX4_dropFirst 11 = .ok (.iload_n 1, 1) := by decide +kernel
theorem dX4_dropFirst_12 : decode cX4_dropFirst 12 = .ok (.iconst 1, 1) := by decide +kernel
theorem dX4_dropFirst_13 : decode cX4_dropFirst 13 = .ok (.isub, 1) := by decide +kernel
theorem dX4_dropFirst_14 : decode cX4_dropFirst 14 = .ok (.aload_n 0, 1) := by decide +kernel
theorem dX4_dropFirst_15 : decode cX4_dropFirst 15 = .ok (.getfield 9, 3) := by decide +kernel
theorem dX4_dropFirst_18 : decode cX4_dropFirst 18 = .ok (.iload_n 1, 1) := by decide +kernel
theorem dX4_dropFirst_19 : decode cX4_dropFirst 19 = .ok (.iaload, 1) := by decide +kernel
theorem dX4_dropFirst_20 : decode cX4_dropFirst 20 = .ok (.aload_n 0, 1) := by decide +kernel
theorem dX4_dropFirst_21 : decode cX4_dropFirst 21 = .ok (.getfield 15, 3) := by decide +kernel
theorem dX4_dropFirst_24 : decode cX4_dropFirst 24 = .ok (.iload_n 1, 1) := by decide +kernel
theorem dX4_dropFirst_25 : decode cX4_dropFirst 25 = .ok (.iaload, 1) := by decide +kernel
theorem dX4_dropFirst_26 : decode cX4_dropFirst 26 = .ok (.aload_n 0, 1) := by decide +kernel
theorem dX4_dropFirst_27 : decode cX4_dropFirst 27 = .ok (.getfield 18, 3) := by decide +kernel
theorem dX4_dropFirst_30 : decode cX4_dropFirst 30 = .ok (.iload_n 1, 1) := by decide +kernel
theorem dX4_dropFirst_31 : decode cX4_dropFirst 31 = .ok (.iaload, 1) := by decide +kernel
theorem dX4_dropFirst_32 : decode cX4_dropFirst 32 = .ok (.invokevirtual 35, 3) := by decide +kernel
theorem dX4_dropFirst_35 : decode cX4_dropFirst 35 = .ok (.iinc 1 1, 3) := by decide +kernel
theorem dX4_dropFirst_38 : decode cX4_dropFirst 38 = .ok (.goto (-36), 3) := by decide +kernel
theorem dX4_dropFirst_41 : decode cX4_dropFirst 41 = .ok (.aload_n 0, 1) := by decide +kernel
theorem dX4_dropFirst_42 : decode cX4_dropFirst 42 = .ok (.iconst 0, 1) := by decide +kernel
theorem dX4_dropFirst_43 : decode cX4_dropFirst 43 = .ok (.aload_n 0, 1) := by decide +kernel
theorem dX4_dropFirst_44 : decode cX4_dropFirst 44 = .ok (.getfield 27, 3) := by decide +kernel
theorem dX4_dropFirst_47 : decode cX4_dropFirst 47 = .ok (.iconst 1, 1) := by decide +kernel
theorem dX4_dropFirst_48 : decode cX4_dropFirst 48 = .ok (.isub, 1) := by decide +kernel
theorem dX4_dropFirst_49 : decode cX4_dropFirst 49 = .ok (.invokestatic 39, 3) := by decide +kernel
theorem dX4_dropFirst_52 : decode cX4_dropFirst 52 = .ok (.putfield 27, 3) := by decide +kernel
theorem dX4_dropFirst_55 : decode cX4_dropFirst 55 = .ok (.return_, 1) := by decide +kernel
theorem dX4_told_0 : decode cX4_told 0 = .ok (.iload_n 1, 1) := by decide +kernel
theorem dX4_told_1 : decode cX4_told 1 = .ok (.iconst 0, 1) := by decide +kernel
theorem dX4_told_2 : decode cX4_told 2 = .ok (.aload_n 0, 1) := by decide +kernel
theorem dX4_told_3 : decode cX4_told 3 = .ok (.getfield 27, 3) := by decide +kernel
theorem dX4_told_6 : decode cX4_told 6 = .ok (.iconst 1, 1) := by decide +kernel
theorem dX4_told_7 : decode cX4_told 7 = .ok (.isub, 1) := by decide +kernel
theorem dX4_told_8 : decode cX4_told 8 = .ok (.invokestatic 31, 3) := by decide +kernel
theorem dX4_told_11 : decode cX4_told 11 = .ok (.ifCond .ne 5, 3) := by decide +kernel
theorem dX4_told_14 : decode cX4_told 14 = .ok (.iconst (-1), 1) := by decide +kernel
theorem dX4_told_15 : decode cX4_told 15 = .ok (.ireturn, 1) := by decide +kernel
theorem dX4_told_16 : decode cX4_told 16 = .ok (.iload_n 2, 1) := by decide +kernel
theorem dX4_told_17 : decode cX4_told 17 = .ok (.tableswitch 48 0 2 #[27, 34, 41], 27) := by decide +kernel
theorem dX4_told_44 : decode cX4_told 44 = .ok (.aload_n 0, 1) := by decide +kernel
theorem dX4_told_45 : decode cX4_told 45 = .ok (.getfield 9, 3) := by decide +kernel
theorem dX4_told_48 : decode cX4_told 48 = .ok (.iload_n 1, 1) := by decide +kernel
theorem dX4_told_49 : decode cX4_told 49 = .ok (.iaload, 1) := by decide +kernel
theorem dX4_told_50 : decode cX4_told 50 = .ok (.ireturn, 1) := by decide +kernel
theorem dX4_told_51 : decode cX4_told 51 = .ok (.aload_n 0, 1) := by decide +kernel
theorem dX4_told_52 : decode cX4_told 52 = .ok (.getfield 15, 3) := by decide +kernel
theorem dX4_told_55 : decode cX4_told 55 = .ok (.iload_n 1, 1) := by decide +kernel
theorem dX4_told_56 : decode cX4_told 56 = .ok (.iaload, 1) := by decide +kernel
theorem dX4_told_57 : decode cX4_told 57 = .ok (.ireturn, 1) := by decide +kernel
theorem dX4_told_58 : decode cX4_told 58 = .ok (.aload_n 0, 1) := by decide +kernel
theorem dX4_told_59 : decode cX4_told 59 = .ok (.getfield 18, 3) := by decide +kernel
theorem dX4_told_62 : decode cX4_told 62 = .ok (.iload_n 1, 1) := by decide +kernel
theorem dX4_told_63 : decode cX4_told 63 = .ok (.iaload, 1) := by decide +kernel
theorem dX4_told_64 : decode cX4_told 64 = .ok (.ireturn, 1) := by decide +kernel
theorem dX4_told_65 : decode cX4_told 65 = .ok (.bipush (-2), 2) := by decide +kernel
theorem dX4_told_67 : decode cX4_told 67 = .ok (.ireturn, 1) := by decide +kernel
theorem dX5_init_0 : decode cX5_init 0 = .ok (.aload_n 0, 1) := by decide +kernel
theorem dX5_init_1 : decode cX5_init 1 = .ok (.invokespecial 3, 3) := by decide +kernel
theorem dX5_init_4 : decode cX5_init 4 = .ok (.aload_n 0, 1) := by decide +kernel
theorem dX5_init_5 : decode cX5_init 5 = .ok (.new 9, 3) := by decide +kernel
theorem dX5_init_8 : decode cX5_init 8 = .ok (.dup, 1) := by decide +kernel
theorem dX5_init_9 : decode cX5_init 9 = .ok (.invokespecial 11, 3) := by decide +kernel
theorem dX5_init_12 : decode cX5_init 12 = .ok (.putfield 12, 3) := by decide +kernel
theorem dX5_init_15 : decode cX5_init 15 = .ok (.aload_n 0, 1) := by decide +kernel
theorem dX5_init_16 : decode cX5_init 16 = .ok (.new 9, 3) := by decide +kernel
theorem dX5_init_19 : decode cX5_init 19 = .ok (.dup, 1) := by decide +kernel
theorem dX5_init_20 : decode cX5_init 20 = .ok (.invokespecial 11, 3) := by decide +kernel
theorem dX5_init_23 : decode cX5_init 23 = .ok (.putfield 16, 3) := by decide +kernel
theorem dX5_init_26 : decode cX5_init 26 = .ok (.aload_n 0, 1) := by decide +kernel
theorem dX5_init_27 : decode cX5_init 27 = .ok (.new 19, 3) := by decide +kernel
theorem dX5_init_30 : decode cX5_init 30 = .ok (.dup, 1) := by decide +kernel
theorem dX5_init_31 : decode cX5_init 31 = .ok (.invokespecial 21, 3) := by decide +kernel
theorem dX5_init_34 : decode cX5_init 34 = .ok (.putfield 22, 3) := by decide +kernel
theorem dX5_init_37 : decode cX5_init 37 = .ok (.aload_n 0, 1) := by decide +kernel
theorem dX5_init_38 : decode cX5_init 38 = .ok (.iconst 2, 1) := by decide +kernel
theorem dX5_init_39 : decode cX5_init 39 = .ok (.anewarray 9, 3) := by decide +kernel
theorem dX5_init_42 : decode cX5_init 42 = .ok (.putfield 26, 3) := by decide +kernel
theorem dX5_init_45 : decode cX5_init 45 = .ok (.aload_n 0, 1) := by decide +kernel
theorem dX5_init_46 : decode cX5_init 46 = .ok (.iconst 2, 1) := by decide +kernel
theorem dX5_init_47 : decode cX5_init 47 = .ok (.newarray .boolean, 2) := by decide +kernel
theorem dX5_init_49 : decode cX5_init 49 = .ok (.putfield 30, 3) := by decide +kernel
theorem dX5_init_52 : decode cX5_init 52 = .ok (.aload_n 0, 1) := by decide +kernel
theorem dX5_init_53 : decode cX5_init 53 = .ok (.new 34, 3) := by decide +kernel
theorem dX5_init_56 : decode cX5_init 56 = .ok (.dup, 1) := by decide +kernel
theorem dX5_init_57 : decode cX5_init 57 = .ok (.invokespecial 36, 3) := by decide +kernel
theorem dX5_init_60 : decode cX5_init 60 = .ok (.putfield 37, 3) := by decide +kernel
theorem dX5_init_63 : decode cX5_init 63 = .ok (.iconst 0, 1) := by decide +kernel
theorem dX5_init_64 : decode cX5_init 64 = .ok (.istore_n 1, 1) := by decide +kernel
theorem dX5_init_65 : decode cX5_init 65 = .ok (.iload_n 1, 1) := by decide +kernel
theorem dX5_init_66 : decode cX5_init 66 = .ok (.iconst 2, 1) := by decide +kernel
theorem dX5_init_67 : decode cX5_init 67 = .ok (.if_icmp .ge 22, 3) := by decide +kernel
theorem dX5_init_70 : decode cX5_init 70 = .ok (.aload_n 0, 1) := by decide +kernel
theorem dX5_init_71 : decode cX5_init 71 = .ok (.getfield 26, 3) := by decide +kernel
theorem dX5_init_74 : decode cX5_init 74 = .ok (.iload_n 1, 1) := by decide +kernel
theorem dX5_init_75 : decode cX5_init 75 = .ok (.new 9, 3) := by decide +kernel
theorem dX5_init_78 : decode cX5_init 78 = .ok (.dup, 1) := by decide +kernel
theorem dX5_init_79 : decode cX5_init 79 = .ok (.invokespecial 11, 3) := by decide +kernel
theorem dX5_init_82 : decode cX5_init 82 = .ok (.aastore, 1) := by decide +kernel
theorem dX5_init_83 : decode cX5_init 83 = .ok (.iinc 1 1, 3) := by decide +kernel
theorem dX5_init_86 : decode cX5_init 86 = .ok (.goto (-21), 3) := by decide +kernel
theorem dX5_init_89 : decode cX5_init 89 = .ok (.return_, 1) := by decide +kernel
theorem dX5_loco_0 : decode cX5_loco 0 = .ok (.aload_n 0, 1) := by decide +kernel
theorem dX5_loco_1 : decode cX5_loco 1 = .ok (.getfield 22, 3) := by decide +kernel
theorem dX5_loco_4 : decode cX5_loco 4 = .ok (.aload_n 0, 1) := by decide +kernel
theorem dX5_loco_5 : decode cX5_loco 5 = .ok (.getfield 12, 3) := by decide +kernel
theorem dX5_loco_8 : decode cX5_loco 8 = .ok (.invokevirtual 41, 3) := by decide +kernel
theorem dX5_loco_11 : decode cX5_loco 11 = .ok (.aload_n 0, 1) := by decide +kernel
theorem dX5_loco_12 : decode cX5_loco 12 = .ok (.getfield 22, 3) := by decide +kernel
theorem dX5_loco_15 : decode cX5_loco 15 = .ok (.aload_n 0, 1) := by decide +kernel
theorem dX5_loco_16 : decode cX5_loco 16 = .ok (.getfield 12, 3) := by decide +kernel
theorem dX5_loco_19 : decode cX5_loco 19 = .ok (.iload_n 1, 1) := by decide +kernel
theorem dX5_loco_20 : decode cX5_loco 20 = .ok (.iload_n 2, 1) := by decide +kernel
theorem dX5_loco_21 : decode cX5_loco 21 = .ok (.iload_n 3, 1) := by decide +kernel
theorem dX5_loco_22 : decode cX5_loco 22 = .ok (.iload 4, 2) := by decide +kernel
theorem dX5_loco_24 : decode cX5_loco 24 = .ok (.invokevirtual 45, 3) := by decide +kernel
theorem dX5_loco_27 : decode cX5_loco 27 = .ok (.invokevirtual 49, 3) := by decide +kernel
theorem dX5_loco_30 : decode cX5_loco 30 = .ok (.ireturn, 1) := by decide +kernel
theorem dX5_lift_0 : decode cX5_lift 0 = .ok (.aload_n 0, 1) := by decide +kernel
theorem dX5_lift_1 : decode cX5_lift 1 = .ok (.getfield 22, 3) := by decide +kernel
theorem dX5_lift_4 : decode cX5_lift 4 = .ok (.aload_n 0, 1) := by decide +kernel
theorem dX5_lift_5 : decode cX5_lift 5 = .ok (.getfield 12, 3) := by decide +kernel
theorem dX5_lift_8 : decode cX5_lift 8 = .ok (.invokevirtual 41, 3) := by decide +kernel
theorem dX5_lift_11 : decode cX5_lift 11 = .ok (.aload_n 0, 1) := by decide +kernel
theorem dX5_lift_12 : decode cX5_lift 12 = .ok (.getfield 22, 3) := by decide +kernel
theorem dX5_lift_15 : decode cX5_lift 15 = .ok (.aload_n 0, 1) := by decide +kernel
theorem dX5_lift_16 : decode cX5_lift 16 = .ok (.getfield 12, 3) := by decide +kernel
theorem dX5_lift_19 : decode cX5_lift 19 = .ok (.iload_n 1, 1) := by decide +kernel
theorem dX5_lift_20 : decode cX5_lift 20 = .ok (.invokevirtual 53, 3) := by decide +kernel
theorem dX5_lift_23 : decode cX5_lift 23 = .ok (.invokevirtual 49, 3) := by decide +kernel
theorem dX5_lift_26 : decode cX5_lift 26 = .ok (.ireturn, 1) := by decide +kernel
theorem dX5_noise_0 : decode cX5_noise 0 = .ok (.aload_n 0, 1) := by decide +kernel
theorem dX5_noise_1 : decode cX5_noise 1 = .ok (.getfield 22, 3) := by decide +kernel
theorem dX5_noise_4 : decode cX5_noise 4 = .ok (.aload_n 0, 1) := by decide +kernel
theorem dX5_noise_5 : decode cX5_noise 5 = .ok (.getfield 12, 3) := by decide +kernel
theorem dX5_noise_8 : decode cX5_noise 8 = .ok (.invokevirtual 41, 3) := by decide +kernel
theorem dX5_noise_11 : decode cX5_noise 11 = .ok (.aload_n 0, 1) := by decide +kernel
theorem dX5_noise_12 : decode cX5_noise 12 = .ok (.getfield 22, 3) := by decide +kernel
theorem dX5_noise_15 : decode cX5_noise 15 = .ok (.aload_n 0, 1) := by decide +kernel
theorem dX5_noise_16 : decode cX5_noise 16 = .ok (.getfield 12, 3) := by decide +kernel
theorem dX5_noise_19 : decode cX5_noise 19 = .ok (.iload_n 1, 1) := by decide +kernel
theorem dX5_noise_20 : decode cX5_noise 20 = .ok (.invokevirtual 56, 3) := by decide +kernel
theorem dX5_noise_23 : decode cX5_noise 23 = .ok (.invokevirtual 49, 3) := by decide +kernel
theorem dX5_noise_26 : decode cX5_noise 26 = .ok (.ireturn, 1) := by decide +kernel
theorem dX5_order_0 : decode cX5_order 0 = .ok (.aload_n 0, 1) := by decide +kernel
theorem dX5_order_1 : decode cX5_order 1 = .ok (.getfield 22, 3) := by decide +kernel
theorem dX5_order_4 : decode cX5_order 4 = .ok (.aload_n 0, 1) := by decide +kernel
theorem dX5_order_5 : decode cX5_order 5 = .ok (.getfield 12, 3) := by decide +kernel
theorem dX5_order_8 : decode cX5_order 8 = .ok (.invokevirtual 41, 3) := by decide +kernel
theorem dX5_order_11 : decode cX5_order 11 = .ok (.aload_n 0, 1) := by decide +kernel
theorem dX5_order_12 : decode cX5_order 12 = .ok (.getfield 22, 3) := by decide +kernel
theorem dX5_order_15 : decode cX5_order 15 = .ok (.aload_n 0, 1) := by decide +kernel
theorem dX5_order_16 : decode cX5_order 16 = .ok (.getfield 12, 3) := by decide +kernel
theorem dX5_order_19 : decode cX5_order 19 = .ok (.getfield 59, 3) := by decide +kernel
theorem dX5_order_22 : decode cX5_order 22 = .ok (.iload_n 1, 1) := by decide +kernel
theorem dX5_order_23 : decode cX5_order 23 = .ok (.iload_n 2, 1) := by decide +kernel
theorem dX5_order_24 : decode cX5_order 24 = .ok (.iload_n 3, 1) := by decide +kernel
theorem dX5_order_25 : decode cX5_order 25 = .ok (.invokevirtual 63, 3) := by decide +kernel
theorem dX5_order_28 : decode cX5_order 28 = .ok (.invokevirtual 49, 3) := by decide +kernel
theorem dX5_order_31 : decode cX5_order 31 = .ok (.ireturn, 1) := by decide +kernel
theorem dX5_frame_0 : decode cX5_frame 0 = .ok (.aload_n 0, 1) := by decide +kernel
theorem dX5_frame_1 : decode cX5_frame 1 = .ok (.getfield 22, 3) := by decide +kernel
theorem dX5_frame_4 : decode cX5_frame 4 = .ok (.aload_n 0, 1) := by decide +kernel
theorem dX5_frame_5 : decode cX5_frame 5 = .ok (.getfield 12, 3) := by decide +kernel
theorem dX5_frame_8 : decode cX5_frame 8 = .ok (.invokevirtual 41, 3) := by decide +kernel
theorem dX5_frame_11 : decode cX5_frame 11 = .ok (.aload_n 0, 1) := by decide +kernel
theorem dX5_frame_12 : decode cX5_frame 12 = .ok (.getfield 22, 3) := by decide +kernel
theorem dX5_frame_15 : decode cX5_frame 15 = .ok (.aload_n 0, 1) := by decide +kernel
theorem dX5_frame_16 : decode cX5_frame 16 = .ok (.getfield 12, 3) := by decide +kernel
theorem dX5_frame_19 : decode cX5_frame 19 = .ok (.iload_n 1, 1) := by decide +kernel
theorem dX5_frame_20 : decode cX5_frame 20 = .ok (.iload_n 2, 1) := by decide +kernel
theorem dX5_frame_21 : decode cX5_frame 21 = .ok (.iload_n 3, 1) := by decide +kernel
theorem dX5_frame_22 : decode cX5_frame 22 = .ok (.invokevirtual 69, 3) := by decide +kernel
theorem dX5_frame_25 : decode cX5_frame 25 = .ok (.invokevirtual 49, 3) := by decide +kernel
theorem dX5_frame_28 : decode cX5_frame 28 = .ok (.ireturn, 1) := by decide +kernel
theorem dX5_shorts_0 : decode cX5_shorts 0 = .ok (.aload_n 0, 1) := by decide +kernel
theorem dX5_shorts_1 : decode cX5_shorts 1 = .ok (.getfield 22, 3) := by decide +kernel
theorem dX5_shorts_4 : decode cX5_shorts 4 = .ok (.aload_n 0, 1) := by decide +kernel
theorem dX5_shorts_5 : decode cX5_shorts 5 = .ok (.getfield 12, 3) := by decide +kernel
theorem dX5_shorts_8 : decode cX5_shorts 8 = .ok (.invokevirtual 41, 3) := by decide +kernel
theorem dX5_shorts_11 : decode cX5_shorts 11 = .ok (.aload_n 0, 1) := by decide +kernel
theorem dX5_shorts_12 : decode cX5_shorts 12 = .ok (.getfield 22, 3) := by decide +kernel
theorem dX5_shorts_15 : decode cX5_shorts 15 = .ok (.aload_n 0, 1) := by decide +kernel
theorem dX5_shorts_16 : decode cX5_shorts 16 = .ok (.getfield 12, 3) := by decide +kernel
theorem dX5_shorts_19 : decode cX5_shorts 19 = .ok (.iload_n 1, 1) := by decide +kernel
theorem dX5_shorts_20 : decode cX5_shorts 20 = .ok (.iload_n 2, 1) := by decide +kernel
theorem dX5_shorts_21 : decode cX5_shorts 21 = .ok (.invokevirtual 72, 3) := by decide +kernel
theorem dX5_shorts_24 : decode cX5_shorts 24 = .ok (.invokevirtual 49, 3) := by decide +kernel
theorem dX5_shorts_27 : decode cX5_shorts 27 = .ok (.ireturn, 1) := by decide +kernel
theorem dX5_pass_0 : decode cX5_pass 0 = .ok (.aload_n 0, 1) := by decide +kernel
theorem dX5_pass_1 : decode cX5_pass 1 = .ok (.getfield 22, 3) := by decide +kernel
theorem dX5_pass_4 : decode cX5_pass 4 = .ok (.aload_n 0, 1) := by decide +kernel
theorem dX5_pass_5 : decode cX5_pass 5 = .ok (.getfield 12, 3) := by decide +kernel
theorem dX5_pass_8 : decode cX5_pass 8 = .ok (.invokevirtual 41, 3) := by decide +kernel
theorem dX5_pass_11 : decode cX5_pass 11 = .ok (.aload_n 0, 1) := by decide +kernel
theorem dX5_pass_12 : decode cX5_pass 12 = .ok (.getfield 22, 3) := by decide +kernel
theorem dX5_pass_15 : decode cX5_pass 15 = .ok (.aload_n 0, 1) := by decide +kernel
theorem dX5_pass_16 : decode cX5_pass 16 = .ok (.getfield 12, 3) := by decide +kernel
theorem dX5_pass_19 : decode cX5_pass 19 = .ok (.iload_n 1, 1) := by decide +kernel
theorem dX5_pass_20 : decode cX5_pass 20 = .ok (.invokevirtual 76, 3) := by decide +kernel
theorem dX5_pass_23 : decode cX5_pass 23 = .ok (.invokevirtual 49, 3) := by decide +kernel
theorem dX5_pass_26 : decode cX5_pass 26 = .ok (.ireturn, 1) := by decide +kernel
theorem dX5_of_0 : decode cX5_of 0 = .ok (.aload_n 0, 1) := by decide +kernel
theorem dX5_of_1 : decode cX5_of 1 = .ok (.getfield 12, 3) := by decide +kernel
theorem dX5_of_4 : decode cX5_of 4 = .ok (.iload_n 1, 1) := by decide +kernel
theorem dX5_of_5 : decode cX5_of 5 = .ok (.invokevirtual 79, 3) := by decide +kernel
theorem dX5_of_8 : decode cX5_of 8 = .ok (.astore_n 3, 1) := by decide +kernel
theorem dX5_of_9 : decode cX5_of 9 = .ok (.aload_n 3, 1) := by decide +kernel
theorem dX5_of_10 : decode cX5_of 10 = .ok (.ifnonnull 7, 3) := by decide +kernel
theorem dX5_of_13 : decode cX5_of 13 = .ok (.iconst (-1), 1) := by decide +kernel
theorem dX5_of_14 : decode cX5_of 14 = .ok (.goto 8, 3) := by decide +kernel
theorem dX5_of_17 : decode cX5_of 17 = .ok (.aload_n 3, 1) := by decide +kernel
theorem dX5_of_18 : decode cX5_of 18 = .ok (.iload_n 2, 1) := by decide +kernel
theorem dX5_of_19 : decode cX5_of 19 = .ok (.invokevirtual 83, 3) := by decide +kernel
theorem dX5_of_22 : decode cX5_of 22 = .ok (.ireturn, 1) := by decide +kernel
theorem dX5_address_0 : decode cX5_address 0 = .ok (.aload_n 0, 1) := by decide +kernel
theorem dX5_address_1 : decode cX5_address 1 = .ok (.getfield 12, 3) := by decide +kernel
theorem dX5_address_4 : decode cX5_address 4 = .ok (.iload_n 1, 1) := by decide +kernel
theorem dX5_address_5 : decode cX5_address 5 = .ok (.invokevirtual 88, 3) := by decide +kernel
theorem dX5_address_8 : decode cX5_address 8 = .ok (.astore_n 2, 1) := by decide +kernel
theorem dX5_address_9 : decode cX5_address 9 = .ok (.aload_n 2, 1) := by decide +kernel
theorem dX5_address_10 : decode cX5_address 10 = .ok (.ifnonnull 7, 3) := by decide +kernel
theorem dX5_address_13 : decode cX5_address 13 = .ok (.iconst (-1), 1) := by decide +kernel
theorem dX5_address_14 : decode cX5_address 14 = .ok (.goto 7, 3) := by decide +kernel
theorem dX5_address_17 : decode cX5_address 17 = .ok (.aload_n 2, 1) := by decide +kernel
theorem dX5_address_18 : decode cX5_address 18 = .ok (.getfield 91, 3) := by decide +kernel
theorem dX5_address_21 : decode cX5_address 21 = .ok (.ireturn, 1) := by decide +kernel
theorem dX5_waiting_0 : decode cX5_waiting 0 = .ok (.aload_n 0, 1) := by decide +kernel
theorem dX5_waiting_1 : decode cX5_waiting 1 = .ok (.getfield 12, 3) := by decide +kernel
theorem dX5_waiting_4 : decode cX5_waiting 4 = .ok (.getfield 59, 3) := by decide +kernel
theorem dX5_waiting_7 : decode cX5_waiting 7 = .ok (.iload_n 1, 1) := by decide +kernel
theorem dX5_waiting_8 : decode cX5_waiting 8 = .ok (.iload_n 2, 1) := by decide +kernel
theorem dX5_waiting_9 : decode cX5_waiting 9 = .ok (.invokevirtual 95, 3) := by decide +kernel
theorem dX5_waiting_12 : decode cX5_waiting 12 = .ok (.ireturn, 1) := by decide +kernel
theorem dX5_block_0 : decode cX5_block 0 = .ok (.iload_n 1, 1) := by decide +kernel
theorem dX5_block_1 : decode cX5_block 1 = .ok (.invokestatic 97, 3) := by decide +kernel
theorem dX5_block_4 : decode cX5_block 4 = .ok (.ifCond .ne 5, 3) := by decide +kernel
theorem dX5_block_7 : decode cX5_block 7 = .ok (.iconst (-1), 1) := by decide +kernel
theorem dX5_block_8 : decode cX5_block 8 = .ok (.ireturn, 1) := by decide +kernel
theorem dX5_block_9 : decode cX5_block 9 = .ok (.iload_n 2, 1) := by decide +kernel
theorem dX5_block_10 : decode cX5_block 10 = .ok (.lookupswitch 45 #[(0, 26), (1, 36)], 26) := by decide +kernel
theorem dX5_block_36 : decode cX5_block 36 = .ok (.aload_n 0, 1) := by decide +kernel
theorem dX5_block_37 : decode cX5_block 37 = .ok (.getfield 12, 3) := by decide +kernel
theorem dX5_block_40 : decode cX5_block 40 = .ok (.getfield 101, 3) := by decide +kernel
theorem dX5_block_43 : decode cX5_block 43 = .ok (.iload_n 1, 1) := by decide +kernel
theorem dX5_block_44 : decode cX5_block 44 = .ok (.iaload, 1) := by decide +kernel
theorem dX5_block_45 : decode cX5_block 45 = .ok (.ireturn, 1) := by decide +kernel
theorem dX5_block_46 : decode cX5_block 46 = .ok (.aload_n 0, 1) := by decide +kernel
theorem dX5_block_47 : decode cX5_block 47 = .ok (.getfield 12, 3) := by decide +kernel
theorem dX5_block_50 : decode cX5_block 50 = .ok (.iload_n 1, 1) := by decide +kernel
theorem dX5_block_51 : decode cX5_block 51 = .ok (.invokevirtual 105, 3) := by decide +kernel
theorem dX5_block_54 : decode cX5_block 54 = .ok (.ireturn, 1) := by decide +kernel
theorem dX5_block_55 : decode cX5_block 55 = .ok (.bipush (-2), 2) := by decide +kernel
theorem dX5_block_57 : decode cX5_block 57 = .ok (.ireturn, 1) := by decide +kernel
theorem dX5_count_0 : decode cX5_count 0 = .ok (.iload_n 1, 1) := by decide +kernel
theorem dX5_count_1 : decode cX5_count 1 = .ok (.tableswitch 166 0 11 #[63, 71, 79, 90, 98, 106, 114, 122, 130, 138, 150, 158], 63) := by decide +kernel
theorem dX5_count_64 : decode cX5_count 64 = .ok (.aload_n 0, 1) := by decide +kernel
theorem dX5_count_65 : decode cX5_count 65 = .ok (.getfield 12, 3) := by decide +kernel
theorem dX5_count_68 : decode cX5_count 68 = .ok (.getfield 108, 3) := by decide +kernel
theorem dX5_count_71 : decode cX5_count 71 = .ok (.ireturn, 1) := by decide +kernel
theorem dX5_count_72 : decode cX5_count 72 = .ok (.aload_n 0, 1) := by decide +kernel
theorem dX5_count_73 : decode cX5_count 73 = .ok (.getfield 12, 3) := by decide +kernel
theorem dX5_count_76 : decode cX5_count 76 = .ok (.getfield 111, 3) := by decide +kernel
theorem dX5_count_79 : decode cX5_count 79 = .ok (.ireturn, 1) := by decide +kernel
theorem dX5_count_80 : decode cX5_count 80 = .ok (.aload_n 0, 1) := by decide +kernel
theorem dX5_count_81 : decode cX5_count 81 = .ok (.getfield 12, 3) := by decide +kernel
theorem dX5_count_84 : decode cX5_count 84 = .ok (.getfield 59, 3) := by decide +kernel
theorem dX5_count_87 : decode cX5_count 87 = .ok (.getfield 114, 3) := by decide +kernel
theorem dX5_count_90 : decode cX5_count 90 = .ok (.ireturn, 1) := by decide +kernel
theorem dX5_count_91 : decode cX5_count 91 = .ok (.aload_n 0, 1) := by decide +kernel
theorem dX5_count_92 : decode cX5_count 92 = .ok (.getfield 12, 3) := by decide +kernel
theorem dX5_count_95 : decode cX5_count 95 = .ok (.getfield 117, 3) := by decide +kernel
theorem dX5_count_98 : decode cX5_count 98 = .ok (.ireturn, 1) := by decide +kernel
theorem dX5_count_99 : decode cX5_count 99 = .ok (.aload_n 0, 1) := by decide +kernel
theorem dX5_count_100 : decode cX5_count 100 = .ok (.getfield 12, 3) := by decide +kernel
theorem dX5_count_103 : decode cX5_count 103 = .ok (.getfield 120, 3) := by decide +kernel
theorem dX5_count_106 : decode cX5_count 106 = .ok (.ireturn, 1) := by decide +kernel
theorem dX5_count_107 : decode cX5_count 107 = .ok (.aload_n 0, 1) := by decide +kernel
theorem dX5_count_108 : decode cX5_count 108 = .ok (.getfield 12, 3) := by decide +kernel
theorem dX5_count_111 : decode cX5_count 111 = .ok (.getfield 123, 3) := by decide +kernel
theorem dX5_count_114 : decode cX5_count 114 = .ok (.ireturn, 1) := by decide +kernel
theorem dX5_count_115 : decode cX5_count 115 = .ok (.aload_n 0, 1) := by decide +kernel
theorem dX5_count_116 : decode cX5_count 116 = .ok (.getfield 12, 3) := by decide +kernel
theorem dX5_count_119 : decode cX5_count 119 = .ok (.getfield 126, 3) := by decide +kernel
theorem dX5_count_122 : decode cX5_count 122 = .ok (.ireturn, 1) := by decide +kernel
theorem dX5_count_123 : decode cX5_count 123 = .ok (.aload_n 0, 1) := by decide +kernel
theorem dX5_count_124 : decode cX5_count 124 = .ok (.getfield 12, 3) := by decide +kernel
theorem dX5_count_127 : decode cX5_count 127 = .ok (.invokevirtual 129, 3) := by decide +kernel
theorem dX5_count_130 : decode cX5_count 130 = .ok (.ireturn, 1) := by decide +kernel
theorem dX5_count_131 : decode cX5_count 131 = .ok (.aload_n 0, 1) := by decide +kernel
theorem dX5_count_132 : decode cX5_count 132 = .ok (.getfield 12, 3) := by decide +kernel
theorem dX5_count_135 : decode cX5_count 135 = .ok (.invokevirtual 133, 3) := by decide +kernel
theorem dX5_count_138 : decode cX5_count 138 = .ok (.ireturn, 1) := by decide +kernel
theorem dX5_count_139 : decode cX5_count 139 = .ok (.aload_n 0, 1) := by decide +kernel
theorem dX5_count_140 : decode cX5_count 140 = .ok (.getfield 12, 3) := by decide +kernel
theorem dX5_count_143 : decode cX5_count 143 = .ok (.invokevirtual 136, 3) := by decide +kernel
theorem dX5_count_146 : decode cX5_count 146 = .ok (.sipush 10000, 3) := by decide +kernel
theorem dX5_count_149 : decode cX5_count 149 = .ok (.iadd, 1) := by decide +kernel
theorem dX5_count_150 : decode cX5_count 150 = .ok (.ireturn, 1) := by decide +kernel
theorem dX5_count_151 : decode cX5_count 151 = .ok (.aload_n 0, 1) := by decide +kernel
theorem dX5_count_152 : decode cX5_count 152 = .ok (.getfield 37, 3) := by decide +kernel
theorem dX5_count_155 : decode cX5_count 155 = .ok (.getfield 139, 3) := by decide +kernel
theorem dX5_count_158 : decode cX5_count 158 = .ok (.ireturn, 1) := by decide +kernel
theorem dX5_count_159 : decode cX5_count 159 = .ok (.aload_n 0, 1) := by decide +kernel
theorem dX5_count_160 : decode cX5_count 160 = .ok (.getfield 22, 3) := by decide +kernel
theorem dX5_count_163 : decode cX5_count 163 = .ok (.getfield 142, 3) := by decide +kernel
theorem dX5_count_166 : decode cX5_count 166 = .ok (.ireturn, 1) := by decide +kernel
theorem dX5_count_167 : decode cX5_count 167 = .ok (.bipush (-2), 2) := by decide +kernel
theorem dX5_count_169 : decode cX5_count 169 = .ok (.ireturn, 1) := by decide +kernel
theorem dX5_reaches_0 : decode cX5_reaches 0 = .ok (.aload_n 0, 1) := by decide +kernel
theorem dX5_reaches_1 : decode cX5_reaches 1 = .ok (.getfield 16, 3) := by decide +kernel
theorem dX5_reaches_4 : decode cX5_reaches 4 = .ok (.aload_n 0, 1) := by decide +kernel
theorem dX5_reaches_5 : decode cX5_reaches 5 = .ok (.getfield 12, 3) := by decide +kernel
theorem dX5_reaches_8 : decode cX5_reaches 8 = .ok (.invokevirtual 143, 3) := by decide +kernel
theorem dX5_reaches_11 : decode cX5_reaches 11 = .ok (.aload_n 0, 1) := by decide +kernel
theorem dX5_reaches_12 : decode cX5_reaches 12 = .ok (.getfield 16, 3) := by decide +kernel
theorem dX5_reaches_15 : decode cX5_reaches 15 = .ok (.iload_n 1, 1) := by decide +kernel
theorem dX5_reaches_16 : decode cX5_reaches 16 = .ok (.invokevirtual 79, 3) := by decide +kernel
theorem dX5_reaches_19 : decode cX5_reaches 19 = .ok (.astore_n 3, 1) := by decide +kernel
theorem dX5_reaches_20 : decode cX5_reaches 20 = .ok (.aload_n 3, 1) := by decide +kernel
theorem dX5_reaches_21 : decode cX5_reaches 21 = .ok (.ifnull 10, 3) := by decide +kernel
theorem dX5_reaches_24 : decode cX5_reaches 24 = .ok (.iload_n 2, 1) := by decide +kernel
theorem dX5_reaches_25 : decode cX5_reaches 25 = .ok (.invokestatic 97, 3) := by decide +kernel
theorem dX5_reaches_28 : decode cX5_reaches 28 = .ok (.ifCond .ne 5, 3) := by decide +kernel
theorem dX5_reaches_31 : decode cX5_reaches 31 = .ok (.iconst (-1), 1) := by decide +kernel
theorem dX5_reaches_32 : decode cX5_reaches 32 = .ok (.ireturn, 1) := by decide +kernel
theorem dX5_reaches_33 : decode cX5_reaches 33 = .ok (.iconst 0, 1) := by decide +kernel
theorem dX5_reaches_34 : decode cX5_reaches 34 = .ok (.istore 4, 2) := by decide +kernel
theorem dX5_reaches_36 : decode cX5_reaches 36 = .ok (.iload 4, 2) := by decide +kernel
theorem dX5_reaches_38 : decode cX5_reaches 38 = .ok (.sipush 1000, 3) := by decide +kernel
theorem dX5_reaches_41 : decode cX5_reaches 41 = .ok (.if_icmp .gt 28, 3) := by decide +kernel
theorem dX5_reaches_44 : decode cX5_reaches 44 = .ok (.aload_n 3, 1) := by decide +kernel
theorem dX5_reaches_45 : decode cX5_reaches 45 = .ok (.invokevirtual 146, 3) := by decide +kernel
theorem dX5_reaches_48 : decode cX5_reaches 48 = .ok (.iload_n 2, 1) := by decide +kernel
theorem dX5_reaches_49 : decode cX5_reaches 49 = .ok (.if_icmp .ne 6, 3) := by decide +kernel
theorem dX5_reaches_52 : decode cX5_reaches 52 = .ok (.iload 4, 2) := by decide +kernel
theorem dX5_reaches_54 : decode cX5_reaches 54 = .ok (.ireturn, 1) := by decide +kernel
theorem dX5_reaches_55 : decode cX5_reaches 55 = .ok (.aload_n 0, 1) := by decide +kernel
theorem dX5_reaches_56 : decode cX5_reaches 56 = .ok (.getfield 16, 3) := by decide +kernel
theorem dX5_reaches_59 : decode cX5_reaches 59 = .ok (.invokevirtual 149, 3) := by decide +kernel
theorem dX5_reaches_62 : decode cX5_reaches 62 = .ok (.pop, 1) := by decide +kernel
theorem dX5_reaches_63 : decode cX5_reaches 63 = .ok (.iinc 4 1, 3) := by decide +kernel
theorem dX5_reaches_66 : decode cX5_reaches 66 = .ok (.goto (-30), 3) := by decide +kernel
theorem dX5_reaches_69 : decode cX5_reaches 69 = .ok (.bipush (-6), 2) := by decide +kernel
theorem dX5_reaches_71 : decode cX5_reaches 71 = .ok (.ireturn, 1) := by decide +kernel
theorem dX5_settles_0 : decode cX5_settles 0 = .ok (.aload_n 0, 1) := by decide +kernel
theorem dX5_settles_1 : decode cX5_settles 1 = .ok (.getfield 12, 3) := by decide +kernel
theorem dX5_settles_4 : decode cX5_settles 4 = .ok (.iload_n 1, 1) := by decide +kernel
theorem dX5_settles_5 : decode cX5_settles 5 = .ok (.invokevirtual 79, 3) := by decide +kernel
theorem dX5_settles_8 : decode cX5_settles 8 = .ok (.astore_n 2, 1) := by decide +kernel
theorem dX5_settles_9 : decode cX5_settles 9 = .ok (.aload_n 2, 1) := by decide +kernel
theorem dX5_settles_10 : decode cX5_settles 10 = .ok (.ifnonnull 7, 3) := by decide +kernel
theorem dX5_settles_13 : decode cX5_settles 13 = .ok (.iconst (-1), 1) := by decide +kernel
theorem dX5_settles_14 : decode cX5_settles 14 = .ok (.goto 7, 3) := by decide +kernel
theorem dX5_settles_17 : decode cX5_settles 17 = .ok (.aload_n 2, 1) := by decide +kernel
theorem dX5_settles_18 : decode cX5_settles 18 = .ok (.invokevirtual 152, 3) := by decide +kernel
theorem dX5_settles_21 : decode cX5_settles 21 = .ok (.ireturn, 1) := by decide +kernel
theorem dX5_undo_0 : decode cX5_undo 0 = .ok (.aload_n 0, 1) := by decide +kernel
theorem dX5_undo_1 : decode cX5_undo 1 = .ok (.getfield 22, 3) := by decide +kernel
theorem dX5_undo_4 : decode cX5_undo 4 = .ok (.aload_n 0, 1) := by decide +kernel
theorem dX5_undo_5 : decode cX5_undo 5 = .ok (.getfield 12, 3) := by decide +kernel
theorem dX5_undo_8 : decode cX5_undo 8 = .ok (.invokevirtual 188, 3) := by decide +kernel
theorem dX5_undo_11 : decode cX5_undo 11 = .ok (.ireturn, 1) := by decide +kernel
theorem dX5_save_0 : decode cX5_save 0 = .ok (.iload_n 1, 1) := by decide +kernel
theorem dX5_save_1 : decode cX5_save 1 = .ok (.iconst 0, 1) := by decide +kernel
theorem dX5_save_2 : decode cX5_save 2 = .ok (.iconst 1, 1) := by decide +kernel
theorem dX5_save_3 : decode cX5_save 3 = .ok (.invokestatic 155, 3) := by decide +kernel
theorem dX5_save_6 : decode cX5_save 6 = .ok (.ifCond .ne 6, 3) := by decide +kernel
theorem dX5_save_9 : decode cX5_save 9 = .ok (.bipush (-2), 2) := by decide +kernel
theorem dX5_save_11 : decode cX5_save 11 = .ok (.ireturn, 1) := by decide +kernel
theorem dX5_save_12 : decode cX5_save 12 = .ok (.aload_n 0, 1) := by decide +kernel
theorem dX5_save_13 : decode cX5_save 13 = .ok (.getfield 26, 3) := by decide +kernel
theorem dX5_save_16 : decode cX5_save 16 = .ok (.iload_n 1, 1) := by decide +kernel
theorem dX5_save_17 : decode cX5_save 17 = .ok (.aaload, 1) := by decide +kernel
theorem dX5_save_18 : decode cX5_save 18 = .ok (.aload_n 0, 1) := by decide +kernel
theorem dX5_save_19 : decode cX5_save 19 = .ok (.getfield 12, 3) := by decide +kernel
theorem dX5_save_22 : decode cX5_save 22 = .ok (.invokevirtual 143, 3) := by decide +kernel
theorem dX5_save_25 : decode cX5_save 25 = .ok (.aload_n 0, 1) := by decide +kernel
theorem dX5_save_26 : decode cX5_save 26 = .ok (.getfield 30, 3) := by decide +kernel
theorem dX5_save_29 : decode cX5_save 29 = .ok (.iload_n 1, 1) := by decide +kernel
theorem dX5_save_30 : decode cX5_save 30 = .ok (.iconst 1, 1) := by decide +kernel
theorem dX5_save_31 : decode cX5_save 31 = .ok (.bastore, 1) := by decide +kernel
theorem dX5_save_32 : decode cX5_save 32 = .ok (.aload_n 0, 1) := by decide +kernel
theorem dX5_save_33 : decode cX5_save 33 = .ok (.getfield 12, 3) := by decide +kernel
theorem dX5_save_36 : decode cX5_save 36 = .ok (.getfield 111, 3) := by decide +kernel
theorem dX5_save_39 : decode cX5_save 39 = .ok (.ireturn, 1) := by decide +kernel
theorem dX5_restore_0 : decode cX5_restore 0 = .ok (.iload_n 1, 1) := by decide +kernel
theorem dX5_restore_1 : decode cX5_restore 1 = .ok (.iconst 0, 1) := by decide +kernel
theorem dX5_restore_2 : decode cX5_restore 2 = .ok (.iconst 1, 1) := by decide +kernel
theorem dX5_restore_3 : decode cX5_restore 3 = .ok (.invokestatic 155, 3) := by decide +kernel
theorem dX5_restore_6 : decode cX5_restore 6 = .ok (.ifCond .ne 6, 3) := by decide +kernel
theorem dX5_restore_9 : decode cX5_restore 9 = .ok (.bipush (-2), 2) := by decide +kernel
theorem dX5_restore_11 : decode cX5_restore 11 = .ok (.ireturn, 1) := by decide +kernel
theorem dX5_restore_12 : decode cX5_restore 12 = .ok (.aload_n 0, 1) := by decide +kernel
theorem dX5_restore_13 : decode cX5_restore 13 = .ok (.getfield 30, 3) := by decide +kernel
theorem dX5_restore_16 : decode cX5_restore 16 = .ok (.iload_n 1, 1) := by decide +kernel
theorem dX5_restore_17 : decode cX5_restore 17 = .ok (.baload, 1) := by decide +kernel
theorem dX5_restore_18 : decode cX5_restore 18 = .ok (.ifCond .ne 6, 3) := by decide +kernel
theorem dX5_restore_21 : decode cX5_restore 21 = .ok (.bipush (-5), 2) := by decide +kernel
theorem dX5_restore_23 : decode cX5_restore 23 = .ok (.ireturn, 1) := by decide +kernel
theorem dX5_restore_24 : decode cX5_restore 24 = .ok (.aload_n 0, 1) := by decide +kernel
theorem dX5_restore_25 : decode cX5_restore 25 = .ok (.getfield 22, 3) := by decide +kernel
theorem dX5_restore_28 : decode cX5_restore 28 = .ok (.aload_n 0, 1) := by decide +kernel
theorem dX5_restore_29 : decode cX5_restore 29 = .ok (.getfield 12, 3) := by decide +kernel
theorem dX5_restore_32 : decode cX5_restore 32 = .ok (.invokevirtual 41, 3) := by decide +kernel
theorem dX5_restore_35 : decode cX5_restore 35 = .ok (.aload_n 0, 1) := by decide +kernel
theorem dX5_restore_36 : decode cX5_restore 36 = .ok (.getfield 12, 3) := by decide +kernel
theorem dX5_restore_39 : decode cX5_restore 39 = .ok (.aload_n 0, 1) := by decide +kernel
theorem dX5_restore_40 : decode cX5_restore 40 = .ok (.getfield 26, 3) := by decide +kernel
theorem dX5_restore_43 : decode cX5_restore 43 = .ok (.iload_n 1, 1) := by decide +kernel
theorem dX5_restore_44 : decode cX5_restore 44 = .ok (.aaload, 1) := by decide +kernel
theorem dX5_restore_45 : decode cX5_restore 45 = .ok (.invokevirtual 143, 3) := by decide +kernel
theorem dX5_restore_48 : decode cX5_restore 48 = .ok (.aload_n 0, 1) := by decide +kernel
theorem dX5_restore_49 : decode cX5_restore 49 = .ok (.getfield 22, 3) := by decide +kernel
theorem dX5_restore_52 : decode cX5_restore 52 = .ok (.aload_n 0, 1) := by decide +kernel
theorem dX5_restore_53 : decode cX5_restore 53 = .ok (.getfield 12, 3) := by decide +kernel
theorem dX5_restore_56 : decode cX5_restore 56 = .ok (.getfield 111, 3) := by decide +kernel
theorem dX5_restore_59 : decode cX5_restore 59 = .ok (.invokevirtual 49, 3) := by decide +kernel
theorem dX5_restore_62 : decode cX5_restore 62 = .ok (.ireturn, 1) := by decide +kernel
theorem dX5_within_0 : decode cX5_within 0 = .ok (.iload_n 0, 1) := by decide +kernel
theorem dX5_within_1 : decode cX5_within 1 = .ok (.iload_n 1, 1) := by decide +kernel
theorem dX5_within_2 : decode cX5_within 2 = .ok (.if_icmp .lt 12, 3) := by decide +kernel
theorem dX5_within_5 : decode cX5_within 5 = .ok (.iload_n 0, 1) := by decide +kernel
theorem dX5_within_6 : decode cX5_within 6 = .ok (.iload_n 2, 1) := by decide +kernel
theorem dX5_within_7 : decode cX5_within 7 = .ok (.if_icmp .gt 7, 3) := by decide +kernel
theorem dX5_within_10 : decode cX5_within 10 = .ok (.iconst 1, 1) := by decide +kernel
theorem dX5_within_11 : decode cX5_within 11 = .ok (.goto 4, 3) := by decide +kernel
theorem dX5_within_14 : decode cX5_within 14 = .ok (.iconst 0, 1) := by decide +kernel
theorem dX5_within_15 : decode cX5_within 15 = .ok (.ireturn, 1) := by decide +kernel
theorem dX5_isBlock_0 : decode cX5_isBlock 0 = .ok (.iload_n 0, 1) := by decide +kernel
theorem dX5_isBlock_1 : decode cX5_isBlock 1 = .ok (.iconst 0, 1) := by decide +kernel
theorem dX5_isBlock_2 : decode cX5_isBlock 2 = .ok (.bipush 7, 2) := by decide +kernel
theorem dX5_isBlock_4 : decode cX5_isBlock 4 = .ok (.invokestatic 155, 3) := by decide +kernel
theorem dX5_isBlock_7 : decode cX5_isBlock 7 = .ok (.ireturn, 1) := by decide +kernel
theorem dX5_curveSpeed_0 : decode cX5_curveSpeed 0 = .ok (.iload_n 1, 1) := by decide +kernel
theorem dX5_curveSpeed_1 : decode cX5_curveSpeed 1 = .ok (.iload_n 1, 1) := by decide +kernel
theorem dX5_curveSpeed_2 : decode cX5_curveSpeed 2 = .ok (.imul, 1) := by decide +kernel
theorem dX5_curveSpeed_3 : decode cX5_curveSpeed 3 = .ok (.bipush 10, 2) := by decide +kernel
theorem dX5_curveSpeed_5 : decode cX5_curveSpeed 5 = .ok (.imul, 1) := by decide +kernel
theorem dX5_curveSpeed_6 : decode cX5_curveSpeed 6 = .ok (.bipush 28, 2) := by decide +kernel
theorem dX5_curveSpeed_8 : decode cX5_curveSpeed 8 = .ok (.idiv, 1) := by decide +kernel
theorem dX5_curveSpeed_9 : decode cX5_curveSpeed 9 = .ok (.istore_n 2, 1) := by decide +kernel
theorem dX5_curveSpeed_10 : decode cX5_curveSpeed 10 = .ok (.iload_n 0, 1) := by decide +kernel
theorem dX5_curveSpeed_11 : decode cX5_curveSpeed 11 = .ok (.lookupswitch 34 #[(1, 25), (2, 27)], 25) := by decide +kernel
theorem dX5_curveSpeed_36 : decode cX5_curveSpeed 36 = .ok (.iload_n 2, 1) := by decide +kernel
theorem dX5_curveSpeed_37 : decode cX5_curveSpeed 37 = .ok (.ireturn, 1) := by decide +kernel
theorem dX5_curveSpeed_38 : decode cX5_curveSpeed 38 = .ok (.bipush 20, 2) := by decide +kernel
theorem dX5_curveSpeed_40 : decode cX5_curveSpeed 40 = .ok (.iload_n 1, 1) := by decide +kernel
theorem dX5_curveSpeed_41 : decode cX5_curveSpeed 41 = .ok (.imul, 1) := by decide +kernel
theorem dX5_curveSpeed_42 : decode cX5_curveSpeed 42 = .ok (.iload_n 2, 1) := by decide +kernel
theorem dX5_curveSpeed_43 : decode cX5_curveSpeed 43 = .ok (.isub, 1) := by decide +kernel
theorem dX5_curveSpeed_44 : decode cX5_curveSpeed 44 = .ok (.ireturn, 1) := by decide +kernel
theorem dX5_curveSpeed_45 : decode cX5_curveSpeed 45 = .ok (.bipush 10, 2) := by decide +kernel
theorem dX5_curveSpeed_47 : decode cX5_curveSpeed 47 = .ok (.iload_n 1, 1) := by decide +kernel
theorem dX5_curveSpeed_48 : decode cX5_curveSpeed 48 = .ok (.imul, 1) := by decide +kernel
theorem dX5_curveSpeed_49 : decode cX5_curveSpeed 49 = .ok (.ireturn, 1) := by decide +kernel
theorem dJ9_floorDiv_7cf53_0 : decode cJ9_floorDiv_7cf53 0 = .ok (.iload_n 0, 1) := by decide +kernel
theorem dJ9_floorDiv_7cf53_1 : decode cJ9_floorDiv_7cf53 1 = .ok (.iload_n 1, 1) := by decide +kernel
theorem dJ9_floorDiv_7cf53_2 : decode cJ9_floorDiv_7cf53 2 = .ok (.idiv, 1) := by decide +kernel
theorem dJ9_floorDiv_7cf53_3 : decode cJ9_floorDiv_7cf53 3 = .ok (.istore_n 2, 1) := by decide +kernel
theorem dJ9_floorDiv_7cf53_4 : decode cJ9_floorDiv_7cf53 4 = .ok (.iload_n 0, 1) := by decide +kernel
theorem dJ9_floorDiv_7cf53_5 : decode cJ9_floorDiv_7cf53 5 = .ok (.iload_n 1, 1) := by decide +kernel
theorem dJ9_floorDiv_7cf53_6 : decode cJ9_floorDiv_7cf53 6 = .ok (.ixor, 1) := by decide +kernel
theorem dJ9_floorDiv_7cf53_7 : decode cJ9_floorDiv_7cf53 7 = .ok (.ifCond .ge 14, 3) := by decide +kernel
theorem dJ9_floorDiv_7cf53_10 : decode cJ9_floorDiv_7cf53 10 = .ok (.iload_n 2, 1) := by decide +kernel
theorem dJ9_floorDiv_7cf53_11 : decode cJ9_floorDiv_7cf53 11 = .ok (.iload_n 1, 1) := by decide +kernel
theorem dJ9_floorDiv_7cf53_12 : decode cJ9_floorDiv_7cf53 12 = .ok (.imul, 1) := by decide +kernel
theorem dJ9_floorDiv_7cf53_13 : decode cJ9_floorDiv_7cf53 13 = .ok (.iload_n 0, 1) := by decide +kernel
theorem dJ9_floorDiv_7cf53_14 : decode cJ9_floorDiv_7cf53 14 = .ok (.if_icmp .eq 7, 3) := by decide +kernel
theorem dJ9_floorDiv_7cf53_17 : decode cJ9_floorDiv_7cf53 17 = .ok (.iload_n 2, 1) := by decide +kernel
theorem dJ9_floorDiv_7cf53_18 : decode cJ9_floorDiv_7cf53 18 = .ok (.iconst 1, 1) := by decide +kernel
theorem dJ9_floorDiv_7cf53_19 : decode cJ9_floorDiv_7cf53 19 = .ok (.isub, 1) := by decide +kernel
theorem dJ9_floorDiv_7cf53_20 : decode cJ9_floorDiv_7cf53 20 = .ok (.ireturn, 1) := by decide +kernel
theorem dJ9_floorDiv_7cf53_21 : decode cJ9_floorDiv_7cf53 21 = .ok (.iload_n 2, 1) := by decide +kernel
theorem dJ9_floorDiv_7cf53_22 : decode cJ9_floorDiv_7cf53 22 = .ok (.ireturn, 1) := by decide +kernel
theorem dJ9_floorMod_7cf53_0 : decode cJ9_floorMod_7cf53 0 = .ok (.iload_n 0, 1) := by decide +kernel
theorem dJ9_floorMod_7cf53_1 : decode cJ9_floorMod_7cf53 1 = .ok (.iload_n 1, 1) := by decide +kernel
theorem dJ9_floorMod_7cf53_2 : decode cJ9_floorMod_7cf53 2 = .ok (.irem, 1) := by decide +kernel
theorem dJ9_floorMod_7cf53_3 : decode cJ9_floorMod_7cf53 3 = .ok (.istore_n 2, 1) := by decide +kernel
theorem dJ9_floorMod_7cf53_4 : decode cJ9_floorMod_7cf53 4 = .ok (.iload_n 0, 1) := by decide +kernel
theorem dJ9_floorMod_7cf53_5 : decode cJ9_floorMod_7cf53 5 = .ok (.iload_n 1, 1) := by decide +kernel
theorem dJ9_floorMod_7cf53_6 : decode cJ9_floorMod_7cf53 6 = .ok (.ixor, 1) := by decide +kernel
theorem dJ9_floorMod_7cf53_7 : decode cJ9_floorMod_7cf53 7 = .ok (.ifCond .ge 11, 3) := by decide +kernel
theorem dJ9_floorMod_7cf53_10 : decode cJ9_floorMod_7cf53 10 = .ok (.iload_n 2, 1) := by decide +kernel
theorem dJ9_floorMod_7cf53_11 : decode cJ9_floorMod_7cf53 11 = .ok (.ifCond .eq 7, 3) := by decide +kernel
theorem dJ9_floorMod_7cf53_14 : decode cJ9_floorMod_7cf53 14 = .ok (.iload_n 2, 1) := by decide +kernel
theorem dJ9_floorMod_7cf53_15 : decode cJ9_floorMod_7cf53 15 = .ok (.iload_n 1, 1) := by decide +kernel
theorem dJ9_floorMod_7cf53_16 : decode cJ9_floorMod_7cf53 16 = .ok (.iadd, 1) := by decide +kernel
theorem dJ9_floorMod_7cf53_17 : decode cJ9_floorMod_7cf53 17 = .ok (.ireturn, 1) := by decide +kernel
theorem dJ9_floorMod_7cf53_18 : decode cJ9_floorMod_7cf53 18 = .ok (.iload_n 2, 1) := by decide +kernel
theorem dJ9_floorMod_7cf53_19 : decode cJ9_floorMod_7cf53 19 = .ok (.ireturn, 1) := by decide +kernel
theorem dJ9_abs_0f7a4_0 : decode cJ9_abs_0f7a4 0 = .ok (.iload_n 0, 1) := by decide +kernel
theorem dJ9_abs_0f7a4_1 : decode cJ9_abs_0f7a4 1 = .ok (.ifCond .ge 8, 3) := by decide +kernel
theorem dJ9_abs_0f7a4_4 : decode cJ9_abs_0f7a4 4 = .ok (.iload_n 0, 1) := by decide +kernel
theorem dJ9_abs_0f7a4_5 : decode cJ9_abs_0f7a4 5 = .ok (.ineg, 1) := by decide +kernel
theorem dJ9_abs_0f7a4_6 : decode cJ9_abs_0f7a4 6 = .ok (.goto 4, 3) := by decide +kernel
theorem dJ9_abs_0f7a4_9 : decode cJ9_abs_0f7a4 9 = .ok (.iload_n 0, 1) := by decide +kernel
theorem dJ9_abs_0f7a4_10 : decode cJ9_abs_0f7a4 10 = .ok (.ireturn, 1) := by decide +kernel
theorem dJ9_max_7cf53_0 : decode cJ9_max_7cf53 0 = .ok (.iload_n 0, 1) := by decide +kernel
theorem dJ9_max_7cf53_1 : decode cJ9_max_7cf53 1 = .ok (.iload_n 1, 1) := by decide +kernel
theorem dJ9_max_7cf53_2 : decode cJ9_max_7cf53 2 = .ok (.if_icmp .lt 7, 3) := by decide +kernel
theorem dJ9_max_7cf53_5 : decode cJ9_max_7cf53 5 = .ok (.iload_n 0, 1) := by decide +kernel
theorem dJ9_max_7cf53_6 : decode cJ9_max_7cf53 6 = .ok (.goto 4, 3) := by decide +kernel
theorem dJ9_max_7cf53_9 : decode cJ9_max_7cf53 9 = .ok (.iload_n 1, 1) := by decide +kernel
theorem dJ9_max_7cf53_10 : decode cJ9_max_7cf53 10 = .ok (.ireturn, 1) := by decide +kernel
theorem dJ9_min_7cf53_0 : decode cJ9_min_7cf53 0 = .ok (.iload_n 0, 1) := by decide +kernel
theorem dJ9_min_7cf53_1 : decode cJ9_min_7cf53 1 = .ok (.iload_n 1, 1) := by decide +kernel
theorem dJ9_min_7cf53_2 : decode cJ9_min_7cf53 2 = .ok (.if_icmp .gt 7, 3) := by decide +kernel
theorem dJ9_min_7cf53_5 : decode cJ9_min_7cf53 5 = .ok (.iload_n 0, 1) := by decide +kernel
theorem dJ9_min_7cf53_6 : decode cJ9_min_7cf53 6 = .ok (.goto 4, 3) := by decide +kernel
theorem dJ9_min_7cf53_9 : decode cJ9_min_7cf53 9 = .ok (.iload_n 1, 1) := by decide +kernel
theorem dJ9_min_7cf53_10 : decode cJ9_min_7cf53 10 = .ok (.ireturn, 1) := by decide +kernel
end
section
theorem dL_cell_0 : decode cL_cell 0 = .ok (.iload_n 1, 1) := by decide +kernel
theorem dL_cell_1 : decode cL_cell 1 = .ok (.aload_n 0, 1) := by decide +kernel
theorem dL_cell_2 : decode cL_cell 2 = .ok (.arraylength, 1) := by decide +kernel
theorem dL_cell_3 : decode cL_cell 3 = .ok (.if_icmp .ge 9, 3) := by decide +kernel
theorem dL_cell_6 : decode cL_cell 6 = .ok (.aload_n 0, 1) := by decide +kernel
theorem dL_cell_7 : decode cL_cell 7 = .ok (.iload_n 1, 1) := by decide +kernel
theorem dL_cell_8 : decode cL_cell 8 = .ok (.iaload, 1) := by decide +kernel
theorem dL_cell_9 : decode cL_cell 9 = .ok (.goto 15, 3) := by decide +kernel
theorem dL_cell_12 : decode cL_cell 12 = .ok (.sipush 7919, 3) := by decide +kernel
theorem dL_cell_15 : decode cL_cell 15 = .ok (.iload_n 1, 1) := by decide +kernel
theorem dL_cell_16 : decode cL_cell 16 = .ok (.iconst 3, 1) := by decide +kernel
theorem dL_cell_17 : decode cL_cell 17 = .ok (.iadd, 1) := by decide +kernel
theorem dL_cell_18 : decode cL_cell 18 = .ok (.imul, 1) := by decide +kernel
theorem dL_cell_19 : decode cL_cell 19 = .ok (.iload_n 1, 1) := by decide +kernel
theorem dL_cell_20 : decode cL_cell 20 = .ok (.bipush 11, 2) := by decide +kernel
theorem dL_cell_22 : decode cL_cell 22 = .ok (.iadd, 1) := by decide +kernel
theorem dL_cell_23 : decode cL_cell 23 = .ok (.imul, 1) := by decide +kernel
theorem dL_cell_24 : decode cL_cell 24 = .ok (.ireturn, 1) := by decide +kernel
theorem dL_low_0 : decode cL_low 0 = .ok (.iload_n 0, 1) := by decide +kernel
theorem dL_low_1 : decode cL_low 1 = .ok (.ldc 7, 2) := by decide +kernel
theorem dL_low_3 : decode cL_low 3 = .ok (.iand, 1) := by decide +kernel
theorem dL_low_4 : decode cL_low 4 = .ok (.iload_n 1, 1) := by decide +kernel
theorem dL_low_5 : decode cL_low 5 = .ok (.irem, 1) := by decide +kernel
theorem dL_low_6 : decode cL_low 6 = .ok (.ireturn, 1) := by decide +kernel
theorem dL_told_0 : decode cL_told 0 = .ok (.ldc2_w 8, 3) := by decide +kernel
theorem dL_told_3 : decode cL_told 3 = .ok (.lstore_n 1, 1) := by decide +kernel
theorem dL_told_4 : decode cL_told 4 = .ok (.iconst 0, 1) := by decide +kernel
theorem dL_told_5 : decode cL_told 5 = .ok (.istore_n 3, 1) := by decide +kernel
theorem dL_told_6 : decode cL_told 6 = .ok (.iload_n 3, 1) := by decide +kernel
theorem dL_told_7 : decode cL_told 7 = .ok (.bipush 10, 2) := by decide +kernel
theorem dL_told_9 : decode cL_told 9 = .ok (.if_icmp .ge 22, 3) := by decide +kernel
theorem dL_told_12 : decode cL_told 12 = .ok (.ldc2_w 10, 3) := by decide +kernel
theorem dL_told_15 : decode cL_told 15 = .ok (.lload_n 1, 1) := by decide +kernel
theorem dL_told_16 : decode cL_told 16 = .ok (.lmul, 1) := by decide +kernel
theorem dL_told_17 : decode cL_told 17 = .ok (.aload_n 0, 1) := by decide +kernel
theorem dL_told_18 : decode cL_told 18 = .ok (.iload_n 3, 1) := by decide +kernel
theorem dL_told_19 : decode cL_told 19 = .ok (.invokevirtual 12, 3) := by decide +kernel
theorem dL_told_22 : decode cL_told 22 = .ok (.i2l, 1) := by decide +kernel
theorem dL_told_23 : decode cL_told 23 = .ok (.ladd, 1) := by decide +kernel
theorem dL_told_24 : decode cL_told 24 = .ok (.lstore_n 1, 1) := by decide +kernel
theorem dL_told_25 : decode cL_told 25 = .ok (.iinc 3 1, 3) := by decide +kernel
theorem dL_told_28 : decode cL_told 28 = .ok (.goto (-22), 3) := by decide +kernel
theorem dL_told_31 : decode cL_told 31 = .ok (.iconst 0, 1) := by decide +kernel
theorem dL_told_32 : decode cL_told 32 = .ok (.istore_n 3, 1) := by decide +kernel
theorem dL_told_33 : decode cL_told 33 = .ok (.iload_n 3, 1) := by decide +kernel
theorem dL_told_34 : decode cL_told 34 = .ok (.aload_n 0, 1) := by decide +kernel
theorem dL_told_35 : decode cL_told 35 = .ok (.iconst 1, 1) := by decide +kernel
theorem dL_told_36 : decode cL_told 36 = .ok (.invokevirtual 12, 3) := by decide +kernel
theorem dL_told_39 : decode cL_told 39 = .ok (.if_icmp .ge 58, 3) := by decide +kernel
theorem dL_told_42 : decode cL_told 42 = .ok (.aload_n 0, 1) := by decide +kernel
theorem dL_told_43 : decode cL_told 43 = .ok (.iload_n 3, 1) := by decide +kernel
theorem dL_told_44 : decode cL_told 44 = .ok (.invokevirtual 18, 3) := by decide +kernel
theorem dL_told_47 : decode cL_told 47 = .ok (.istore 4, 2) := by decide +kernel
theorem dL_told_49 : decode cL_told 49 = .ok (.ldc2_w 10, 3) := by decide +kernel
theorem dL_told_52 : decode cL_told 52 = .ok (.lload_n 1, 1) := by decide +kernel
theorem dL_told_53 : decode cL_told 53 = .ok (.lmul, 1) := by decide +kernel
theorem dL_told_54 : decode cL_told 54 = .ok (.iload 4, 2) := by decide +kernel
theorem dL_told_56 : decode cL_told 56 = .ok (.i2l, 1) := by decide +kernel
theorem dL_told_57 : decode cL_told 57 = .ok (.ladd, 1) := by decide +kernel
theorem dL_told_58 : decode cL_told 58 = .ok (.lstore_n 1, 1) := by decide +kernel
theorem dL_told_59 : decode cL_told 59 = .ok (.iconst 0, 1) := by decide +kernel
theorem dL_told_60 : decode cL_told 60 = .ok (.istore 5, 2) := by decide +kernel
theorem dL_told_62 : decode cL_told 62 = .ok (.iload 5, 2) := by decide +kernel
theorem dL_told_64 : decode cL_told 64 = .ok (.bipush 12, 2) := by decide +kernel
theorem dL_told_66 : decode cL_told 66 = .ok (.if_icmp .ge 25, 3) := by decide +kernel
theorem dL_told_69 : decode cL_told 69 = .ok (.ldc2_w 10, 3) := by decide +kernel
theorem dL_told_72 : decode cL_told 72 = .ok (.lload_n 1, 1) := by decide +kernel
theorem dL_told_73 : decode cL_told 73 = .ok (.lmul, 1) := by decide +kernel
theorem dL_told_74 : decode cL_told 74 = .ok (.aload_n 0, 1) := by decide +kernel
theorem dL_told_75 : decode cL_told 75 = .ok (.iload 4, 2) := by decide +kernel
theorem dL_told_77 : decode cL_told 77 = .ok (.iload 5, 2) := by decide +kernel
theorem dL_told_79 : decode cL_told 79 = .ok (.invokevirtual 21, 3) := by decide +kernel
theorem dL_told_82 : decode cL_told 82 = .ok (.i2l, 1) := by decide +kernel
theorem dL_told_83 : decode cL_told 83 = .ok (.ladd, 1) := by decide +kernel
theorem dL_told_84 : decode cL_told 84 = .ok (.lstore_n 1, 1) := by decide +kernel
theorem dL_told_85 : decode cL_told 85 = .ok (.iinc 5 1, 3) := by decide +kernel
theorem dL_told_88 : decode cL_told 88 = .ok (.goto (-26), 3) := by decide +kernel
theorem dL_told_91 : decode cL_told 91 = .ok (.iinc 3 1, 3) := by decide +kernel
theorem dL_told_94 : decode cL_told 94 = .ok (.goto (-61), 3) := by decide +kernel
theorem dL_told_97 : decode cL_told 97 = .ok (.iconst 0, 1) := by decide +kernel
theorem dL_told_98 : decode cL_told 98 = .ok (.istore_n 3, 1) := by decide +kernel
theorem dL_told_99 : decode cL_told 99 = .ok (.iload_n 3, 1) := by decide +kernel
theorem dL_told_100 : decode cL_told 100 = .ok (.aload_n 0, 1) := by decide +kernel
theorem dL_told_101 : decode cL_told 101 = .ok (.iconst 2, 1) := by decide +kernel
theorem dL_told_102 : decode cL_told 102 = .ok (.invokevirtual 12, 3) := by decide +kernel
theorem dL_told_105 : decode cL_told 105 = .ok (.if_icmp .ge 39, 3) := by decide +kernel
theorem dL_told_108 : decode cL_told 108 = .ok (.iconst 0, 1) := by decide +kernel
theorem dL_told_109 : decode cL_told 109 = .ok (.istore 4, 2) := by decide +kernel
theorem dL_told_111 : decode cL_told 111 = .ok (.iload 4, 2) := by decide +kernel
theorem dL_told_113 : decode cL_told 113 = .ok (.iconst 3, 1) := by decide +kernel
theorem dL_told_114 : decode cL_told 114 = .ok (.if_icmp .ge 24, 3) := by decide +kernel
theorem dL_told_117 : decode cL_told 117 = .ok (.ldc2_w 10, 3) := by decide +kernel
theorem dL_told_120 : decode cL_told 120 = .ok (.lload_n 1, 1) := by decide +kernel
theorem dL_told_121 : decode cL_told 121 = .ok (.lmul, 1) := by decide +kernel
theorem dL_told_122 : decode cL_told 122 = .ok (.aload_n 0, 1) := by decide +kernel
theorem dL_told_123 : decode cL_told 123 = .ok (.iload_n 3, 1) := by decide +kernel
theorem dL_told_124 : decode cL_told 124 = .ok (.iload 4, 2) := by decide +kernel
theorem dL_told_126 : decode cL_told 126 = .ok (.invokevirtual 25, 3) := by decide +kernel
theorem dL_told_129 : decode cL_told 129 = .ok (.i2l, 1) := by decide +kernel
theorem dL_told_130 : decode cL_told 130 = .ok (.ladd, 1) := by decide +kernel
theorem dL_told_131 : decode cL_told 131 = .ok (.lstore_n 1, 1) := by decide +kernel
theorem dL_told_132 : decode cL_told 132 = .ok (.iinc 4 1, 3) := by decide +kernel
theorem dL_told_135 : decode cL_told 135 = .ok (.goto (-24), 3) := by decide +kernel
theorem dL_told_138 : decode cL_told 138 = .ok (.iinc 3 1, 3) := by decide +kernel
theorem dL_told_141 : decode cL_told 141 = .ok (.goto (-42), 3) := by decide +kernel
theorem dL_told_144 : decode cL_told 144 = .ok (.iconst 0, 1) := by decide +kernel
theorem dL_told_145 : decode cL_told 145 = .ok (.istore_n 3, 1) := by decide +kernel
theorem dL_told_146 : decode cL_told 146 = .ok (.iload_n 3, 1) := by decide +kernel
theorem dL_told_147 : decode cL_told 147 = .ok (.bipush 8, 2) := by decide +kernel
theorem dL_told_149 : decode cL_told 149 = .ok (.if_icmp .ge 23, 3) := by decide +kernel
theorem dL_told_152 : decode cL_told 152 = .ok (.ldc2_w 10, 3) := by decide +kernel
theorem dL_told_155 : decode cL_told 155 = .ok (.lload_n 1, 1) := by decide +kernel
theorem dL_told_156 : decode cL_told 156 = .ok (.lmul, 1) := by decide +kernel
theorem dL_told_157 : decode cL_told 157 = .ok (.aload_n 0, 1) := by decide +kernel
theorem dL_told_158 : decode cL_told 158 = .ok (.iload_n 3, 1) := by decide +kernel
theorem dL_told_159 : decode cL_told 159 = .ok (.iconst 0, 1) := by decide +kernel
theorem dL_told_160 : decode cL_told 160 = .ok (.invokevirtual 28, 3) := by decide +kernel
theorem dL_told_163 : decode cL_told 163 = .ok (.i2l, 1) := by decide +kernel
theorem dL_told_164 : decode cL_told 164 = .ok (.ladd, 1) := by decide +kernel
theorem dL_told_165 : decode cL_told 165 = .ok (.lstore_n 1, 1) := by decide +kernel
theorem dL_told_166 : decode cL_told 166 = .ok (.iinc 3 1, 3) := by decide +kernel
theorem dL_told_169 : decode cL_told 169 = .ok (.goto (-23), 3) := by decide +kernel
theorem dL_told_172 : decode cL_told 172 = .ok (.lload_n 1, 1) := by decide +kernel
theorem dL_told_173 : decode cL_told 173 = .ok (.lreturn, 1) := by decide +kernel
theorem dL_act_0 : decode cL_act 0 = .ok (.iload_n 1, 1) := by decide +kernel
theorem dL_act_1 : decode cL_act 1 = .ok (.iconst 4, 1) := by decide +kernel
theorem dL_act_2 : decode cL_act 2 = .ok (.ishr, 1) := by decide +kernel
theorem dL_act_3 : decode cL_act 3 = .ok (.iload_n 1, 1) := by decide +kernel
theorem dL_act_4 : decode cL_act 4 = .ok (.bipush 20, 2) := by decide +kernel
theorem dL_act_6 : decode cL_act 6 = .ok (.ishr, 1) := by decide +kernel
theorem dL_act_7 : decode cL_act 7 = .ok (.bipush 7, 2) := by decide +kernel
theorem dL_act_9 : decode cL_act 9 = .ok (.iand, 1) := by decide +kernel
theorem dL_act_10 : decode cL_act 10 = .ok (.ifCond .ne 8, 3) := by decide +kernel
theorem dL_act_13 : decode cL_act 13 = .ok (.bipush 101, 2) := by decide +kernel
theorem dL_act_15 : decode cL_act 15 = .ok (.goto 5, 3) := by decide +kernel
theorem dL_act_18 : decode cL_act 18 = .ok (.bipush 9, 2) := by decide +kernel
theorem dL_act_20 : decode cL_act 20 = .ok (.invokestatic 31, 3) := by decide +kernel
theorem dL_act_23 : decode cL_act 23 = .ok (.istore_n 3, 1) := by decide +kernel
theorem dL_act_24 : decode cL_act 24 = .ok (.iload_n 2, 1) := by decide +kernel
theorem dL_act_25 : decode cL_act 25 = .ok (.iconst 3, 1) := by decide +kernel
theorem dL_act_26 : decode cL_act 26 = .ok (.iand, 1) := by decide +kernel
theorem dL_act_27 : decode cL_act 27 = .ok (.ifCond .le 25, 3) := by decide +kernel
theorem dL_act_30 : decode cL_act 30 = .ok (.iload_n 2, 1) := by decide +kernel
theorem dL_act_31 : decode cL_act 31 = .ok (.iconst 2, 1) := by decide +kernel
theorem dL_act_32 : decode cL_act 32 = .ok (.ishr, 1) := by decide +kernel
theorem dL_act_33 : decode cL_act 33 = .ok (.bipush 29, 2) := by decide +kernel
theorem dL_act_35 : decode cL_act 35 = .ok (.invokestatic 31, 3) := by decide +kernel
theorem dL_act_38 : decode cL_act 38 = .ok (.sipush 128, 3) := by decide +kernel
theorem dL_act_41 : decode cL_act 41 = .ok (.iload_n 2, 1) := by decide +kernel
theorem dL_act_42 : decode cL_act 42 = .ok (.bipush 8, 2) := by decide +kernel
theorem dL_act_44 : decode cL_act 44 = .ok (.ishr, 1) := by decide +kernel
theorem dL_act_45 : decode cL_act 45 = .ok (.iconst 1, 1) := by decide +kernel
theorem dL_act_46 : decode cL_act 46 = .ok (.iand, 1) := by decide +kernel
theorem dL_act_47 : decode cL_act 47 = .ok (.imul, 1) := by decide +kernel
theorem dL_act_48 : decode cL_act 48 = .ok (.iadd, 1) := by decide +kernel
theorem dL_act_49 : decode cL_act 49 = .ok (.goto 12, 3) := by decide +kernel
theorem dL_act_52 : decode cL_act 52 = .ok (.iload_n 2, 1) := by decide +kernel
theorem dL_act_53 : decode cL_act 53 = .ok (.iconst 2, 1) := by decide +kernel
theorem dL_act_54 : decode cL_act 54 = .ok (.ishr, 1) := by decide +kernel
theorem dL_act_55 : decode cL_act 55 = .ok (.sipush 258, 3) := by decide +kernel
theorem dL_act_58 : decode cL_act 58 = .ok (.invokestatic 31, 3) := by decide +kernel
theorem dL_act_61 : decode cL_act 61 = .ok (.istore 4, 2) := by decide +kernel
theorem dL_act_63 : decode cL_act 63 = .ok (.iload_n 1, 1) := by decide +kernel
theorem dL_act_64 : decode cL_act 64 = .ok (.bipush 15, 2) := by decide +kernel
theorem dL_act_66 : decode cL_act 66 = .ok (.iand, 1) := by decide +kernel
theorem dL_act_67 : decode cL_act 67 = .ok (.tableswitch 193 0 10 #[57, 57, 57, 86, 113, 113, 113, 129, 129, 166, 185], 57) := by decide +kernel
theorem dL_act_124 : decode cL_act 124 = .ok (.aload_n 0, 1) := by decide +kernel
theorem dL_act_125 : decode cL_act 125 = .ok (.iload_n 3, 1) := by decide +kernel
theorem dL_act_126 : decode cL_act 126 = .ok (.iload_n 2, 1) := by decide +kernel
theorem dL_act_127 : decode cL_act 127 = .ok (.bipush 21, 2) := by decide +kernel
theorem dL_act_129 : decode cL_act 129 = .ok (.invokestatic 31, 3) := by decide +kernel
theorem dL_act_132 : decode cL_act 132 = .ok (.iload_n 2, 1) := by decide +kernel
theorem dL_act_133 : decode cL_act 133 = .ok (.iconst 5, 1) := by decide +kernel
theorem dL_act_134 : decode cL_act 134 = .ok (.ishr, 1) := by decide +kernel
theorem dL_act_135 : decode cL_act 135 = .ok (.iconst 4, 1) := by decide +kernel
theorem dL_act_136 : decode cL_act 136 = .ok (.invokestatic 31, 3) := by decide +kernel
theorem dL_act_139 : decode cL_act 139 = .ok (.iload_n 2, 1) := by decide +kernel
theorem dL_act_140 : decode cL_act 140 = .ok (.bipush 7, 2) := by decide +kernel
theorem dL_act_142 : decode cL_act 142 = .ok (.ishr, 1) := by decide +kernel
theorem dL_act_143 : decode cL_act 143 = .ok (.sipush 801, 3) := by decide +kernel
theorem dL_act_146 : decode cL_act 146 = .ok (.invokestatic 31, 3) := by decide +kernel
theorem dL_act_149 : decode cL_act 149 = .ok (.invokevirtual 36, 3) := by decide +kernel
theorem dL_act_152 : decode cL_act 152 = .ok (.ireturn, 1) := by decide +kernel
theorem dL_act_153 : decode cL_act 153 = .ok (.iload_n 2, 1) := by decide +kernel
theorem dL_act_154 : decode cL_act 154 = .ok (.iconst 3, 1) := by decide +kernel
theorem dL_act_155 : decode cL_act 155 = .ok (.iand, 1) := by decide +kernel
theorem dL_act_156 : decode cL_act 156 = .ok (.ifCond .ne 11, 3) := by decide +kernel
theorem dL_act_159 : decode cL_act 159 = .ok (.aload_n 0, 1) := by decide +kernel
theorem dL_act_160 : decode cL_act 160 = .ok (.iload_n 3, 1) := by decide +kernel
theorem dL_act_161 : decode cL_act 161 = .ok (.invokevirtual 40, 3) := by decide +kernel
theorem dL_act_164 : decode cL_act 164 = .ok (.goto 15, 3) := by decide +kernel
theorem dL_act_167 : decode cL_act 167 = .ok (.aload_n 0, 1) := by decide +kernel
theorem dL_act_168 : decode cL_act 168 = .ok (.iload_n 2, 1) := by decide +kernel
theorem dL_act_169 : decode cL_act 169 = .ok (.iconst 2, 1) := by decide +kernel
theorem dL_act_170 : decode cL_act 170 = .ok (.ishr, 1) := by decide +kernel
theorem dL_act_171 : decode cL_act 171 = .ok (.bipush 11, 2) := by decide +kernel
theorem dL_act_173 : decode cL_act 173 = .ok (.invokestatic 31, 3) := by decide +kernel
theorem dL_act_176 : decode cL_act 176 = .ok (.invokevirtual 43, 3) := by decide +kernel
theorem dL_act_179 : decode cL_act 179 = .ok (.ireturn, 1) := by decide +kernel
theorem dL_act_180 : decode cL_act 180 = .ok (.aload_n 0, 1) := by decide +kernel
theorem dL_act_181 : decode cL_act 181 = .ok (.iload_n 3, 1) := by decide +kernel
theorem dL_act_182 : decode cL_act 182 = .ok (.iload 4, 2) := by decide +kernel
theorem dL_act_184 : decode cL_act 184 = .ok (.iload_n 2, 1) := by decide +kernel
theorem dL_act_185 : decode cL_act 185 = .ok (.bipush 20, 2) := by decide +kernel
theorem dL_act_187 : decode cL_act 187 = .ok (.ishr, 1) := by decide +kernel
theorem dL_act_188 : decode cL_act 188 = .ok (.iconst 4, 1) := by decide +kernel
theorem dL_act_189 : decode cL_act 189 = .ok (.invokestatic 31, 3) := by decide +kernel
theorem dL_act_192 : decode cL_act 192 = .ok (.invokevirtual 46, 3) := by decide +kernel
theorem dL_act_195 : decode cL_act 195 = .ok (.ireturn, 1) := by decide +kernel
theorem dL_act_196 : decode cL_act 196 = .ok (.aload_n 0, 1) := by decide +kernel
theorem dL_act_197 : decode cL_act 197 = .ok (.iload_n 3, 1) := by decide +kernel
theorem dL_act_198 : decode cL_act 198 = .ok (.iload 4, 2) := by decide +kernel
theorem dL_act_200 : decode cL_act 200 = .ok (.iload_n 2, 1) := by decide +kernel
theorem dL_act_201 : decode cL_act 201 = .ok (.bipush 20, 2) := by decide +kernel
theorem dL_act_203 : decode cL_act 203 = .ok (.ishr, 1) := by decide +kernel
theorem dL_act_204 : decode cL_act 204 = .ok (.iconst 3, 1) := by decide +kernel
theorem dL_act_205 : decode cL_act 205 = .ok (.iand, 1) := by decide +kernel
theorem dL_act_206 : decode cL_act 206 = .ok (.ifCond .ne 15, 3) := by decide +kernel
theorem dL_act_209 : decode cL_act 209 = .ok (.iload_n 2, 1) := by decide +kernel
theorem dL_act_210 : decode cL_act 210 = .ok (.iconst 3, 1) := by decide +kernel
theorem dL_act_211 : decode cL_act 211 = .ok (.ishr, 1) := by decide +kernel
theorem dL_act_212 : decode cL_act 212 = .ok (.sipush 256, 3) := by decide +kernel
theorem dL_act_215 : decode cL_act 215 = .ok (.invokestatic 31, 3) := by decide +kernel
theorem dL_act_218 : decode cL_act 218 = .ok (.goto 11, 3) := by decide +kernel
theorem dL_act_221 : decode cL_act 221 = .ok (.iload_n 3, 1) := by decide +kernel
theorem dL_act_222 : decode cL_act 222 = .ok (.iload 4, 2) := by decide +kernel
theorem dL_act_224 : decode cL_act 224 = .ok (.ixor, 1) := by decide +kernel
theorem dL_act_225 : decode cL_act 225 = .ok (.sipush 255, 3) := by decide +kernel
theorem dL_act_228 : decode cL_act 228 = .ok (.iand, 1) := by decide +kernel
theorem dL_act_229 : decode cL_act 229 = .ok (.invokevirtual 50, 3) := by decide +kernel
theorem dL_act_232 : decode cL_act 232 = .ok (.ireturn, 1) := by decide +kernel
theorem dL_act_233 : decode cL_act 233 = .ok (.aload_n 0, 1) := by decide +kernel
theorem dL_act_234 : decode cL_act 234 = .ok (.iload_n 2, 1) := by decide +kernel
theorem dL_act_235 : decode cL_act 235 = .ok (.bipush 9, 2) := by decide +kernel
theorem dL_act_237 : decode cL_act 237 = .ok (.invokestatic 31, 3) := by decide +kernel
theorem dL_act_240 : decode cL_act 240 = .ok (.iload_n 2, 1) := by decide +kernel
theorem dL_act_241 : decode cL_act 241 = .ok (.iconst 4, 1) := by decide +kernel
theorem dL_act_242 : decode cL_act 242 = .ok (.ishr, 1) := by decide +kernel
theorem dL_act_243 : decode cL_act 243 = .ok (.bipush 20, 2) := by decide +kernel
theorem dL_act_245 : decode cL_act 245 = .ok (.invokestatic 31, 3) := by decide +kernel
theorem dL_act_248 : decode cL_act 248 = .ok (.invokevirtual 53, 3) := by decide +kernel
theorem dL_act_251 : decode cL_act 251 = .ok (.ireturn, 1) := by decide +kernel
theorem dL_act_252 : decode cL_act 252 = .ok (.aload_n 0, 1) := by decide +kernel
theorem dL_act_253 : decode cL_act 253 = .ok (.iload_n 2, 1) := by decide +kernel
theorem dL_act_254 : decode cL_act 254 = .ok (.iconst 1, 1) := by decide +kernel
theorem dL_act_255 : decode cL_act 255 = .ok (.iand, 1) := by decide +kernel
theorem dL_act_256 : decode cL_act 256 = .ok (.invokevirtual 56, 3) := by decide +kernel
theorem dL_act_259 : decode cL_act 259 = .ok (.ireturn, 1) := by decide +kernel
theorem dL_act_260 : decode cL_act 260 = .ok (.aload_n 0, 1) := by decide +kernel
theorem dL_act_261 : decode cL_act 261 = .ok (.iload_n 2, 1) := by decide +kernel
theorem dL_act_262 : decode cL_act 262 = .ok (.iload_n 2, 1) := by decide +kernel
theorem dL_act_263 : decode cL_act 263 = .ok (.bipush 8, 2) := by decide +kernel
theorem dL_act_265 : decode cL_act 265 = .ok (.ishr, 1) := by decide +kernel
theorem dL_act_266 : decode cL_act 266 = .ok (.iconst 3, 1) := by decide +kernel
theorem dL_act_267 : decode cL_act 267 = .ok (.iand, 1) := by decide +kernel
theorem dL_act_268 : decode cL_act 268 = .ok (.ifCond .ne 8, 3) := by decide +kernel
theorem dL_act_271 : decode cL_act 271 = .ok (.bipush 101, 2) := by decide +kernel
theorem dL_act_273 : decode cL_act 273 = .ok (.goto 5, 3) := by decide +kernel
theorem dL_act_276 : decode cL_act 276 = .ok (.bipush 12, 2) := by decide +kernel
theorem dL_act_278 : decode cL_act 278 = .ok (.invokestatic 31, 3) := by decide +kernel
theorem dL_act_281 : decode cL_act 281 = .ok (.invokevirtual 59, 3) := by decide +kernel
theorem dL_act_284 : decode cL_act 284 = .ok (.ireturn, 1) := by decide +kernel
theorem dL_holds_0 : decode cL_holds 0 = .ok (.aload_n 0, 1) := by decide +kernel
theorem dL_holds_1 : decode cL_holds 1 = .ok (.iconst 1, 1) := by decide +kernel
theorem dL_holds_2 : decode cL_holds 2 = .ok (.invokevirtual 12, 3) := by decide +kernel
theorem dL_holds_5 : decode cL_holds 5 = .ok (.istore_n 1, 1) := by decide +kernel
theorem dL_holds_6 : decode cL_holds 6 = .ok (.iconst 0, 1) := by decide +kernel
theorem dL_holds_7 : decode cL_holds 7 = .ok (.istore_n 2, 1) := by decide +kernel
theorem dL_holds_8 : decode cL_holds 8 = .ok (.iconst 0, 1) := by decide +kernel
theorem dL_holds_9 : decode cL_holds 9 = .ok (.istore_n 3, 1) := by decide +kernel
theorem dL_holds_10 : decode cL_holds 10 = .ok (.iconst 0, 1) := by decide +kernel
theorem dL_holds_11 : decode cL_holds 11 = .ok (.istore 4, 2) := by decide +kernel
theorem dL_holds_13 : decode cL_holds 13 = .ok (.iload 4, 2) := by decide +kernel
theorem dL_holds_15 : decode cL_holds 15 = .ok (.iload_n 1, 1) := by decide +kernel
theorem dL_holds_16 : decode cL_holds 16 = .ok (.if_icmp .ge 239, 3) := by decide +kernel
theorem dL_holds_19 : decode cL_holds 19 = .ok (.aload_n 0, 1) := by decide +kernel
theorem dL_holds_20 : decode cL_holds 20 = .ok (.iload 4, 2) := by decide +kernel
theorem dL_holds_22 : decode cL_holds 22 = .ok (.invokevirtual 18, 3) := by decide +kernel
theorem dL_holds_25 : decode cL_holds 25 = .ok (.istore 5, 2) := by decide +kernel
theorem dL_holds_27 : decode cL_holds 27 = .ok (.aload_n 0, 1) := by decide +kernel
theorem dL_holds_28 : decode cL_holds 28 = .ok (.iload 5, 2) := by decide +kernel
theorem dL_holds_30 : decode cL_holds 30 = .ok (.iconst 4, 1) := by decide +kernel
theorem dL_holds_31 : decode cL_holds 31 = .ok (.invokevirtual 21, 3) := by decide +kernel
theorem dL_holds_34 : decode cL_holds 34 = .ok (.sipush 1000, 3) := by decide +kernel
theorem dL_holds_37 : decode cL_holds 37 = .ok (.isub, 1) := by decide +kernel
theorem dL_holds_38 : decode cL_holds 38 = .ok (.istore 6, 2) := by decide +kernel
theorem dL_holds_40 : decode cL_holds 40 = .ok (.aload_n 0, 1) := by decide +kernel
theorem dL_holds_41 : decode cL_holds 41 = .ok (.iload 5, 2) := by decide +kernel
theorem dL_holds_43 : decode cL_holds 43 = .ok (.iconst 5, 1) := by decide +kernel
theorem dL_holds_44 : decode cL_holds 44 = .ok (.invokevirtual 21, 3) := by decide +kernel
theorem dL_holds_47 : decode cL_holds 47 = .ok (.sipush 1000, 3) := by decide +kernel
theorem dL_holds_50 : decode cL_holds 50 = .ok (.isub, 1) := by decide +kernel
theorem dL_holds_51 : decode cL_holds 51 = .ok (.istore 7, 2) := by decide +kernel
theorem dL_holds_53 : decode cL_holds 53 = .ok (.bipush 60, 2) := by decide +kernel
theorem dL_holds_55 : decode cL_holds 55 = .ok (.aload_n 0, 1) := by decide +kernel
theorem dL_holds_56 : decode cL_holds 56 = .ok (.iload 5, 2) := by decide +kernel
theorem dL_holds_58 : decode cL_holds 58 = .ok (.iconst 0, 1) := by decide +kernel
theorem dL_holds_59 : decode cL_holds 59 = .ok (.invokevirtual 21, 3) := by decide +kernel
theorem dL_holds_62 : decode cL_holds 62 = .ok (.idiv, 1) := by decide +kernel
theorem dL_holds_63 : decode cL_holds 63 = .ok (.istore 8, 2) := by decide +kernel
theorem dL_holds_65 : decode cL_holds 65 = .ok (.iload 7, 2) := by decide +kernel
theorem dL_holds_67 : decode cL_holds 67 = .ok (.iload 6, 2) := by decide +kernel
theorem dL_holds_69 : decode cL_holds 69 = .ok (.if_icmp .le 11, 3) := by decide +kernel
theorem dL_holds_72 : decode cL_holds 72 = .ok (.iload 7, 2) := by decide +kernel
theorem dL_holds_74 : decode cL_holds 74 = .ok (.iload 6, 2) := by decide +kernel
theorem dL_holds_76 : decode cL_holds 76 = .ok (.isub, 1) := by decide +kernel
theorem dL_holds_77 : decode cL_holds 77 = .ok (.goto 8, 3) := by decide +kernel
theorem dL_holds_80 : decode cL_holds 80 = .ok (.iload 6, 2) := by decide +kernel
theorem dL_holds_82 : decode cL_holds 82 = .ok (.iload 7, 2) := by decide +kernel
theorem dL_holds_84 : decode cL_holds 84 = .ok (.isub, 1) := by decide +kernel
theorem dL_holds_85 : decode cL_holds 85 = .ok (.istore 9, 2) := by decide +kernel
theorem dL_holds_87 : decode cL_holds 87 = .ok (.iload_n 2, 1) := by decide +kernel
theorem dL_holds_88 : decode cL_holds 88 = .ok (.iload 6, 2) := by decide +kernel
theorem dL_holds_90 : decode cL_holds 90 = .ok (.iadd, 1) := by decide +kernel
theorem dL_holds_91 : decode cL_holds 91 = .ok (.istore_n 2, 1) := by decide +kernel
theorem dL_holds_92 : decode cL_holds 92 = .ok (.iload 6, 2) := by decide +kernel
theorem dL_holds_94 : decode cL_holds 94 = .ok (.sipush (-280), 3) := by decide +kernel
theorem dL_holds_97 : decode cL_holds 97 = .ok (.if_icmp .lt 76, 3) := by decide +kernel
theorem dL_holds_100 : decode cL_holds 100 = .ok (.iload 6, 2) := by decide +kernel
theorem dL_holds_102 : decode cL_holds 102 = .ok (.sipush 280, 3) := by decide +kernel
theorem dL_holds_105 : decode cL_holds 105 = .ok (.if_icmp .gt 68, 3) := by decide +kernel
theorem dL_holds_108 : decode cL_holds 108 = .ok (.iload 7, 2) := by decide +kernel
theorem dL_holds_110 : decode cL_holds 110 = .ok (.sipush (-280), 3) := by decide +kernel
theorem dL_holds_113 : decode cL_holds 113 = .ok (.if_icmp .lt 60, 3) := by decide +kernel
theorem dL_holds_116 : decode cL_holds 116 = .ok (.iload 7, 2) := by decide +kernel
theorem dL_holds_118 : decode cL_holds 118 = .ok (.sipush 280, 3) := by decide +kernel
theorem dL_holds_121 : decode cL_holds 121 = .ok (.if_icmp .gt 52, 3) := by decide +kernel
theorem dL_holds_124 : decode cL_holds 124 = .ok (.aload_n 0, 1) := by decide +kernel
theorem dL_holds_125 : decode cL_holds 125 = .ok (.iload 5, 2) := by decide +kernel
theorem dL_holds_127 : decode cL_holds 127 = .ok (.iconst 3, 1) := by decide +kernel
theorem dL_holds_128 : decode cL_holds 128 = .ok (.invokevirtual 21, 3) := by decide +kernel
theorem dL_holds_131 : decode cL_holds 131 = .ok (.ifCond .lt 42, 3) := by decide +kernel
theorem dL_holds_134 : decode cL_holds 134 = .ok (.aload_n 0, 1) := by decide +kernel
theorem dL_holds_135 : decode cL_holds 135 = .ok (.iload 5, 2) := by decide +kernel
theorem dL_holds_137 : decode cL_holds 137 = .ok (.iconst 3, 1) := by decide +kernel
theorem dL_holds_138 : decode cL_holds 138 = .ok (.invokevirtual 21, 3) := by decide +kernel
theorem dL_holds_141 : decode cL_holds 141 = .ok (.bipush 10, 2) := by decide +kernel
theorem dL_holds_143 : decode cL_holds 143 = .ok (.if_icmp .ge 30, 3) := by decide +kernel
theorem dL_holds_146 : decode cL_holds 146 = .ok (.aload_n 0, 1) := by decide +kernel
theorem dL_holds_147 : decode cL_holds 147 = .ok (.iload 5, 2) := by decide +kernel
theorem dL_holds_149 : decode cL_holds 149 = .ok (.iconst 2, 1) := by decide +kernel
theorem dL_holds_150 : decode cL_holds 150 = .ok (.invokevirtual 21, 3) := by decide +kernel
theorem dL_holds_153 : decode cL_holds 153 = .ok (.ifCond .lt 20, 3) := by decide +kernel
theorem dL_holds_156 : decode cL_holds 156 = .ok (.aload_n 0, 1) := by decide +kernel
theorem dL_holds_157 : decode cL_holds 157 = .ok (.iload 5, 2) := by decide +kernel
theorem dL_holds_159 : decode cL_holds 159 = .ok (.iconst 2, 1) := by decide +kernel
theorem dL_holds_160 : decode cL_holds 160 = .ok (.invokevirtual 21, 3) := by decide +kernel
theorem dL_holds_163 : decode cL_holds 163 = .ok (.sipush 800, 3) := by decide +kernel
theorem dL_holds_166 : decode cL_holds 166 = .ok (.if_icmp .ge 7, 3) := by decide +kernel
theorem dL_holds_169 : decode cL_holds 169 = .ok (.iconst 1, 1) := by decide +kernel
theorem dL_holds_170 : decode cL_holds 170 = .ok (.goto 4, 3) := by decide +kernel
theorem dL_holds_173 : decode cL_holds 173 = .ok (.iconst 0, 1) := by decide +kernel
theorem dL_holds_174 : decode cL_holds 174 = .ok (.istore 10, 2) := by decide +kernel
theorem dL_holds_176 : decode cL_holds 176 = .ok (.iload 10, 2) := by decide +kernel
theorem dL_holds_178 : decode cL_holds 178 = .ok (.ifCond .eq 66, 3) := by decide +kernel
theorem dL_holds_181 : decode cL_holds 181 = .ok (.iload 5, 2) := by decide +kernel
theorem dL_holds_183 : decode cL_holds 183 = .ok (.iload_n 3, 1) := by decide +kernel
theorem dL_holds_184 : decode cL_holds 184 = .ok (.if_icmp .le 60, 3) := by decide +kernel
theorem dL_holds_187 : decode cL_holds 187 = .ok (.aload_n 0, 1) := by decide +kernel
theorem dL_holds_188 : decode cL_holds 188 = .ok (.iload 5, 2) := by decide +kernel
theorem dL_holds_190 : decode cL_holds 190 = .ok (.bipush 9, 2) := by decide +kernel
theorem dL_holds_192 : decode cL_holds 192 = .ok (.invokevirtual 21, 3) := by decide +kernel
theorem dL_holds_195 : decode cL_holds 195 = .ok (.aload_n 0, 1) := by decide +kernel
theorem dL_holds_196 : decode cL_holds 196 = .ok (.iload 5, 2) := by decide +kernel
theorem dL_holds_198 : decode cL_holds 198 = .ok (.iconst 2, 1) := by decide +kernel
theorem dL_holds_199 : decode cL_holds 199 = .ok (.invokevirtual 21, 3) := by decide +kernel
theorem dL_holds_202 : decode cL_holds 202 = .ok (.bipush 100, 2) := by decide +kernel
theorem dL_holds_204 : decode cL_holds 204 = .ok (.idiv, 1) := by decide +kernel
theorem dL_holds_205 : decode cL_holds 205 = .ok (.if_icmp .ne 39, 3) := by decide +kernel
theorem dL_holds_208 : decode cL_holds 208 = .ok (.aload_n 0, 1) := by decide +kernel
theorem dL_holds_209 : decode cL_holds 209 = .ok (.iload 5, 2) := by decide +kernel
theorem dL_holds_211 : decode cL_holds 211 = .ok (.invokevirtual 62, 3) := by decide +kernel
theorem dL_holds_214 : decode cL_holds 214 = .ok (.iload 9, 2) := by decide +kernel
theorem dL_holds_216 : decode cL_holds 216 = .ok (.iload 8, 2) := by decide +kernel
theorem dL_holds_218 : decode cL_holds 218 = .ok (.iadd, 1) := by decide +kernel
theorem dL_holds_219 : decode cL_holds 219 = .ok (.iconst 1, 1) := by decide +kernel
theorem dL_holds_220 : decode cL_holds 220 = .ok (.isub, 1) := by decide +kernel
theorem dL_holds_221 : decode cL_holds 221 = .ok (.iload 8, 2) := by decide +kernel
theorem dL_holds_223 : decode cL_holds 223 = .ok (.idiv, 1) := by decide +kernel
theorem dL_holds_224 : decode cL_holds 224 = .ok (.if_icmp .ne 20, 3) := by decide +kernel
theorem dL_holds_227 : decode cL_holds 227 = .ok (.aload_n 0, 1) := by decide +kernel
theorem dL_holds_228 : decode cL_holds 228 = .ok (.iload 5, 2) := by decide +kernel
theorem dL_holds_230 : decode cL_holds 230 = .ok (.aload_n 0, 1) := by decide +kernel
theorem dL_holds_231 : decode cL_holds 231 = .ok (.iload 5, 2) := by decide +kernel
theorem dL_holds_233 : decode cL_holds 233 = .ok (.bipush 9, 2) := by decide +kernel
theorem dL_holds_235 : decode cL_holds 235 = .ok (.invokevirtual 21, 3) := by decide +kernel
theorem dL_holds_238 : decode cL_holds 238 = .ok (.invokevirtual 65, 3) := by decide +kernel
theorem dL_holds_241 : decode cL_holds 241 = .ok (.ifCond .eq 5, 3) := by decide +kernel
theorem dL_holds_244 : decode cL_holds 244 = .ok (.iconst 0, 1) := by decide +kernel
theorem dL_holds_245 : decode cL_holds 245 = .ok (.ireturn, 1) := by decide +kernel
theorem dL_holds_246 : decode cL_holds 246 = .ok (.iload 5, 2) := by decide +kernel
theorem dL_holds_248 : decode cL_holds 248 = .ok (.istore_n 3, 1) := by decide +kernel
theorem dL_holds_249 : decode cL_holds 249 = .ok (.iinc 4 1, 3) := by decide +kernel
theorem dL_holds_252 : decode cL_holds 252 = .ok (.goto (-239), 3) := by decide +kernel
theorem dL_holds_255 : decode cL_holds 255 = .ok (.iconst 0, 1) := by decide +kernel
theorem dL_holds_256 : decode cL_holds 256 = .ok (.istore 4, 2) := by decide +kernel
theorem dL_holds_258 : decode cL_holds 258 = .ok (.iconst 0, 1) := by decide +kernel
theorem dL_holds_259 : decode cL_holds 259 = .ok (.istore 5, 2) := by decide +kernel
theorem dL_holds_261 : decode cL_holds 261 = .ok (.iload 5, 2) := by decide +kernel
theorem dL_holds_263 : decode cL_holds 263 = .ok (.bipush 8, 2) := by decide +kernel
theorem dL_holds_265 : decode cL_holds 265 = .ok (.if_icmp .ge 21, 3) := by decide +kernel
theorem dL_holds_268 : decode cL_holds 268 = .ok (.iload 4, 2) := by decide +kernel
theorem dL_holds_270 : decode cL_holds 270 = .ok (.aload_n 0, 1) := by decide +kernel
theorem dL_holds_271 : decode cL_holds 271 = .ok (.iload 5, 2) := by decide +kernel
theorem dL_holds_273 : decode cL_holds 273 = .ok (.iconst 1, 1) := by decide +kernel
theorem dL_holds_274 : decode cL_holds 274 = .ok (.invokevirtual 28, 3) := by decide +kernel
theorem dL_holds_277 : decode cL_holds 277 = .ok (.iadd, 1) := by decide +kernel
theorem dL_holds_278 : decode cL_holds 278 = .ok (.istore 4, 2) := by decide +kernel
theorem dL_holds_280 : decode cL_holds 280 = .ok (.iinc 5 1, 3) := by decide +kernel
theorem dL_holds_283 : decode cL_holds 283 = .ok (.goto (-22), 3) := by decide +kernel
theorem dL_holds_286 : decode cL_holds 286 = .ok (.iconst 3, 1) := by decide +kernel
theorem dL_holds_287 : decode cL_holds 287 = .ok (.istore 5, 2) := by decide +kernel
theorem dL_holds_289 : decode cL_holds 289 = .ok (.iconst 0, 1) := by decide +kernel
theorem dL_holds_290 : decode cL_holds 290 = .ok (.istore 6, 2) := by decide +kernel
theorem dL_holds_292 : decode cL_holds 292 = .ok (.iload 6, 2) := by decide +kernel
theorem dL_holds_294 : decode cL_holds 294 = .ok (.aload_n 0, 1) := by decide +kernel
theorem dL_holds_295 : decode cL_holds 295 = .ok (.iconst 2, 1) := by decide +kernel
theorem dL_holds_296 : decode cL_holds 296 = .ok (.invokevirtual 12, 3) := by decide +kernel
theorem dL_holds_299 : decode cL_holds 299 = .ok (.if_icmp .ge 32, 3) := by decide +kernel
theorem dL_holds_302 : decode cL_holds 302 = .ok (.aload_n 0, 1) := by decide +kernel
theorem dL_holds_303 : decode cL_holds 303 = .ok (.iload 6, 2) := by decide +kernel
theorem dL_holds_305 : decode cL_holds 305 = .ok (.iconst 2, 1) := by decide +kernel
theorem dL_holds_306 : decode cL_holds 306 = .ok (.invokevirtual 25, 3) := by decide +kernel
theorem dL_holds_309 : decode cL_holds 309 = .ok (.iload 5, 2) := by decide +kernel
theorem dL_holds_311 : decode cL_holds 311 = .ok (.if_icmp .le 5, 3) := by decide +kernel
theorem dL_holds_314 : decode cL_holds 314 = .ok (.iconst 0, 1) := by decide +kernel
theorem dL_holds_315 : decode cL_holds 315 = .ok (.ireturn, 1) := by decide +kernel
theorem dL_holds_316 : decode cL_holds 316 = .ok (.aload_n 0, 1) := by decide +kernel
theorem dL_holds_317 : decode cL_holds 317 = .ok (.iload 6, 2) := by decide +kernel
theorem dL_holds_319 : decode cL_holds 319 = .ok (.iconst 2, 1) := by decide +kernel
theorem dL_holds_320 : decode cL_holds 320 = .ok (.invokevirtual 25, 3) := by decide +kernel
theorem dL_holds_323 : decode cL_holds 323 = .ok (.istore 5, 2) := by decide +kernel
theorem dL_holds_325 : decode cL_holds 325 = .ok (.iinc 6 1, 3) := by decide +kernel
theorem dL_holds_328 : decode cL_holds 328 = .ok (.goto (-36), 3) := by decide +kernel
theorem dL_holds_331 : decode cL_holds 331 = .ok (.iload 4, 2) := by decide +kernel
theorem dL_holds_333 : decode cL_holds 333 = .ok (.iload_n 1, 1) := by decide +kernel
theorem dL_holds_334 : decode cL_holds 334 = .ok (.if_icmp .ne 48, 3) := by decide +kernel
theorem dL_holds_337 : decode cL_holds 337 = .ok (.iload_n 2, 1) := by decide +kernel
theorem dL_holds_338 : decode cL_holds 338 = .ok (.aload_n 0, 1) := by decide +kernel
theorem dL_holds_339 : decode cL_holds 339 = .ok (.bipush 9, 2) := by decide +kernel
theorem dL_holds_341 : decode cL_holds 341 = .ok (.invokevirtual 12, 3) := by decide +kernel
theorem dL_holds_344 : decode cL_holds 344 = .ok (.sipush 10000, 3) := by decide +kernel
theorem dL_holds_347 : decode cL_holds 347 = .ok (.isub, 1) := by decide +kernel
theorem dL_holds_348 : decode cL_holds 348 = .ok (.if_icmp .ne 34, 3) := by decide +kernel
theorem dL_holds_351 : decode cL_holds 351 = .ok (.aload_n 0, 1) := by decide +kernel
theorem dL_holds_352 : decode cL_holds 352 = .ok (.bipush 6, 2) := by decide +kernel
theorem dL_holds_354 : decode cL_holds 354 = .ok (.invokevirtual 12, 3) := by decide +kernel
theorem dL_holds_357 : decode cL_holds 357 = .ok (.aload_n 0, 1) := by decide +kernel
theorem dL_holds_358 : decode cL_holds 358 = .ok (.iconst 5, 1) := by decide +kernel
theorem dL_holds_359 : decode cL_holds 359 = .ok (.invokevirtual 12, 3) := by decide +kernel
theorem dL_holds_362 : decode cL_holds 362 = .ok (.if_icmp .gt 20, 3) := by decide +kernel
theorem dL_holds_365 : decode cL_holds 365 = .ok (.aload_n 0, 1) := by decide +kernel
theorem dL_holds_366 : decode cL_holds 366 = .ok (.iconst 5, 1) := by decide +kernel
theorem dL_holds_367 : decode cL_holds 367 = .ok (.invokevirtual 12, 3) := by decide +kernel
theorem dL_holds_370 : decode cL_holds 370 = .ok (.aload_n 0, 1) := by decide +kernel
theorem dL_holds_371 : decode cL_holds 371 = .ok (.iconst 4, 1) := by decide +kernel
theorem dL_holds_372 : decode cL_holds 372 = .ok (.invokevirtual 12, 3) := by decide +kernel
theorem dL_holds_375 : decode cL_holds 375 = .ok (.if_icmp .gt 7, 3) := by decide +kernel
theorem dL_holds_378 : decode cL_holds 378 = .ok (.iconst 1, 1) := by decide +kernel
theorem dL_holds_379 : decode cL_holds 379 = .ok (.goto 4, 3) := by decide +kernel
theorem dL_holds_382 : decode cL_holds 382 = .ok (.iconst 0, 1) := by decide +kernel
theorem dL_holds_383 : decode cL_holds 383 = .ok (.ireturn, 1) := by decide +kernel
theorem dL_goesBySpeed_0 : decode cL_goesBySpeed 0 = .ok (.bipush 10, 2) := by decide +kernel
theorem dL_goesBySpeed_2 : decode cL_goesBySpeed 2 = .ok (.aload_n 0, 1) := by decide +kernel
theorem dL_goesBySpeed_3 : decode cL_goesBySpeed 3 = .ok (.iload_n 1, 1) := by decide +kernel
theorem dL_goesBySpeed_4 : decode cL_goesBySpeed 4 = .ok (.iconst 2, 1) := by decide +kernel
theorem dL_goesBySpeed_5 : decode cL_goesBySpeed 5 = .ok (.invokevirtual 21, 3) := by decide +kernel
theorem dL_goesBySpeed_8 : decode cL_goesBySpeed 8 = .ok (.imul, 1) := by decide +kernel
theorem dL_goesBySpeed_9 : decode cL_goesBySpeed 9 = .ok (.aload_n 0, 1) := by decide +kernel
theorem dL_goesBySpeed_10 : decode cL_goesBySpeed 10 = .ok (.iload_n 1, 1) := by decide +kernel
theorem dL_goesBySpeed_11 : decode cL_goesBySpeed 11 = .ok (.iconst 3, 1) := by decide +kernel
theorem dL_goesBySpeed_12 : decode cL_goesBySpeed 12 = .ok (.invokevirtual 21, 3) := by decide +kernel
theorem dL_goesBySpeed_15 : decode cL_goesBySpeed 15 = .ok (.iadd, 1) := by decide +kernel
theorem dL_goesBySpeed_16 : decode cL_goesBySpeed 16 = .ok (.sipush 8000, 3) := by decide +kernel
theorem dL_goesBySpeed_19 : decode cL_goesBySpeed 19 = .ok (.aload_n 0, 1) := by decide +kernel
theorem dL_goesBySpeed_20 : decode cL_goesBySpeed 20 = .ok (.iload_n 1, 1) := by decide +kernel
theorem dL_goesBySpeed_21 : decode cL_goesBySpeed 21 = .ok (.bipush 11, 2) := by decide +kernel
theorem dL_goesBySpeed_23 : decode cL_goesBySpeed 23 = .ok (.invokevirtual 21, 3) := by decide +kernel
theorem dL_goesBySpeed_26 : decode cL_goesBySpeed 26 = .ok (.sipush 1000, 3) := by decide +kernel
theorem dL_goesBySpeed_29 : decode cL_goesBySpeed 29 = .ok (.isub, 1) := by decide +kernel
theorem dL_goesBySpeed_30 : decode cL_goesBySpeed 30 = .ok (.imul, 1) := by decide +kernel
theorem dL_goesBySpeed_31 : decode cL_goesBySpeed 31 = .ok (.iadd, 1) := by decide +kernel
theorem dL_goesBySpeed_32 : decode cL_goesBySpeed 32 = .ok (.istore_n 2, 1) := by decide +kernel
theorem dL_goesBySpeed_33 : decode cL_goesBySpeed 33 = .ok (.aload_n 0, 1) := by decide +kernel
theorem dL_goesBySpeed_34 : decode cL_goesBySpeed 34 = .ok (.iload_n 1, 1) := by decide +kernel
theorem dL_goesBySpeed_35 : decode cL_goesBySpeed 35 = .ok (.iconst 4, 1) := by decide +kernel
theorem dL_goesBySpeed_36 : decode cL_goesBySpeed 36 = .ok (.invokevirtual 21, 3) := by decide +kernel
theorem dL_goesBySpeed_39 : decode cL_goesBySpeed 39 = .ok (.istore_n 3, 1) := by decide +kernel
theorem dL_goesBySpeed_40 : decode cL_goesBySpeed 40 = .ok (.aload_n 0, 1) := by decide +kernel
theorem dL_goesBySpeed_41 : decode cL_goesBySpeed 41 = .ok (.aload_n 0, 1) := by decide +kernel
theorem dL_goesBySpeed_42 : decode cL_goesBySpeed 42 = .ok (.iload_n 1, 1) := by decide +kernel
theorem dL_goesBySpeed_43 : decode cL_goesBySpeed 43 = .ok (.bipush 9, 2) := by decide +kernel
theorem dL_goesBySpeed_45 : decode cL_goesBySpeed 45 = .ok (.invokevirtual 21, 3) := by decide +kernel
theorem dL_goesBySpeed_48 : decode cL_goesBySpeed 48 = .ok (.iconst 0, 1) := by decide +kernel
theorem dL_goesBySpeed_49 : decode cL_goesBySpeed 49 = .ok (.invokevirtual 28, 3) := by decide +kernel
theorem dL_goesBySpeed_52 : decode cL_goesBySpeed 52 = .ok (.ifCond .le 7, 3) := by decide +kernel
theorem dL_goesBySpeed_55 : decode cL_goesBySpeed 55 = .ok (.iconst 1, 1) := by decide +kernel
theorem dL_goesBySpeed_56 : decode cL_goesBySpeed 56 = .ok (.goto 4, 3) := by decide +kernel
theorem dL_goesBySpeed_59 : decode cL_goesBySpeed 59 = .ok (.iconst 0, 1) := by decide +kernel
theorem dL_goesBySpeed_60 : decode cL_goesBySpeed 60 = .ok (.istore 4, 2) := by decide +kernel
theorem dL_goesBySpeed_62 : decode cL_goesBySpeed 62 = .ok (.aload_n 0, 1) := by decide +kernel
theorem dL_goesBySpeed_63 : decode cL_goesBySpeed 63 = .ok (.iconst 2, 1) := by decide +kernel
theorem dL_goesBySpeed_64 : decode cL_goesBySpeed 64 = .ok (.invokevirtual 12, 3) := by decide +kernel
theorem dL_goesBySpeed_67 : decode cL_goesBySpeed 67 = .ok (.ifCond .ne 7, 3) := by decide +kernel
theorem dL_goesBySpeed_70 : decode cL_goesBySpeed 70 = .ok (.iconst 1, 1) := by decide +kernel
theorem dL_goesBySpeed_71 : decode cL_goesBySpeed 71 = .ok (.goto 4, 3) := by decide +kernel
theorem dL_goesBySpeed_74 : decode cL_goesBySpeed 74 = .ok (.iconst 0, 1) := by decide +kernel
theorem dL_goesBySpeed_75 : decode cL_goesBySpeed 75 = .ok (.istore 5, 2) := by decide +kernel
theorem dL_goesBySpeed_77 : decode cL_goesBySpeed 77 = .ok (.aload_n 0, 1) := by decide +kernel
theorem dL_goesBySpeed_78 : decode cL_goesBySpeed 78 = .ok (.iload_n 1, 1) := by decide +kernel
theorem dL_goesBySpeed_79 : decode cL_goesBySpeed 79 = .ok (.iconst 5, 1) := by decide +kernel
theorem dL_goesBySpeed_80 : decode cL_goesBySpeed 80 = .ok (.invokevirtual 21, 3) := by decide +kernel
theorem dL_goesBySpeed_83 : decode cL_goesBySpeed 83 = .ok (.istore 6, 2) := by decide +kernel
theorem dL_goesBySpeed_85 : decode cL_goesBySpeed 85 = .ok (.aload_n 0, 1) := by decide +kernel
theorem dL_goesBySpeed_86 : decode cL_goesBySpeed 86 = .ok (.iconst 1, 1) := by decide +kernel
theorem dL_goesBySpeed_87 : decode cL_goesBySpeed 87 = .ok (.invokevirtual 59, 3) := by decide +kernel
theorem dL_goesBySpeed_90 : decode cL_goesBySpeed 90 = .ok (.pop, 1) := by decide +kernel
theorem dL_goesBySpeed_91 : decode cL_goesBySpeed 91 = .ok (.bipush 10, 2) := by decide +kernel
theorem dL_goesBySpeed_93 : decode cL_goesBySpeed 93 = .ok (.aload_n 0, 1) := by decide +kernel
theorem dL_goesBySpeed_94 : decode cL_goesBySpeed 94 = .ok (.iload_n 1, 1) := by decide +kernel
theorem dL_goesBySpeed_95 : decode cL_goesBySpeed 95 = .ok (.iconst 2, 1) := by decide +kernel
theorem dL_goesBySpeed_96 : decode cL_goesBySpeed 96 = .ok (.invokevirtual 21, 3) := by decide +kernel
theorem dL_goesBySpeed_99 : decode cL_goesBySpeed 99 = .ok (.imul, 1) := by decide +kernel
theorem dL_goesBySpeed_100 : decode cL_goesBySpeed 100 = .ok (.aload_n 0, 1) := by decide +kernel
theorem dL_goesBySpeed_101 : decode cL_goesBySpeed 101 = .ok (.iload_n 1, 1) := by decide +kernel
theorem dL_goesBySpeed_102 : decode cL_goesBySpeed 102 = .ok (.iconst 3, 1) := by decide +kernel
theorem dL_goesBySpeed_103 : decode cL_goesBySpeed 103 = .ok (.invokevirtual 21, 3) := by decide +kernel
theorem dL_goesBySpeed_106 : decode cL_goesBySpeed 106 = .ok (.iadd, 1) := by decide +kernel
theorem dL_goesBySpeed_107 : decode cL_goesBySpeed 107 = .ok (.sipush 8000, 3) := by decide +kernel
theorem dL_goesBySpeed_110 : decode cL_goesBySpeed 110 = .ok (.aload_n 0, 1) := by decide +kernel
theorem dL_goesBySpeed_111 : decode cL_goesBySpeed 111 = .ok (.iload_n 1, 1) := by decide +kernel
theorem dL_goesBySpeed_112 : decode cL_goesBySpeed 112 = .ok (.bipush 11, 2) := by decide +kernel
theorem dL_goesBySpeed_114 : decode cL_goesBySpeed 114 = .ok (.invokevirtual 21, 3) := by decide +kernel
theorem dL_goesBySpeed_117 : decode cL_goesBySpeed 117 = .ok (.sipush 1000, 3) := by decide +kernel
theorem dL_goesBySpeed_120 : decode cL_goesBySpeed 120 = .ok (.isub, 1) := by decide +kernel
theorem dL_goesBySpeed_121 : decode cL_goesBySpeed 121 = .ok (.imul, 1) := by decide +kernel
theorem dL_goesBySpeed_122 : decode cL_goesBySpeed 122 = .ok (.iadd, 1) := by decide +kernel
theorem dL_goesBySpeed_123 : decode cL_goesBySpeed 123 = .ok (.istore 7, 2) := by decide +kernel
theorem dL_goesBySpeed_125 : decode cL_goesBySpeed 125 = .ok (.aload_n 0, 1) := by decide +kernel
theorem dL_goesBySpeed_126 : decode cL_goesBySpeed 126 = .ok (.iload_n 1, 1) := by decide +kernel
theorem dL_goesBySpeed_127 : decode cL_goesBySpeed 127 = .ok (.iconst 4, 1) := by decide +kernel
theorem dL_goesBySpeed_128 : decode cL_goesBySpeed 128 = .ok (.invokevirtual 21, 3) := by decide +kernel
theorem dL_goesBySpeed_131 : decode cL_goesBySpeed 131 = .ok (.istore 8, 2) := by decide +kernel
theorem dL_goesBySpeed_133 : decode cL_goesBySpeed 133 = .ok (.iload 7, 2) := by decide +kernel
theorem dL_goesBySpeed_135 : decode cL_goesBySpeed 135 = .ok (.iload_n 2, 1) := by decide +kernel
theorem dL_goesBySpeed_136 : decode cL_goesBySpeed 136 = .ok (.isub, 1) := by decide +kernel
theorem dL_goesBySpeed_137 : decode cL_goesBySpeed 137 = .ok (.iload 8, 2) := by decide +kernel
theorem dL_goesBySpeed_139 : decode cL_goesBySpeed 139 = .ok (.sipush 1000, 3) := by decide +kernel
theorem dL_goesBySpeed_142 : decode cL_goesBySpeed 142 = .ok (.isub, 1) := by decide +kernel
theorem dL_goesBySpeed_143 : decode cL_goesBySpeed 143 = .ok (.if_icmp .ne 20, 3) := by decide +kernel
theorem dL_goesBySpeed_146 : decode cL_goesBySpeed 146 = .ok (.iload 4, 2) := by decide +kernel
theorem dL_goesBySpeed_148 : decode cL_goesBySpeed 148 = .ok (.ifCond .eq 11, 3) := by decide +kernel
theorem dL_goesBySpeed_151 : decode cL_goesBySpeed 151 = .ok (.iload 8, 2) := by decide +kernel
theorem dL_goesBySpeed_153 : decode cL_goesBySpeed 153 = .ok (.sipush 1000, 3) := by decide +kernel
theorem dL_goesBySpeed_156 : decode cL_goesBySpeed 156 = .ok (.if_icmp .ne 7, 3) := by decide +kernel
theorem dL_goesBySpeed_159 : decode cL_goesBySpeed 159 = .ok (.iconst 1, 1) := by decide +kernel
theorem dL_goesBySpeed_160 : decode cL_goesBySpeed 160 = .ok (.goto 4, 3) := by decide +kernel
theorem dL_goesBySpeed_163 : decode cL_goesBySpeed 163 = .ok (.iconst 0, 1) := by decide +kernel
theorem dL_goesBySpeed_164 : decode cL_goesBySpeed 164 = .ok (.istore 9, 2) := by decide +kernel
theorem dL_goesBySpeed_166 : decode cL_goesBySpeed 166 = .ok (.bipush 60, 2) := by decide +kernel
theorem dL_goesBySpeed_168 : decode cL_goesBySpeed 168 = .ok (.aload_n 0, 1) := by decide +kernel
theorem dL_goesBySpeed_169 : decode cL_goesBySpeed 169 = .ok (.iload_n 1, 1) := by decide +kernel
theorem dL_goesBySpeed_170 : decode cL_goesBySpeed 170 = .ok (.iconst 0, 1) := by decide +kernel
theorem dL_goesBySpeed_171 : decode cL_goesBySpeed 171 = .ok (.invokevirtual 21, 3) := by decide +kernel
theorem dL_goesBySpeed_174 : decode cL_goesBySpeed 174 = .ok (.idiv, 1) := by decide +kernel
theorem dL_goesBySpeed_175 : decode cL_goesBySpeed 175 = .ok (.istore 10, 2) := by decide +kernel
theorem dL_goesBySpeed_177 : decode cL_goesBySpeed 177 = .ok (.iload 9, 2) := by decide +kernel
theorem dL_goesBySpeed_179 : decode cL_goesBySpeed 179 = .ok (.ifCond .eq 60, 3) := by decide +kernel
theorem dL_goesBySpeed_182 : decode cL_goesBySpeed 182 = .ok (.iload 4, 2) := by decide +kernel
theorem dL_goesBySpeed_184 : decode cL_goesBySpeed 184 = .ok (.ifCond .ne 51, 3) := by decide +kernel
theorem dL_goesBySpeed_187 : decode cL_goesBySpeed 187 = .ok (.iload 5, 2) := by decide +kernel
theorem dL_goesBySpeed_189 : decode cL_goesBySpeed 189 = .ok (.ifCond .eq 46, 3) := by decide +kernel
theorem dL_goesBySpeed_192 : decode cL_goesBySpeed 192 = .ok (.iload 8, 2) := by decide +kernel
theorem dL_goesBySpeed_194 : decode cL_goesBySpeed 194 = .ok (.iload_n 3, 1) := by decide +kernel
theorem dL_goesBySpeed_195 : decode cL_goesBySpeed 195 = .ok (.isub, 1) := by decide +kernel
theorem dL_goesBySpeed_196 : decode cL_goesBySpeed 196 = .ok (.iload 10, 2) := by decide +kernel
theorem dL_goesBySpeed_198 : decode cL_goesBySpeed 198 = .ok (.if_icmp .gt 41, 3) := by decide +kernel
theorem dL_goesBySpeed_201 : decode cL_goesBySpeed 201 = .ok (.iload_n 3, 1) := by decide +kernel
theorem dL_goesBySpeed_202 : decode cL_goesBySpeed 202 = .ok (.iload 8, 2) := by decide +kernel
theorem dL_goesBySpeed_204 : decode cL_goesBySpeed 204 = .ok (.isub, 1) := by decide +kernel
theorem dL_goesBySpeed_205 : decode cL_goesBySpeed 205 = .ok (.iload 10, 2) := by decide +kernel
theorem dL_goesBySpeed_207 : decode cL_goesBySpeed 207 = .ok (.if_icmp .gt 32, 3) := by decide +kernel
theorem dL_goesBySpeed_210 : decode cL_goesBySpeed 210 = .ok (.iload 8, 2) := by decide +kernel
theorem dL_goesBySpeed_212 : decode cL_goesBySpeed 212 = .ok (.iload 6, 2) := by decide +kernel
theorem dL_goesBySpeed_214 : decode cL_goesBySpeed 214 = .ok (.if_icmp .eq 21, 3) := by decide +kernel
theorem dL_goesBySpeed_217 : decode cL_goesBySpeed 217 = .ok (.iload 8, 2) := by decide +kernel
theorem dL_goesBySpeed_219 : decode cL_goesBySpeed 219 = .ok (.iload_n 3, 1) := by decide +kernel
theorem dL_goesBySpeed_220 : decode cL_goesBySpeed 220 = .ok (.isub, 1) := by decide +kernel
theorem dL_goesBySpeed_221 : decode cL_goesBySpeed 221 = .ok (.iload 10, 2) := by decide +kernel
theorem dL_goesBySpeed_223 : decode cL_goesBySpeed 223 = .ok (.if_icmp .eq 12, 3) := by decide +kernel
theorem dL_goesBySpeed_226 : decode cL_goesBySpeed 226 = .ok (.iload_n 3, 1) := by decide +kernel
theorem dL_goesBySpeed_227 : decode cL_goesBySpeed 227 = .ok (.iload 8, 2) := by decide +kernel
theorem dL_goesBySpeed_229 : decode cL_goesBySpeed 229 = .ok (.isub, 1) := by decide +kernel
theorem dL_goesBySpeed_230 : decode cL_goesBySpeed 230 = .ok (.iload 10, 2) := by decide +kernel
theorem dL_goesBySpeed_232 : decode cL_goesBySpeed 232 = .ok (.if_icmp .ne 7, 3) := by decide +kernel
theorem dL_goesBySpeed_235 : decode cL_goesBySpeed 235 = .ok (.iconst 1, 1) := by decide +kernel
theorem dL_goesBySpeed_236 : decode cL_goesBySpeed 236 = .ok (.goto 4, 3) := by decide +kernel
theorem dL_goesBySpeed_239 : decode cL_goesBySpeed 239 = .ok (.iconst 0, 1) := by decide +kernel
theorem dL_goesBySpeed_240 : decode cL_goesBySpeed 240 = .ok (.istore 9, 2) := by decide +kernel
theorem dL_goesBySpeed_242 : decode cL_goesBySpeed 242 = .ok (.aload_n 0, 1) := by decide +kernel
theorem dL_goesBySpeed_243 : decode cL_goesBySpeed 243 = .ok (.invokevirtual 68, 3) := by decide +kernel
theorem dL_goesBySpeed_246 : decode cL_goesBySpeed 246 = .ok (.pop, 1) := by decide +kernel
theorem dL_goesBySpeed_247 : decode cL_goesBySpeed 247 = .ok (.iload 9, 2) := by decide +kernel
theorem dL_goesBySpeed_249 : decode cL_goesBySpeed 249 = .ok (.ireturn, 1) := by decide +kernel
theorem dL_law_0 : decode cL_law 0 = .ok (.new 13, 3) := by decide +kernel
theorem dL_law_3 : decode cL_law 3 = .ok (.dup, 1) := by decide +kernel
theorem dL_law_4 : decode cL_law 4 = .ok (.invokespecial 72, 3) := by decide +kernel
theorem dL_law_7 : decode cL_law 7 = .ok (.astore_n 1, 1) := by decide +kernel
theorem dL_law_8 : decode cL_law 8 = .ok (.aload_n 1, 1) := by decide +kernel
theorem dL_law_9 : decode cL_law 9 = .ok (.invokevirtual 68, 3) := by decide +kernel
theorem dL_law_12 : decode cL_law 12 = .ok (.bipush (-5), 2) := by decide +kernel
theorem dL_law_14 : decode cL_law 14 = .ok (.if_icmp .ne 21, 3) := by decide +kernel
theorem dL_law_17 : decode cL_law 17 = .ok (.aload_n 1, 1) := by decide +kernel
theorem dL_law_18 : decode cL_law 18 = .ok (.iconst 1, 1) := by decide +kernel
theorem dL_law_19 : decode cL_law 19 = .ok (.invokevirtual 56, 3) := by decide +kernel
theorem dL_law_22 : decode cL_law 22 = .ok (.bipush (-5), 2) := by decide +kernel
theorem dL_law_24 : decode cL_law 24 = .ok (.if_icmp .ne 11, 3) := by decide +kernel
theorem dL_law_27 : decode cL_law 27 = .ok (.aload_n 1, 1) := by decide +kernel
theorem dL_law_28 : decode cL_law 28 = .ok (.iconst 0, 1) := by decide +kernel
theorem dL_law_29 : decode cL_law 29 = .ok (.invokevirtual 73, 3) := by decide +kernel
theorem dL_law_32 : decode cL_law 32 = .ok (.ifCond .eq 5, 3) := by decide +kernel
theorem dL_law_35 : decode cL_law 35 = .ok (.iconst 0, 1) := by decide +kernel
theorem dL_law_36 : decode cL_law 36 = .ok (.ireturn, 1) := by decide +kernel
theorem dL_law_37 : decode cL_law 37 = .ok (.aload_n 1, 1) := by decide +kernel
theorem dL_law_38 : decode cL_law 38 = .ok (.invokestatic 76, 3) := by decide +kernel
theorem dL_law_41 : decode cL_law 41 = .ok (.lstore_n 2, 1) := by decide +kernel
theorem dL_law_42 : decode cL_law 42 = .ok (.iconst 0, 1) := by decide +kernel
theorem dL_law_43 : decode cL_law 43 = .ok (.istore 4, 2) := by decide +kernel
theorem dL_law_45 : decode cL_law 45 = .ok (.iload 4, 2) := by decide +kernel
theorem dL_law_47 : decode cL_law 47 = .ok (.bipush 40, 2) := by decide +kernel
theorem dL_law_49 : decode cL_law 49 = .ok (.if_icmp .ge 276, 3) := by decide +kernel
theorem dL_law_52 : decode cL_law 52 = .ok (.aload_n 0, 1) := by decide +kernel
theorem dL_law_53 : decode cL_law 53 = .ok (.iconst 2, 1) := by decide +kernel
theorem dL_law_54 : decode cL_law 54 = .ok (.iload 4, 2) := by decide +kernel
theorem dL_law_56 : decode cL_law 56 = .ok (.imul, 1) := by decide +kernel
theorem dL_law_57 : decode cL_law 57 = .ok (.invokestatic 80, 3) := by decide +kernel
theorem dL_law_60 : decode cL_law 60 = .ok (.istore 5, 2) := by decide +kernel
theorem dL_law_62 : decode cL_law 62 = .ok (.aload_n 0, 1) := by decide +kernel
theorem dL_law_63 : decode cL_law 63 = .ok (.iconst 2, 1) := by decide +kernel
theorem dL_law_64 : decode cL_law 64 = .ok (.iload 4, 2) := by decide +kernel
theorem dL_law_66 : decode cL_law 66 = .ok (.imul, 1) := by decide +kernel
theorem dL_law_67 : decode cL_law 67 = .ok (.iconst 1, 1) := by decide +kernel
theorem dL_law_68 : decode cL_law 68 = .ok (.iadd, 1) := by decide +kernel
theorem dL_law_69 : decode cL_law 69 = .ok (.invokestatic 80, 3) := by decide +kernel
theorem dL_law_72 : decode cL_law 72 = .ok (.istore 6, 2) := by decide +kernel
theorem dL_law_74 : decode cL_law 74 = .ok (.aload_n 1, 1) := by decide +kernel
theorem dL_law_75 : decode cL_law 75 = .ok (.invokestatic 76, 3) := by decide +kernel
theorem dL_law_78 : decode cL_law 78 = .ok (.lstore 7, 2) := by decide +kernel
theorem dL_law_80 : decode cL_law 80 = .ok (.aload_n 1, 1) := by decide +kernel
theorem dL_law_81 : decode cL_law 81 = .ok (.bipush 11, 2) := by decide +kernel
theorem dL_law_83 : decode cL_law 83 = .ok (.invokevirtual 12, 3) := by decide +kernel
theorem dL_law_86 : decode cL_law 86 = .ok (.istore 9, 2) := by decide +kernel
theorem dL_law_88 : decode cL_law 88 = .ok (.aload_n 1, 1) := by decide +kernel
theorem dL_law_89 : decode cL_law 89 = .ok (.iload 5, 2) := by decide +kernel
theorem dL_law_91 : decode cL_law 91 = .ok (.iload 6, 2) := by decide +kernel
theorem dL_law_93 : decode cL_law 93 = .ok (.invokestatic 84, 3) := by decide +kernel
theorem dL_law_96 : decode cL_law 96 = .ok (.istore 10, 2) := by decide +kernel
theorem dL_law_98 : decode cL_law 98 = .ok (.aload_n 1, 1) := by decide +kernel
theorem dL_law_99 : decode cL_law 99 = .ok (.invokestatic 76, 3) := by decide +kernel
theorem dL_law_102 : decode cL_law 102 = .ok (.lstore 11, 2) := by decide +kernel
theorem dL_law_104 : decode cL_law 104 = .ok (.iload 10, 2) := by decide +kernel
theorem dL_law_106 : decode cL_law 106 = .ok (.ifCond .ge 25, 3) := by decide +kernel
theorem dL_law_109 : decode cL_law 109 = .ok (.lload 11, 2) := by decide +kernel
theorem dL_law_111 : decode cL_law 111 = .ok (.lload 7, 2) := by decide +kernel
theorem dL_law_113 : decode cL_law 113 = .ok (.lcmp, 1) := by decide +kernel
theorem dL_law_114 : decode cL_law 114 = .ok (.ifCond .ne 42, 3) := by decide +kernel
theorem dL_law_117 : decode cL_law 117 = .ok (.aload_n 1, 1) := by decide +kernel
theorem dL_law_118 : decode cL_law 118 = .ok (.bipush 11, 2) := by decide +kernel
theorem dL_law_120 : decode cL_law 120 = .ok (.invokevirtual 12, 3) := by decide +kernel
theorem dL_law_123 : decode cL_law 123 = .ok (.iload 9, 2) := by decide +kernel
theorem dL_law_125 : decode cL_law 125 = .ok (.if_icmp .eq 33, 3) := by decide +kernel
theorem dL_law_128 : decode cL_law 128 = .ok (.goto 28, 3) := by decide +kernel
theorem dL_law_131 : decode cL_law 131 = .ok (.aload_n 1, 1) := by decide +kernel
theorem dL_law_132 : decode cL_law 132 = .ok (.bipush 11, 2) := by decide +kernel
theorem dL_law_134 : decode cL_law 134 = .ok (.invokevirtual 12, 3) := by decide +kernel
theorem dL_law_137 : decode cL_law 137 = .ok (.iload 9, 2) := by decide +kernel
theorem dL_law_139 : decode cL_law 139 = .ok (.bipush 6, 2) := by decide +kernel
theorem dL_law_141 : decode cL_law 141 = .ok (.if_icmp .ge 10, 3) := by decide +kernel
theorem dL_law_144 : decode cL_law 144 = .ok (.iload 9, 2) := by decide +kernel
theorem dL_law_146 : decode cL_law 146 = .ok (.iconst 1, 1) := by decide +kernel
theorem dL_law_147 : decode cL_law 147 = .ok (.iadd, 1) := by decide +kernel
theorem dL_law_148 : decode cL_law 148 = .ok (.goto 5, 3) := by decide +kernel
theorem dL_law_151 : decode cL_law 151 = .ok (.bipush 6, 2) := by decide +kernel
theorem dL_law_153 : decode cL_law 153 = .ok (.if_icmp .eq 5, 3) := by decide +kernel
theorem dL_law_156 : decode cL_law 156 = .ok (.iconst 0, 1) := by decide +kernel
theorem dL_law_157 : decode cL_law 157 = .ok (.ireturn, 1) := by decide +kernel
theorem dL_law_158 : decode cL_law 158 = .ok (.iload 10, 2) := by decide +kernel
theorem dL_law_160 : decode cL_law 160 = .ok (.ifCond .lt 22, 3) := by decide +kernel
theorem dL_law_163 : decode cL_law 163 = .ok (.iload 5, 2) := by decide +kernel
theorem dL_law_165 : decode cL_law 165 = .ok (.bipush 15, 2) := by decide +kernel
theorem dL_law_167 : decode cL_law 167 = .ok (.iand, 1) := by decide +kernel
theorem dL_law_168 : decode cL_law 168 = .ok (.bipush 10, 2) := by decide +kernel
theorem dL_law_170 : decode cL_law 170 = .ok (.if_icmp .ne 12, 3) := by decide +kernel
theorem dL_law_173 : decode cL_law 173 = .ok (.lload 11, 2) := by decide +kernel
theorem dL_law_175 : decode cL_law 175 = .ok (.lload_n 2, 1) := by decide +kernel
theorem dL_law_176 : decode cL_law 176 = .ok (.lcmp, 1) := by decide +kernel
theorem dL_law_177 : decode cL_law 177 = .ok (.ifCond .eq 5, 3) := by decide +kernel
theorem dL_law_180 : decode cL_law 180 = .ok (.iconst 0, 1) := by decide +kernel
theorem dL_law_181 : decode cL_law 181 = .ok (.ireturn, 1) := by decide +kernel
theorem dL_law_182 : decode cL_law 182 = .ok (.iload 10, 2) := by decide +kernel
theorem dL_law_184 : decode cL_law 184 = .ok (.ifCond .lt 67, 3) := by decide +kernel
theorem dL_law_187 : decode cL_law 187 = .ok (.iload 5, 2) := by decide +kernel
theorem dL_law_189 : decode cL_law 189 = .ok (.bipush 8, 2) := by decide +kernel
theorem dL_law_191 : decode cL_law 191 = .ok (.ishr, 1) := by decide +kernel
theorem dL_law_192 : decode cL_law 192 = .ok (.iconst 1, 1) := by decide +kernel
theorem dL_law_193 : decode cL_law 193 = .ok (.iand, 1) := by decide +kernel
theorem dL_law_194 : decode cL_law 194 = .ok (.ifCond .ne 57, 3) := by decide +kernel
theorem dL_law_197 : decode cL_law 197 = .ok (.aload_n 1, 1) := by decide +kernel
theorem dL_law_198 : decode cL_law 198 = .ok (.bipush 11, 2) := by decide +kernel
theorem dL_law_200 : decode cL_law 200 = .ok (.invokevirtual 12, 3) := by decide +kernel
theorem dL_law_203 : decode cL_law 203 = .ok (.iconst 1, 1) := by decide +kernel
theorem dL_law_204 : decode cL_law 204 = .ok (.isub, 1) := by decide +kernel
theorem dL_law_205 : decode cL_law 205 = .ok (.istore 13, 2) := by decide +kernel
theorem dL_law_207 : decode cL_law 207 = .ok (.aload_n 1, 1) := by decide +kernel
theorem dL_law_208 : decode cL_law 208 = .ok (.invokevirtual 68, 3) := by decide +kernel
theorem dL_law_211 : decode cL_law 211 = .ok (.iload 13, 2) := by decide +kernel
theorem dL_law_213 : decode cL_law 213 = .ok (.if_icmp .ne 36, 3) := by decide +kernel
theorem dL_law_216 : decode cL_law 216 = .ok (.aload_n 1, 1) := by decide +kernel
theorem dL_law_217 : decode cL_law 217 = .ok (.invokestatic 76, 3) := by decide +kernel
theorem dL_law_220 : decode cL_law 220 = .ok (.lload 7, 2) := by decide +kernel
theorem dL_law_222 : decode cL_law 222 = .ok (.lcmp, 1) := by decide +kernel
theorem dL_law_223 : decode cL_law 223 = .ok (.ifCond .ne 26, 3) := by decide +kernel
theorem dL_law_226 : decode cL_law 226 = .ok (.aload_n 1, 1) := by decide +kernel
theorem dL_law_227 : decode cL_law 227 = .ok (.iload 5, 2) := by decide +kernel
theorem dL_law_229 : decode cL_law 229 = .ok (.iload 6, 2) := by decide +kernel
theorem dL_law_231 : decode cL_law 231 = .ok (.invokestatic 84, 3) := by decide +kernel
theorem dL_law_234 : decode cL_law 234 = .ok (.iload 10, 2) := by decide +kernel
theorem dL_law_236 : decode cL_law 236 = .ok (.if_icmp .ne 13, 3) := by decide +kernel
theorem dL_law_239 : decode cL_law 239 = .ok (.aload_n 1, 1) := by decide +kernel
theorem dL_law_240 : decode cL_law 240 = .ok (.invokestatic 76, 3) := by decide +kernel
theorem dL_law_243 : decode cL_law 243 = .ok (.lload 11, 2) := by decide +kernel
theorem dL_law_245 : decode cL_law 245 = .ok (.lcmp, 1) := by decide +kernel
theorem dL_law_246 : decode cL_law 246 = .ok (.ifCond .eq 5, 3) := by decide +kernel
theorem dL_law_249 : decode cL_law 249 = .ok (.iconst 0, 1) := by decide +kernel
theorem dL_law_250 : decode cL_law 250 = .ok (.ireturn, 1) := by decide +kernel
theorem dL_law_251 : decode cL_law 251 = .ok (.aload_n 1, 1) := by decide +kernel
theorem dL_law_252 : decode cL_law 252 = .ok (.invokestatic 88, 3) := by decide +kernel
theorem dL_law_255 : decode cL_law 255 = .ok (.ifCond .eq 42, 3) := by decide +kernel
theorem dL_law_258 : decode cL_law 258 = .ok (.aload_n 1, 1) := by decide +kernel
theorem dL_law_259 : decode cL_law 259 = .ok (.iconst 1, 1) := by decide +kernel
theorem dL_law_260 : decode cL_law 260 = .ok (.invokevirtual 12, 3) := by decide +kernel
theorem dL_law_263 : decode cL_law 263 = .ok (.ifCond .le 24, 3) := by decide +kernel
theorem dL_law_266 : decode cL_law 266 = .ok (.aload_n 1, 1) := by decide +kernel
theorem dL_law_267 : decode cL_law 267 = .ok (.aload_n 1, 1) := by decide +kernel
theorem dL_law_268 : decode cL_law 268 = .ok (.iload 6, 2) := by decide +kernel
theorem dL_law_270 : decode cL_law 270 = .ok (.aload_n 1, 1) := by decide +kernel
theorem dL_law_271 : decode cL_law 271 = .ok (.iconst 1, 1) := by decide +kernel
theorem dL_law_272 : decode cL_law 272 = .ok (.invokevirtual 12, 3) := by decide +kernel
theorem dL_law_275 : decode cL_law 275 = .ok (.invokestatic 31, 3) := by decide +kernel
theorem dL_law_278 : decode cL_law 278 = .ok (.invokevirtual 18, 3) := by decide +kernel
theorem dL_law_281 : decode cL_law 281 = .ok (.invokestatic 92, 3) := by decide +kernel
theorem dL_law_284 : decode cL_law 284 = .ok (.ifCond .eq 13, 3) := by decide +kernel
theorem dL_law_287 : decode cL_law 287 = .ok (.aload_n 1, 1) := by decide +kernel
theorem dL_law_288 : decode cL_law 288 = .ok (.invokestatic 76, 3) := by decide +kernel
theorem dL_law_291 : decode cL_law 291 = .ok (.lload 11, 2) := by decide +kernel
theorem dL_law_293 : decode cL_law 293 = .ok (.lcmp, 1) := by decide +kernel
theorem dL_law_294 : decode cL_law 294 = .ok (.ifCond .eq 5, 3) := by decide +kernel
theorem dL_law_297 : decode cL_law 297 = .ok (.iconst 0, 1) := by decide +kernel
theorem dL_law_298 : decode cL_law 298 = .ok (.ireturn, 1) := by decide +kernel
theorem dL_law_299 : decode cL_law 299 = .ok (.iload 5, 2) := by decide +kernel
theorem dL_law_301 : decode cL_law 301 = .ok (.bipush 9, 2) := by decide +kernel
theorem dL_law_303 : decode cL_law 303 = .ok (.ishr, 1) := by decide +kernel
theorem dL_law_304 : decode cL_law 304 = .ok (.bipush 7, 2) := by decide +kernel
theorem dL_law_306 : decode cL_law 306 = .ok (.iand, 1) := by decide +kernel
theorem dL_law_307 : decode cL_law 307 = .ok (.ifCond .ne 12, 3) := by decide +kernel
theorem dL_law_310 : decode cL_law 310 = .ok (.aload_n 1, 1) := by decide +kernel
theorem dL_law_311 : decode cL_law 311 = .ok (.iconst 0, 1) := by decide +kernel
theorem dL_law_312 : decode cL_law 312 = .ok (.invokevirtual 73, 3) := by decide +kernel
theorem dL_law_315 : decode cL_law 315 = .ok (.pop, 1) := by decide +kernel
theorem dL_law_316 : decode cL_law 316 = .ok (.lload 11, 2) := by decide +kernel
theorem dL_law_318 : decode cL_law 318 = .ok (.lstore_n 2, 1) := by decide +kernel
theorem dL_law_319 : decode cL_law 319 = .ok (.iinc 4 1, 3) := by decide +kernel
theorem dL_law_322 : decode cL_law 322 = .ok (.goto (-277), 3) := by decide +kernel
theorem dL_law_325 : decode cL_law 325 = .ok (.aload_n 1, 1) := by decide +kernel
theorem dL_law_326 : decode cL_law 326 = .ok (.iconst 0, 1) := by decide +kernel
theorem dL_law_327 : decode cL_law 327 = .ok (.invokevirtual 56, 3) := by decide +kernel
theorem dL_law_330 : decode cL_law 330 = .ok (.aload_n 1, 1) := by decide +kernel
theorem dL_law_331 : decode cL_law 331 = .ok (.iconst 1, 1) := by decide +kernel
theorem dL_law_332 : decode cL_law 332 = .ok (.invokevirtual 12, 3) := by decide +kernel
theorem dL_law_335 : decode cL_law 335 = .ok (.if_icmp .ne 16, 3) := by decide +kernel
theorem dL_law_338 : decode cL_law 338 = .ok (.aload_n 1, 1) := by decide +kernel
theorem dL_law_339 : decode cL_law 339 = .ok (.invokestatic 76, 3) := by decide +kernel
theorem dL_law_342 : decode cL_law 342 = .ok (.lload_n 2, 1) := by decide +kernel
theorem dL_law_343 : decode cL_law 343 = .ok (.lcmp, 1) := by decide +kernel
theorem dL_law_344 : decode cL_law 344 = .ok (.ifCond .ne 7, 3) := by decide +kernel
theorem dL_law_347 : decode cL_law 347 = .ok (.iconst 1, 1) := by decide +kernel
theorem dL_law_348 : decode cL_law 348 = .ok (.goto 4, 3) := by decide +kernel
theorem dL_law_351 : decode cL_law 351 = .ok (.iconst 0, 1) := by decide +kernel
theorem dL_law_352 : decode cL_law 352 = .ok (.ireturn, 1) := by decide +kernel
end
section
theorem nx_add {x y : Int32} {a b : Nat} (hx : x = nI a) (hy : y = nI b) : x + y = nI (a + b) := by rw [hx, hy, nI_add]
theorem nx_mul {x y : Int32} {a b : Nat} (hx : x = nI a) (hy : y = nI b) : x * y = nI (a * b) := by rw [hx, hy, pk_mul]
theorem nx_sub {x y : Int32} {a b : Nat} (hx : x = nI a) (hy : y = nI b) (h : b ≤ a) : x - y = nI (a - b) := by rw [hx, hy, pk_sub h]
theorem nx_div {x y : Int32} {a b : Nat} (hx : x = nI a) (hy : y = nI b) (ha : a < 2 ^ 31) (h0 : 0 < b) (hb : b < 2 ^ 31) : x / y = nI (a / b) := by rw [hx, hy, pk_div ha h0 hb]
theorem nx_rem {x y : Int32} {a b : Nat} (hx : x = nI a) (hy : y = nI b) (ha : a < 2 ^ 31) (h0 : 0 < b) (hb : b < 2 ^ 31) : x % y = nI (a % b) := by rw [hx, hy, ← irem_eq, pk_rem ha h0 hb]
theorem nx_eqt {x y : Int32} {a b : Nat} (hx : x = nI a) (hy : y = nI b) (ha : a < 2 ^ 31) (hb : b < 2 ^ 31) (c : x = y) : a = b := (nI_eq ha hb).mp (by rw [← hx, ← hy]; exact c)
theorem nx_eqf {x y : Int32} {a b : Nat} (hx : x = nI a) (hy : y = nI b) (ha : a < 2 ^ 31) (hb : b < 2 ^ 31) (c : ¬ x = y) : a ≠ b := fun h => c (by rw [hx, hy, h])
theorem nx_net {x y : Int32} {a b : Nat} (hx : x = nI a) (hy : y = nI b) (ha : a < 2 ^ 31) (hb : b < 2 ^ 31) (c : ¬ x = y) : a ≠ b := fun h => c (by rw [hx, hy, h])
theorem nx_nef {x y : Int32} {a b : Nat} (hx : x = nI a) (hy : y = nI b) (ha : a < 2 ^ 31) (hb : b < 2 ^ 31) (c : x = y) : a = b := (nI_eq ha hb).mp (by rw [← hx, ← hy]; exact c)
theorem nx_ltt {x y : Int32} {a b : Nat} (hx : x = nI a) (hy : y = nI b) (ha : a < 2 ^ 31) (hb : b < 2 ^ 31) (c : x < y) : a < b := (nI_ltI ha hb).mp (by rw [← hx, ← hy]; exact c)
theorem nx_ltf {x y : Int32} {a b : Nat} (hx : x = nI a) (hy : y = nI b) (ha : a < 2 ^ 31) (hb : b < 2 ^ 31) (c : ¬ x < y) : b ≤ a := Nat.not_lt.mp fun h => c (by rw [hx, hy]; exact (nI_ltI ha hb).mpr h)
theorem nx_let {x y : Int32} {a b : Nat} (hx : x = nI a) (hy : y = nI b) (ha : a < 2 ^ 31) (hb : b < 2 ^ 31) (c : x ≤ y) : a ≤ b := (nI_leI ha hb).mp (by rw [← hx, ← hy]; exact c)
theorem nx_lef {x y : Int32} {a b : Nat} (hx : x = nI a) (hy : y = nI b) (ha : a < 2 ^ 31) (hb : b < 2 ^ 31) (c : ¬ x ≤ y) : b < a := Nat.not_le.mp fun h => c (by rw [hx, hy]; exact (nI_leI ha hb).mpr h)
theorem nx_gtt {x y : Int32} {a b : Nat} (hx : x = nI a) (hy : y = nI b) (ha : a < 2 ^ 31) (hb : b < 2 ^ 31) (c : y < x) : b < a := nx_ltt hy hx hb ha c
theorem nx_gtf {x y : Int32} {a b : Nat} (hx : x = nI a) (hy : y = nI b) (ha : a < 2 ^ 31) (hb : b < 2 ^ 31) (c : ¬ y < x) : a ≤ b := nx_ltf hy hx hb ha c
theorem nx_get {x y : Int32} {a b : Nat} (hx : x = nI a) (hy : y = nI b) (ha : a < 2 ^ 31) (hb : b < 2 ^ 31) (c : y ≤ x) : b ≤ a := nx_let hy hx hb ha c
theorem nx_gef {x y : Int32} {a b : Nat} (hx : x = nI a) (hy : y = nI b) (ha : a < 2 ^ 31) (hb : b < 2 ^ 31) (c : ¬ y ≤ x) : a < b := nx_lef hy hx hb ha c
theorem sw_in {x : Int32} {lo hi : Int} (h1 : lo ≤ x.toInt) (h2 : x.toInt ≤ hi) (h0 : 0 ≤ lo) : ∃ j : Nat, (j : Int) ≤ hi - lo ∧ x = nI (lo.toNat + j) := by
  refine ⟨(x.toInt - lo).toNat, by omega, ?_⟩
  have h3 : x.toInt < 2 ^ 31 := x.toInt_lt
  apply Int32.toInt_inj.mp
  rw [nI_toInt (by omega)]
  omega
theorem i_lt {a b : Int32} : a < b ↔ a.toInt < b.toInt := Int32.lt_iff_toInt_lt
theorem i_le {a b : Int32} : a ≤ b ↔ a.toInt ≤ b.toInt := Int32.le_iff_toInt_le
theorem i_eq {a b : Int32} : a = b ↔ a.toInt = b.toInt := ⟨fun h => by rw [h], fun h => Int32.toInt_inj.mp h⟩
theorem nar_b {c : Prop} [Decidable c] : narrow .boolean (.int (bz c)) = .int (bz c) := by unfold bz; split <;> rfl
theorem fit_b {c : Prop} [Decidable c] : fits .boolean (.int (bz c)) = true := by unfold bz; split <;> rfl
section X8
variable {p : Program} {l : Launch} {e : Env} {R : Room} {s : State} {m : MethodId} {args : Array Value} {below : List Frame} {meth : Method} {c : Code} {G : Gm} {A : Nat → Prop} {nL ce sl : Nat} {Q : State → Prop} {I : Ii} {pm : Pm} {L : List (Nat × Value)} {pc : Nat} {st rest : List Value} {cc : ByteArray} {own : String}
theorem g_iincC (F : FX p s m args c cc nL own G A) {i : Nat} {n : Int} {x q : Int32} {L' : List (Nat × Value)} (j : Nat) (hd : decode cc pc = .ok (.iinc i n, 3)) (hq : Int32.ofInt n = q) (hk : L[j]? = some (i, .int x)) (hn : i < nL) (hl : (i, Value.int (x + q)) :: L.filter (fun q => !(q.1 == i) && !(q.1 + 1 == i && q.2.category == 2)) = L') (kk : GG p l e R s m args below meth c G A nL ce sl Q I pm L' (pc + 3) st) : GG p l e R s m args below meth c G A nL ce sl Q I pm L pc st := g_iinc F j hd hk (by rw [hq]) hn hl kk
theorem g_tif_eq {x : Int32} (va vb : Int32) (pcJ : Nat) (hbr : (x = 0 → GG p l e R s m args below meth c G A nL ce sl Q I pm L pcJ (.int va :: rest)) → (¬ x = 0 → GG p l e R s m args below meth c G A nL ce sl Q I pm L pcJ (.int vb :: rest)) → GG p l e R s m args below meth c G A nL ce sl Q I pm L pc (.int x :: rest)) (kk : GG p l e R s m args below meth c G A nL ce sl Q I pm L pcJ (.int (if x = 0 then va else vb) :: rest)) : GG p l e R s m args below meth c G A nL ce sl Q I pm L pc (.int x :: rest) := g_tern1 (x = 0) va vb pcJ hbr kk
theorem g_ticmp_eq {x y : Int32} (va vb : Int32) (pcJ : Nat) (hbr : (x = y → GG p l e R s m args below meth c G A nL ce sl Q I pm L pcJ (.int va :: rest)) → (¬ x = y → GG p l e R s m args below meth c G A nL ce sl Q I pm L pcJ (.int vb :: rest)) → GG p l e R s m args below meth c G A nL ce sl Q I pm L pc (.int y :: .int x :: rest)) (kk : GG p l e R s m args below meth c G A nL ce sl Q I pm L pcJ (.int (if x = y then va else vb) :: rest)) : GG p l e R s m args below meth c G A nL ce sl Q I pm L pc (.int y :: .int x :: rest) := g_tern2 (x = y) va vb pcJ hbr kk
theorem g_tif_ne {x : Int32} (va vb : Int32) (pcJ : Nat) (hbr : (¬ x = 0 → GG p l e R s m args below meth c G A nL ce sl Q I pm L pcJ (.int va :: rest)) → (¬ ¬ x = 0 → GG p l e R s m args below meth c G A nL ce sl Q I pm L pcJ (.int vb :: rest)) → GG p l e R s m args below meth c G A nL ce sl Q I pm L pc (.int x :: rest)) (kk : GG p l e R s m args below meth c G A nL ce sl Q I pm L pcJ (.int (if ¬ x = 0 then va else vb) :: rest)) : GG p l e R s m args below meth c G A nL ce sl Q I pm L pc (.int x :: rest) := g_tern1 (¬ x = 0) va vb pcJ hbr kk
theorem g_ticmp_ne {x y : Int32} (va vb : Int32) (pcJ : Nat) (hbr : (¬ x = y → GG p l e R s m args below meth c G A nL ce sl Q I pm L pcJ (.int va :: rest)) → (¬ ¬ x = y → GG p l e R s m args below meth c G A nL ce sl Q I pm L pcJ (.int vb :: rest)) → GG p l e R s m args below meth c G A nL ce sl Q I pm L pc (.int y :: .int x :: rest)) (kk : GG p l e R s m args below meth c G A nL ce sl Q I pm L pcJ (.int (if ¬ x = y then va else vb) :: rest)) : GG p l e R s m args below meth c G A nL ce sl Q I pm L pc (.int y :: .int x :: rest) := g_tern2 (¬ x = y) va vb pcJ hbr kk
theorem g_tif_lt {x : Int32} (va vb : Int32) (pcJ : Nat) (hbr : (x < 0 → GG p l e R s m args below meth c G A nL ce sl Q I pm L pcJ (.int va :: rest)) → (¬ x < 0 → GG p l e R s m args below meth c G A nL ce sl Q I pm L pcJ (.int vb :: rest)) → GG p l e R s m args below meth c G A nL ce sl Q I pm L pc (.int x :: rest)) (kk : GG p l e R s m args below meth c G A nL ce sl Q I pm L pcJ (.int (if x < 0 then va else vb) :: rest)) : GG p l e R s m args below meth c G A nL ce sl Q I pm L pc (.int x :: rest) := g_tern1 (x < 0) va vb pcJ hbr kk
theorem g_ticmp_lt {x y : Int32} (va vb : Int32) (pcJ : Nat) (hbr : (x < y → GG p l e R s m args below meth c G A nL ce sl Q I pm L pcJ (.int va :: rest)) → (¬ x < y → GG p l e R s m args below meth c G A nL ce sl Q I pm L pcJ (.int vb :: rest)) → GG p l e R s m args below meth c G A nL ce sl Q I pm L pc (.int y :: .int x :: rest)) (kk : GG p l e R s m args below meth c G A nL ce sl Q I pm L pcJ (.int (if x < y then va else vb) :: rest)) : GG p l e R s m args below meth c G A nL ce sl Q I pm L pc (.int y :: .int x :: rest) := g_tern2 (x < y) va vb pcJ hbr kk
theorem g_tif_ge {x : Int32} (va vb : Int32) (pcJ : Nat) (hbr : (0 ≤ x → GG p l e R s m args below meth c G A nL ce sl Q I pm L pcJ (.int va :: rest)) → (¬ 0 ≤ x → GG p l e R s m args below meth c G A nL ce sl Q I pm L pcJ (.int vb :: rest)) → GG p l e R s m args below meth c G A nL ce sl Q I pm L pc (.int x :: rest)) (kk : GG p l e R s m args below meth c G A nL ce sl Q I pm L pcJ (.int (if 0 ≤ x then va else vb) :: rest)) : GG p l e R s m args below meth c G A nL ce sl Q I pm L pc (.int x :: rest) := g_tern1 (0 ≤ x) va vb pcJ hbr kk
theorem g_ticmp_ge {x y : Int32} (va vb : Int32) (pcJ : Nat) (hbr : (y ≤ x → GG p l e R s m args below meth c G A nL ce sl Q I pm L pcJ (.int va :: rest)) → (¬ y ≤ x → GG p l e R s m args below meth c G A nL ce sl Q I pm L pcJ (.int vb :: rest)) → GG p l e R s m args below meth c G A nL ce sl Q I pm L pc (.int y :: .int x :: rest)) (kk : GG p l e R s m args below meth c G A nL ce sl Q I pm L pcJ (.int (if y ≤ x then va else vb) :: rest)) : GG p l e R s m args below meth c G A nL ce sl Q I pm L pc (.int y :: .int x :: rest) := g_tern2 (y ≤ x) va vb pcJ hbr kk
theorem g_tif_gt {x : Int32} (va vb : Int32) (pcJ : Nat) (hbr : (0 < x → GG p l e R s m args below meth c G A nL ce sl Q I pm L pcJ (.int va :: rest)) → (¬ 0 < x → GG p l e R s m args below meth c G A nL ce sl Q I pm L pcJ (.int vb :: rest)) → GG p l e R s m args below meth c G A nL ce sl Q I pm L pc (.int x :: rest)) (kk : GG p l e R s m args below meth c G A nL ce sl Q I pm L pcJ (.int (if 0 < x then va else vb) :: rest)) : GG p l e R s m args below meth c G A nL ce sl Q I pm L pc (.int x :: rest) := g_tern1 (0 < x) va vb pcJ hbr kk
theorem g_ticmp_gt {x y : Int32} (va vb : Int32) (pcJ : Nat) (hbr : (y < x → GG p l e R s m args below meth c G A nL ce sl Q I pm L pcJ (.int va :: rest)) → (¬ y < x → GG p l e R s m args below meth c G A nL ce sl Q I pm L pcJ (.int vb :: rest)) → GG p l e R s m args below meth c G A nL ce sl Q I pm L pc (.int y :: .int x :: rest)) (kk : GG p l e R s m args below meth c G A nL ce sl Q I pm L pcJ (.int (if y < x then va else vb) :: rest)) : GG p l e R s m args below meth c G A nL ce sl Q I pm L pc (.int y :: .int x :: rest) := g_tern2 (y < x) va vb pcJ hbr kk
theorem g_tif_le {x : Int32} (va vb : Int32) (pcJ : Nat) (hbr : (x ≤ 0 → GG p l e R s m args below meth c G A nL ce sl Q I pm L pcJ (.int va :: rest)) → (¬ x ≤ 0 → GG p l e R s m args below meth c G A nL ce sl Q I pm L pcJ (.int vb :: rest)) → GG p l e R s m args below meth c G A nL ce sl Q I pm L pc (.int x :: rest)) (kk : GG p l e R s m args below meth c G A nL ce sl Q I pm L pcJ (.int (if x ≤ 0 then va else vb) :: rest)) : GG p l e R s m args below meth c G A nL ce sl Q I pm L pc (.int x :: rest) := g_tern1 (x ≤ 0) va vb pcJ hbr kk
theorem g_ticmp_le {x y : Int32} (va vb : Int32) (pcJ : Nat) (hbr : (x ≤ y → GG p l e R s m args below meth c G A nL ce sl Q I pm L pcJ (.int va :: rest)) → (¬ x ≤ y → GG p l e R s m args below meth c G A nL ce sl Q I pm L pcJ (.int vb :: rest)) → GG p l e R s m args below meth c G A nL ce sl Q I pm L pc (.int y :: .int x :: rest)) (kk : GG p l e R s m args below meth c G A nL ce sl Q I pm L pcJ (.int (if x ≤ y then va else vb) :: rest)) : GG p l e R s m args below meth c G A nL ce sl Q I pm L pc (.int y :: .int x :: rest) := g_tern2 (x ≤ y) va vb pcJ hbr kk
end X8
section WALK
variable {l : Launch} {G : Gm} {y : MethodName} {b : ByteArray} {n : Nat} {ret : Option FieldType} {rm : Room} {av : List Value} {I : Ii} {pm : Pm}
theorem walk_any {Qc : Array Value → State → Outcome → State → Prop} (hj : Aj G) (hy : plainFor y = true) (hn : (lg_sl av).length ≤ n)
    (body : ∀ (p : Program) (e : Env) (s : State) (m : MethodId) (args : Array Value) (below : List Frame) (meth : Method) (c : Code), FX p s m args c b n y.cls G (AA G) → meth.sig.returnType = ret → meth.locks = false → GG p l e rm s m args below meth c G (AA G) n 0 0 (MQ below Qc args s 0 0 (AA G)) I pm (lv_args 0 av) 0 []) : Met l y (wz y b n ret) rm (va_Pc av (PP G I pm)) Qc 0 0 (AA G) := by
  refine MetFree.of_bodySF (code := b) (maxLocals := n) (ret := ret) hy ?_ ?_
  · intro args s m h hn
    obtain ⟨meth, c, h1, h2, h3, h4, h5, h6, -, -⟩ := Cond.code_spec hn (atoms_spec (ws := wz y b n ret) h _ List.mem_cons_self)
    exact ⟨meth, c, h1, h2, h3, h4, h5, h6⟩
  · intro p e s m args below meth c s₁ B hml hP _
    have hh0 : s₁.heap = s.heap := by rw [B.state]; rfl
    obtain ⟨rfl, hW, hK, hN⟩ := hP
    have hts := atoms_spec (ws := wz y b n ret) B.pre
    have hl := lv_entry av (n := n) hn
    have hg := body p e s m av.toArray below meth c ⟨⟨B.exec, B.bytes, hml, findClass_of_methodNamed B.named, fun w hw => hts w (List.mem_cons_of_mem _ hw)⟩, hK, hN, hj, fun K i h => ⟨K, i, h, rfl⟩⟩ B.returns B.notSynchronized s.heap [] _ hW va_S.rf hl
    rw [← lg_entry_eq] at hg
    obtain ⟨t, a1, o, b1, b2, b3⟩ := hg s₁ hh0 (Stand.of_body B)
    exact ⟨t, o, a1, b1, b2, ⟨b3.1, b3.2⟩⟩
theorem CI.walk {post : Int32 → Ii × Pm → Prop} (hj : Aj G) (hy : plainFor y = true) (hn : (lg_sl av).length ≤ n)
    (body : ∀ (p : Program) (e : Env) (s : State) (m : MethodId) (args : Array Value) (below : List Frame) (meth : Method) (c : Code), FX p s m args c b n y.cls G (AA G) → meth.sig.returnType = ret → meth.locks = false → GG p l e rm s m args below meth c G (AA G) n 0 0 (MQ below (va_Qi post (fun u t => Wd G u.1 u.2 t.heap) (AA G)) args s 0 0 (AA G)) I pm (lv_args 0 av) 0 []) : CI l G y (wz y b n ret) rm av I pm post := walk_any hj hy hn body
theorem CV.walk {post : Ii × Pm → Prop} (hj : Aj G) (hy : plainFor y = true) (hn : (lg_sl av).length ≤ n)
    (body : ∀ (p : Program) (e : Env) (s : State) (m : MethodId) (args : Array Value) (below : List Frame) (meth : Method) (c : Code), FX p s m args c b n y.cls G (AA G) → meth.sig.returnType = ret → meth.locks = false → GG p l e rm s m args below meth c G (AA G) n 0 0 (MQ below (va_Qv post (fun u t => Wd G u.1 u.2 t.heap) (AA G)) args s 0 0 (AA G)) I pm (lv_args 0 av) 0 []) : CV l G y (wz y b n ret) rm av I pm post := walk_any hj hy hn body
theorem CQ.walk {post : Option Nat → Ii × Pm → Prop} (hj : Aj G) (hy : plainFor y = true) (hn : (lg_sl av).length ≤ n)
    (body : ∀ (p : Program) (e : Env) (s : State) (m : MethodId) (args : Array Value) (below : List Frame) (meth : Method) (c : Code), FX p s m args c b n y.cls G (AA G) → meth.sig.returnType = ret → meth.locks = false → GG p l e rm s m args below meth c G (AA G) n 0 0 (MQ below (va_Qq post (fun u t => Wd G u.1 u.2 t.heap) (AA G)) args s 0 0 (AA G)) I pm (lv_args 0 av) 0 []) : CQ l G y (wz y b n ret) rm av I pm post := walk_any hj hy hn body
end WALK
end
section
/-! PART 10: the leaves: within, isBlock, curveSpeed, floorDiv, floorMod, and the methods of a loco -/
def cvS (c st : Int32) : Int32 := if c = 1 then st * st * 10 / 28 else if c = 2 then 20 * st - st * st * 10 / 28 else 10 * st
def goalF (c st w : Int32) : Int32 := if w = 1 then cvS c st else -(cvS c st)
def gainF (m : Int32) : Int32 := if m ≤ 0 then 0 else 60 / m
def mxF (x y : Int32) : Int32 := if x < y then y else x
def mnF (x y : Int32) : Int32 := if y < x then y else x
def abF (x : Int32) : Int32 := if 0 ≤ x then x else 0 - x
def fdF (x y : Int32) : Int32 := if 0 ≤ x ^^^ y then x / y else if x / y * y = x then x / y else x / y - 1
def fmF (x y : Int32) : Int32 := if 0 ≤ x ^^^ y then x % y else if x % y = 0 then x % y else x % y + y
def spdF (m c st w sp : Int32) : Int32 := sp + mxF (-(gainF m)) (mnF (gainF m) (goalF c st w - sp))
def lcGoal (I : Ii) (i : Nat) : Int32 := goalF (I 7 i 2) (I 7 i 7) (I 7 i 8)
def lcAt (I : Ii) (i : Nat) : Int32 := I 7 i 3 * 10 + I 7 i 4 + I 7 i 5
def lcTtg (I : Ii) (i : Nat) : Int32 := if gainF (I 7 i 1) ≤ 0 then 0 else (abF (lcGoal I i - I 7 i 5) + gainF (I 7 i 1) - 1) / gainF (I 7 i 1)
def hearI (d : Int32) (I : Ii) (i : Nat) : Ii :=
  if d % 128 ≤ 28 then up3 (up3 (up3 I 7 i 10 (I 7 i 10 + 1)) 7 i 7 (d % 128)) 7 i 8 (d / 128)
  else if d = 31 then up3 (up3 (up3 I 7 i 10 (I 7 i 10 + 1)) 7 i 7 0) 7 i 5 0
  else if 64 ≤ d ∧ d ≤ 67 then up3 (up3 I 7 i 10 (I 7 i 10 + 1)) 7 i 9 (d - 64)
  else up3 I 7 i 10 (I 7 i 10 + 1)
def rollI (I : Ii) (i : Nat) : Ii := up3 (up3 (up3 I 7 i 6 (I 7 i 6 + fdF (lcAt I i) 8000)) 7 i 3 (fmF (lcAt I i) 8000 / 10)) 7 i 4 (fmF (lcAt I i) 8000 % 10)
def beginI (I : Ii) (i : Nat) (a b c d : Int32) : Ii := up3 (up3 (up3 (up3 (up3 (up3 (up3 (up3 (up3 (up3 (up3 I 7 i 0 a) 7 i 1 b) 7 i 2 c) 7 i 3 d) 7 i 4 0) 7 i 5 0) 7 i 6 0) 7 i 7 0) 7 i 8 1) 7 i 9 0) 7 i 10 0
def toldL (I : Ii) (i : Nat) (w : Int32) : Int32 := if w = 0 then I 7 i 1 else if w = 1 then I 7 i 2 else if w = 2 then I 7 i 3 else if w = 3 then I 7 i 4 else if w = 4 then I 7 i 5 + 1000 else if w = 5 then lcGoal I i + 1000 else if w = 6 then I 7 i 7 else if w = 7 then I 7 i 8 else if w = 8 then I 7 i 9 else if w = 9 then I 7 i 3 / 100 else if w = 10 then I 7 i 10 else if w = 11 then I 7 i 6 + 1000 else -2

set_option maxHeartbeats 4000000 in
set_option maxRecDepth 100000 in
theorem c_X5_within {l : Launch} {G : Gm} (hj : Aj G) {I : Ii} {pm : Pm} {v a b : Int32} : CI l G yX5_within (wz yX5_within cX5_within 3 (some .boolean)) (rmL 0) [.int v, .int a, .int b] I pm (fun r u => r = bz (a ≤ v ∧ v ≤ b) ∧ u = (I, pm)) := by
  refine CI.walk hj (by decide +kernel) (by show _ ≤ 3; exact Nat.le_of_ble_eq_true rfl) ?_
  intro p e s m args below meth c F hr hlk
  refine g_iload_n F 0 dX5_within_0 rfl rfl ?_
  refine g_iload_n F 1 dX5_within_1 rfl rfl ?_
  refine g_icmp_lt F 14 dX5_within_2 (by decide) (fun c_2 => ?_) (fun c_2 => ?_)
  · refine g_iconst (v := 0) F dX5_within_14 (by decide) ?_
    exact g_iret F hr hlk rfl dX5_within_15 (by simp [bz, *, Int32.not_le, Int32.not_lt] <;> (simp only [i_lt, i_le] at *; omega))
  · refine g_iload_n F 0 dX5_within_5 rfl rfl ?_
    refine g_iload_n F 2 dX5_within_6 rfl rfl ?_
    refine g_icmp_gt F 14 dX5_within_7 (by decide) (fun c_7 => ?_) (fun c_7 => ?_)
    · refine g_iconst (v := 0) F dX5_within_14 (by decide) ?_
      exact g_iret F hr hlk rfl dX5_within_15 (by simp [bz, *, Int32.not_le, Int32.not_lt] <;> (simp only [i_lt, i_le] at *; omega))
    · refine g_iconst (v := 1) F dX5_within_10 (by decide) ?_
      refine g_goto F 15 dX5_within_11 (by decide) ?_
      exact g_iret F hr hlk rfl dX5_within_15 (by simp [bz, *, Int32.not_le, Int32.not_lt] <;> (simp only [i_lt, i_le] at *; omega))
set_option maxHeartbeats 4000000 in
set_option maxRecDepth 100000 in
theorem c_X5_isBlock {l : Launch} {G : Gm} (hj : Aj G) {I : Ii} {pm : Pm} {v : Int32} : CI l G yX5_isBlock (wz yX5_isBlock cX5_isBlock 1 (some .boolean)) (rmL 1) [.int v] I pm (fun r u => r = bz (0 ≤ v ∧ v ≤ 7) ∧ u = (I, pm)) := by
  refine CI.walk hj (by decide +kernel) (by show _ ≤ 1; exact Nat.le_of_ble_eq_true rfl) ?_
  intro p e s m args below meth c F hr hlk
  refine g_iload_n F 0 dX5_isBlock_0 rfl rfl ?_
  refine g_iconst (v := 0) F dX5_isBlock_1 (by decide) ?_
  refine g_bipush (v := 7) F dX5_isBlock_2 (by decide) ?_
  refine g_callIs (na := 3) F (c_X5_within hj) lk_X5_155 rfl rfl (by decide +kernel) ⟨rfl, rfl, Nat.le_of_ble_eq_true rfl, Nat.le_of_ble_eq_true rfl, Nat.le_of_ble_eq_true rfl, Nat.le_of_ble_eq_true rfl, Nat.le_of_ble_eq_true rfl⟩ dX5_isBlock_4 (fun r_4 u_4 h_4 => ?_)
  obtain ⟨rfl, rfl⟩ := h_4
  try dsimp only
  refine g_iret F hr hlk nar_b dX5_isBlock_7 ?_
  exact ⟨rfl, rfl⟩
set_option maxHeartbeats 4000000 in
set_option maxRecDepth 100000 in
theorem c_X5_curveSpeed {l : Launch} {G : Gm} (hj : Aj G) {I : Ii} {pm : Pm} {c0 t : Int32} : CI l G yX5_curveSpeed (wz yX5_curveSpeed cX5_curveSpeed 3 (some .int)) (rmL 0) [.int c0, .int t] I pm (fun r u => r = cvS c0 t ∧ u = (I, pm)) := by
  refine CI.walk hj (by decide +kernel) (by show _ ≤ 3; exact Nat.le_of_ble_eq_true rfl) ?_
  intro p e s m args below meth c F hr hlk
  refine g_iload_n F 1 dX5_curveSpeed_0 rfl rfl ?_
  refine g_iload_n F 1 dX5_curveSpeed_1 rfl rfl ?_
  refine g_imul F dX5_curveSpeed_2 ?_
  refine g_bipush (v := 10) F dX5_curveSpeed_3 (by decide) ?_
  refine g_imul F dX5_curveSpeed_5 ?_
  refine g_bipush (v := 28) F dX5_curveSpeed_6 (by decide) ?_
  refine g_idiv F dX5_curveSpeed_8 (by decide) ?_
  refine g_topi (fun x2_9 ex2_9 => ?_)
  refine g_istore_n (L' := [(2, _), (0, _), (1, _)]) F dX5_curveSpeed_9 rfl (by decide) rfl ?_
  refine g_iload_n F 1 dX5_curveSpeed_10 rfl rfl ?_
  by_cases hs_11_1 : c0 = 1
  · refine g_lookup F 36 dX5_curveSpeed_11 (by decide) (by rw [hs_11_1] <;> rfl) (by decide) ?_
    refine g_iload_n F 0 dX5_curveSpeed_36 rfl rfl ?_
    exact g_iret F hr hlk rfl dX5_curveSpeed_37 (by simp [cvS, *])
  by_cases hs_11_2 : c0 = 2
  · refine g_lookup F 38 dX5_curveSpeed_11 (by decide) (by rw [hs_11_2] <;> rfl) (by decide) ?_
    refine g_bipush (v := 20) F dX5_curveSpeed_38 (by decide) ?_
    refine g_iload_n F 2 dX5_curveSpeed_40 rfl rfl ?_
    refine g_imul F dX5_curveSpeed_41 ?_
    refine g_iload_n F 0 dX5_curveSpeed_42 rfl rfl ?_
    refine g_isub F dX5_curveSpeed_43 ?_
    exact g_iret F hr hlk rfl dX5_curveSpeed_44 (by simp [cvS, *])
  refine g_lookup (off := 34) F 45 dX5_curveSpeed_11 (by decide) ((lv_osw hs_11_1 rfl).trans <| (lv_osw hs_11_2 rfl).trans <| rfl) (by decide) ?_
  refine g_bipush (v := 10) F dX5_curveSpeed_45 (by decide) ?_
  refine g_iload_n F 2 dX5_curveSpeed_47 rfl rfl ?_
  refine g_imul F dX5_curveSpeed_48 ?_
  exact g_iret F hr hlk rfl dX5_curveSpeed_49 (by simp [cvS, *])
set_option maxHeartbeats 4000000 in
set_option maxRecDepth 100000 in
theorem c_J9_floorDiv {l : Launch} {G : Gm} (hj : Aj G) {I : Ii} {pm : Pm} {x y : Int32} (h0 : ¬ y = 0) : CI l G yJ9_floorDiv_7cf53 (wz yJ9_floorDiv_7cf53 cJ9_floorDiv_7cf53 3 (some .int)) (rmL 0) [.int x, .int y] I pm (fun r u => r = fdF x y ∧ u = (I, pm)) := by
  refine CI.walk hj (by decide +kernel) (by show _ ≤ 3; exact Nat.le_of_ble_eq_true rfl) ?_
  intro p e s m args below meth c F hr hlk
  refine g_iload_n F 0 dJ9_floorDiv_7cf53_0 rfl rfl ?_
  refine g_iload_n F 1 dJ9_floorDiv_7cf53_1 rfl rfl ?_
  refine g_idiv F dJ9_floorDiv_7cf53_2 h0 ?_
  refine g_topi (fun x2_3 ex2_3 => ?_)
  refine g_istore_n (L' := [(2, _), (0, _), (1, _)]) F dJ9_floorDiv_7cf53_3 rfl (by decide) rfl ?_
  refine g_iload_n F 1 dJ9_floorDiv_7cf53_4 rfl rfl ?_
  refine g_iload_n F 2 dJ9_floorDiv_7cf53_5 rfl rfl ?_
  refine g_ixor F dJ9_floorDiv_7cf53_6 ?_
  refine g_if_ge F 21 dJ9_floorDiv_7cf53_7 (by decide) (fun c_7 => ?_) (fun c_7 => ?_)
  · refine g_iload_n F 0 dJ9_floorDiv_7cf53_21 rfl rfl ?_
    exact g_iret F hr hlk rfl dJ9_floorDiv_7cf53_22 (by first | exact ⟨by rw [fdF, if_pos c_7, ex2_3], rfl⟩ | exact ⟨by rw [fdF, if_neg c_7, if_pos (by rw [← ex2_3]; exact c_14), ex2_3], rfl⟩ | exact ⟨by rw [fdF, if_neg c_7, if_neg (by rw [← ex2_3]; exact c_14), ex2_3], rfl⟩)
  · refine g_iload_n F 0 dJ9_floorDiv_7cf53_10 rfl rfl ?_
    refine g_iload_n F 2 dJ9_floorDiv_7cf53_11 rfl rfl ?_
    refine g_imul F dJ9_floorDiv_7cf53_12 ?_
    refine g_iload_n F 1 dJ9_floorDiv_7cf53_13 rfl rfl ?_
    refine g_icmp_eq F 21 dJ9_floorDiv_7cf53_14 (by decide) (fun c_14 => ?_) (fun c_14 => ?_)
    · refine g_iload_n F 0 dJ9_floorDiv_7cf53_21 rfl rfl ?_
      exact g_iret F hr hlk rfl dJ9_floorDiv_7cf53_22 (by first | exact ⟨by rw [fdF, if_pos c_7, ex2_3], rfl⟩ | exact ⟨by rw [fdF, if_neg c_7, if_pos (by rw [← ex2_3]; exact c_14), ex2_3], rfl⟩ | exact ⟨by rw [fdF, if_neg c_7, if_neg (by rw [← ex2_3]; exact c_14), ex2_3], rfl⟩)
    · refine g_iload_n F 0 dJ9_floorDiv_7cf53_17 rfl rfl ?_
      refine g_iconst (v := 1) F dJ9_floorDiv_7cf53_18 (by decide) ?_
      refine g_isub F dJ9_floorDiv_7cf53_19 ?_
      exact g_iret F hr hlk rfl dJ9_floorDiv_7cf53_20 (by first | exact ⟨by rw [fdF, if_pos c_7, ex2_3], rfl⟩ | exact ⟨by rw [fdF, if_neg c_7, if_pos (by rw [← ex2_3]; exact c_14), ex2_3], rfl⟩ | exact ⟨by rw [fdF, if_neg c_7, if_neg (by rw [← ex2_3]; exact c_14), ex2_3], rfl⟩)
set_option maxHeartbeats 4000000 in
set_option maxRecDepth 100000 in
theorem c_J9_floorMod {l : Launch} {G : Gm} (hj : Aj G) {I : Ii} {pm : Pm} {x y : Int32} (h0 : ¬ y = 0) : CI l G yJ9_floorMod_7cf53 (wz yJ9_floorMod_7cf53 cJ9_floorMod_7cf53 3 (some .int)) (rmL 0) [.int x, .int y] I pm (fun r u => r = fmF x y ∧ u = (I, pm)) := by
  refine CI.walk hj (by decide +kernel) (by show _ ≤ 3; exact Nat.le_of_ble_eq_true rfl) ?_
  intro p e s m args below meth c F hr hlk
  refine g_iload_n F 0 dJ9_floorMod_7cf53_0 rfl rfl ?_
  refine g_iload_n F 1 dJ9_floorMod_7cf53_1 rfl rfl ?_
  refine g_irem F dJ9_floorMod_7cf53_2 h0 ?_
  refine g_topi (fun x2_3 ex2_3 => ?_)
  refine g_istore_n (L' := [(2, _), (0, _), (1, _)]) F dJ9_floorMod_7cf53_3 rfl (by decide) rfl ?_
  refine g_iload_n F 1 dJ9_floorMod_7cf53_4 rfl rfl ?_
  refine g_iload_n F 2 dJ9_floorMod_7cf53_5 rfl rfl ?_
  refine g_ixor F dJ9_floorMod_7cf53_6 ?_
  refine g_if_ge F 18 dJ9_floorMod_7cf53_7 (by decide) (fun c_7 => ?_) (fun c_7 => ?_)
  · refine g_iload_n F 0 dJ9_floorMod_7cf53_18 rfl rfl ?_
    exact g_iret F hr hlk rfl dJ9_floorMod_7cf53_19 (by first | (simp_all [fmF]; done) | (have hz := Int32.not_le.mpr c_6; simp_all [fmF]; done))
  · refine g_iload_n F 0 dJ9_floorMod_7cf53_10 rfl rfl ?_
    refine g_if_eq F 18 dJ9_floorMod_7cf53_11 (by decide) (fun c_11 => ?_) (fun c_11 => ?_)
    · refine g_iload_n F 0 dJ9_floorMod_7cf53_18 rfl rfl ?_
      exact g_iret F hr hlk rfl dJ9_floorMod_7cf53_19 (by first | (simp_all [fmF]; done) | (have hz := Int32.not_le.mpr c_6; simp_all [fmF]; done))
    · refine g_iload_n F 0 dJ9_floorMod_7cf53_14 rfl rfl ?_
      refine g_iload_n F 2 dJ9_floorMod_7cf53_15 rfl rfl ?_
      refine g_iadd F dJ9_floorMod_7cf53_16 ?_
      exact g_iret F hr hlk rfl dJ9_floorMod_7cf53_17 (by first | (simp_all [fmF]; done) | (have hz := Int32.not_le.mpr c_6; simp_all [fmF]; done))
set_option maxHeartbeats 4000000 in
set_option maxRecDepth 100000 in
theorem c_X2_blockNumber {l : Launch} {G : Gm} (hj : Aj G) {I : Ii} {pm : Pm} {i : Nat} (hi : i < 88) : CI l G yX2_blockNumber (wz yX2_blockNumber cX2_blockNumber 1 (some .int)) (rmL 0) [.ref (G.2.2 7 i)] I pm (fun r u => r = I 7 i 3 / 100 ∧ u = (I, pm)) := by
  refine CI.walk hj (by decide +kernel) (by show _ ≤ 1; exact Nat.le_of_ble_eq_true rfl) ?_
  intro p e s m args below meth c F hr hlk
  refine g_aload_n F 0 dX2_blockNumber_0 rfl rfl ?_
  refine gf_7_3 F hi mFL_X2_21 dX2_blockNumber_1 ?_
  refine g_bipush (v := 100) F dX2_blockNumber_4 (by decide) ?_
  refine g_idiv F dX2_blockNumber_6 (by decide) ?_
  refine g_iret F hr hlk rfl dX2_blockNumber_7 ?_
  exact ⟨rfl, rfl⟩
set_option maxHeartbeats 4000000 in
set_option maxRecDepth 100000 in
theorem c_X2_goal {l : Launch} {G : Gm} (hj : Aj G) {I : Ii} {pm : Pm} {i : Nat} (hi : i < 88) : CI l G yX2_goal (wz yX2_goal cX2_goal 2 (some .int)) (rmL 1) [.ref (G.2.2 7 i)] I pm (fun r u => r = lcGoal I i ∧ u = (I, pm)) := by
  refine CI.walk hj (by decide +kernel) (by show _ ≤ 2; exact Nat.le_of_ble_eq_true rfl) ?_
  intro p e s m args below meth c F hr hlk
  refine g_aload_n F 0 dX2_goal_0 rfl rfl ?_
  refine gf_7_2 F hi mFL_X2_18 dX2_goal_1 ?_
  refine g_aload_n F 0 dX2_goal_4 rfl rfl ?_
  refine gf_7_7 F hi mFL_X2_33 dX2_goal_5 ?_
  refine g_callIn (na := 2) F (c_X5_curveSpeed hj) (gw mCO_yX5_curveSpeed) F.2.2.1.2.2.2.1 mST_yX5_curveSpeed mIN_RX5 rfl rfl (by decide +kernel) ⟨rfl, rfl, Nat.le_of_ble_eq_true rfl, Nat.le_of_ble_eq_true rfl, Nat.le_of_ble_eq_true rfl, Nat.le_of_ble_eq_true rfl, Nat.le_of_ble_eq_true rfl⟩ dX2_goal_8 (fun r_8 u_8 h_8 => ?_)
  obtain ⟨rfl, rfl⟩ := h_8
  try dsimp only
  refine g_topi (fun x1_11 ex1_11 => ?_)
  refine g_istore_n (L' := [(1, _), (0, _)]) F dX2_goal_11 rfl (by decide) rfl ?_
  refine g_aload_n F 1 dX2_goal_12 rfl rfl ?_
  refine gf_7_8 F hi mFL_X2_36 dX2_goal_13 ?_
  refine g_iconst (v := 1) F dX2_goal_16 (by decide) ?_
  refine g_icmp_ne F 24 dX2_goal_17 (by decide) (fun c_17 => ?_) (fun c_17 => ?_)
  · refine g_iload_n F 0 dX2_goal_24 rfl rfl ?_
    refine g_ineg F dX2_goal_25 ?_
    exact g_iret F hr hlk rfl dX2_goal_26 (by simp_all [lcGoal, goalF])
  · refine g_iload_n F 0 dX2_goal_20 rfl rfl ?_
    refine g_goto F 26 dX2_goal_21 (by decide) ?_
    exact g_iret F hr hlk rfl dX2_goal_26 (by simp_all [lcGoal, goalF])
set_option maxHeartbeats 4000000 in
set_option maxRecDepth 100000 in
theorem c_X2_mostGain {l : Launch} {G : Gm} (hj : Aj G) {I : Ii} {pm : Pm} {i : Nat} (hi : i < 88) : CI l G yX2_mostGain (wz yX2_mostGain cX2_mostGain 1 (some .int)) (rmL 0) [.ref (G.2.2 7 i)] I pm (fun r u => r = gainF (I 7 i 1) ∧ u = (I, pm)) := by
  refine CI.walk hj (by decide +kernel) (by show _ ≤ 1; exact Nat.le_of_ble_eq_true rfl) ?_
  intro p e s m args below meth c F hr hlk
  refine g_aload_n F 0 dX2_mostGain_0 rfl rfl ?_
  refine gf_7_1 F hi mFL_X2_15 dX2_mostGain_1 ?_
  refine g_if_le F 17 dX2_mostGain_4 (by decide) (fun c_4 => ?_) (fun c_4 => ?_)
  · refine g_iconst (v := 0) F dX2_mostGain_17 (by decide) ?_
    exact g_iret F hr hlk rfl dX2_mostGain_18 (by first | exact ⟨by rw [gainF, if_pos c_4], rfl⟩ | exact ⟨by rw [gainF, if_neg c_4], rfl⟩)
  · refine g_bipush (v := 60) F dX2_mostGain_7 (by decide) ?_
    refine g_aload_n F 0 dX2_mostGain_9 rfl rfl ?_
    refine gf_7_1 F hi mFL_X2_15 dX2_mostGain_10 ?_
    refine g_idiv F dX2_mostGain_13 (fun q => by rw [q] at c_4; exact c_4 (by decide)) ?_
    refine g_goto F 18 dX2_mostGain_14 (by decide) ?_
    exact g_iret F hr hlk rfl dX2_mostGain_18 (by first | exact ⟨by rw [gainF, if_pos c_4], rfl⟩ | exact ⟨by rw [gainF, if_neg c_4], rfl⟩)
set_option maxHeartbeats 4000000 in
set_option maxRecDepth 100000 in
theorem c_X2_ticksToGoal {l : Launch} {G : Gm} (hj : Aj G) {I : Ii} {pm : Pm} {i : Nat} (hi : i < 88) : CI l G yX2_ticksToGoal (wz yX2_ticksToGoal cX2_ticksToGoal 3 (some .int)) (rmL 2) [.ref (G.2.2 7 i)] I pm (fun r u => r = lcTtg I i ∧ u = (I, pm)) := by
  refine CI.walk hj (by decide +kernel) (by show _ ≤ 3; exact Nat.le_of_ble_eq_true rfl) ?_
  intro p e s m args below meth c F hr hlk
  refine g_aload_n F 0 dX2_ticksToGoal_0 rfl rfl ?_
  refine g_callIv (na := 0) F 7 _ (c_X2_mostGain hj hi) hi rfl rfl lk_X2_49 rfl rfl (by decide +kernel) ⟨rfl, rfl, Nat.le_of_ble_eq_true rfl, Nat.le_of_ble_eq_true rfl, Nat.le_of_ble_eq_true rfl, Nat.le_of_ble_eq_true rfl, Nat.le_of_ble_eq_true rfl⟩ dX2_ticksToGoal_1 (fun r_1 u_1 h_1 => ?_)
  obtain ⟨rfl, rfl⟩ := h_1
  try dsimp only
  refine g_topi (fun x1_4 ex1_4 => ?_)
  refine g_istore_n (L' := [(1, _), (0, _)]) F dX2_ticksToGoal_4 rfl (by decide) rfl ?_
  refine g_aload_n F 1 dX2_ticksToGoal_5 rfl rfl ?_
  refine g_callIv (na := 0) F 7 _ (c_X2_goal hj hi) hi rfl rfl lk_X2_53 rfl rfl (by decide +kernel) ⟨rfl, rfl, Nat.le_of_ble_eq_true rfl, Nat.le_of_ble_eq_true rfl, Nat.le_of_ble_eq_true rfl, Nat.le_of_ble_eq_true rfl, Nat.le_of_ble_eq_true rfl⟩ dX2_ticksToGoal_6 (fun r_6 u_6 h_6 => ?_)
  obtain ⟨rfl, rfl⟩ := h_6
  try dsimp only
  refine g_aload_n F 1 dX2_ticksToGoal_9 rfl rfl ?_
  refine gf_7_5 F hi mFL_X2_27 dX2_ticksToGoal_10 ?_
  refine g_isub F dX2_ticksToGoal_13 ?_
  refine g_mabs F mML_X2_56 mST_LMabs mIN_java_lang_Math mCO_LMabs ⟨Nat.le_of_ble_eq_true rfl, Nat.le_of_ble_eq_true rfl, Nat.le_of_ble_eq_true rfl, Nat.le_of_ble_eq_true rfl⟩ dX2_ticksToGoal_14 ?_
  refine g_topi (fun x2_17 ex2_17 => ?_)
  refine g_istore_n (L' := [(2, _), (1, _), (0, _)]) F dX2_ticksToGoal_17 rfl (by decide) rfl ?_
  refine g_iload_n F 1 dX2_ticksToGoal_18 rfl rfl ?_
  refine g_if_le F 32 dX2_ticksToGoal_19 (by decide) (fun c_19 => ?_) (fun c_19 => ?_)
  · refine g_iconst (v := 0) F dX2_ticksToGoal_32 (by decide) ?_
    exact g_iret F hr hlk rfl dX2_ticksToGoal_33 (by first | exact ⟨by rw [lcTtg, if_pos (by rw [← ex1_4]; exact c_19)], rfl⟩ | exact ⟨by rw [lcTtg, if_neg (by rw [← ex1_4]; exact c_19), ex2_17, ex1_4]; rfl, rfl⟩)
  · refine g_iload_n F 0 dX2_ticksToGoal_22 rfl rfl ?_
    refine g_iload_n F 1 dX2_ticksToGoal_23 rfl rfl ?_
    refine g_iadd F dX2_ticksToGoal_24 ?_
    refine g_iconst (v := 1) F dX2_ticksToGoal_25 (by decide) ?_
    refine g_isub F dX2_ticksToGoal_26 ?_
    refine g_iload_n F 1 dX2_ticksToGoal_27 rfl rfl ?_
    refine g_idiv F dX2_ticksToGoal_28 (fun q => by rw [q] at c_19; exact c_19 (by decide)) ?_
    refine g_goto F 33 dX2_ticksToGoal_29 (by decide) ?_
    exact g_iret F hr hlk rfl dX2_ticksToGoal_33 (by first | exact ⟨by rw [lcTtg, if_pos (by rw [← ex1_4]; exact c_19)], rfl⟩ | exact ⟨by rw [lcTtg, if_neg (by rw [← ex1_4]; exact c_19), ex2_17, ex1_4]; rfl, rfl⟩)
set_option maxHeartbeats 4000000 in
set_option maxRecDepth 100000 in
theorem c_X2_changeSpeed {l : Launch} {G : Gm} (hj : Aj G) {I : Ii} {pm : Pm} {i : Nat} (hi : i < 88) : CV l G yX2_changeSpeed (wz yX2_changeSpeed cX2_changeSpeed 2 none) (rmL 2) [.ref (G.2.2 7 i)] I pm (fun u => u = (up3 I 7 i 5 (spdF (I 7 i 1) (I 7 i 2) (I 7 i 7) (I 7 i 8) (I 7 i 5)), pm)) := by
  refine CV.walk hj (by decide +kernel) (by show _ ≤ 2; exact Nat.le_of_ble_eq_true rfl) ?_
  intro p e s m args below meth c F hr hlk
  refine g_aload_n F 0 dX2_changeSpeed_0 rfl rfl ?_
  refine g_callIv (na := 0) F 7 _ (c_X2_mostGain hj hi) hi rfl rfl lk_X2_49 rfl rfl (by decide +kernel) ⟨rfl, rfl, Nat.le_of_ble_eq_true rfl, Nat.le_of_ble_eq_true rfl, Nat.le_of_ble_eq_true rfl, Nat.le_of_ble_eq_true rfl, Nat.le_of_ble_eq_true rfl⟩ dX2_changeSpeed_1 (fun r_1 u_1 h_1 => ?_)
  obtain ⟨rfl, rfl⟩ := h_1
  try dsimp only
  refine g_topi (fun x1_4 ex1_4 => ?_)
  refine g_istore_n (L' := [(1, _), (0, _)]) F dX2_changeSpeed_4 rfl (by decide) rfl ?_
  refine g_aload_n F 1 dX2_changeSpeed_5 rfl rfl ?_
  refine g_dup F dX2_changeSpeed_6 rfl ?_
  refine gf_7_5 F hi mFL_X2_27 dX2_changeSpeed_7 ?_
  refine g_iload_n F 0 dX2_changeSpeed_10 rfl rfl ?_
  refine g_ineg F dX2_changeSpeed_11 ?_
  refine g_iload_n F 0 dX2_changeSpeed_12 rfl rfl ?_
  refine g_aload_n F 1 dX2_changeSpeed_13 rfl rfl ?_
  refine g_callIv (na := 0) F 7 _ (c_X2_goal hj hi) hi rfl rfl lk_X2_53 rfl rfl (by decide +kernel) ⟨rfl, rfl, Nat.le_of_ble_eq_true rfl, Nat.le_of_ble_eq_true rfl, Nat.le_of_ble_eq_true rfl, Nat.le_of_ble_eq_true rfl, Nat.le_of_ble_eq_true rfl⟩ dX2_changeSpeed_14 (fun r_14 u_14 h_14 => ?_)
  obtain ⟨rfl, rfl⟩ := h_14
  try dsimp only
  refine g_aload_n F 1 dX2_changeSpeed_17 rfl rfl ?_
  refine gf_7_5 F hi mFL_X2_27 dX2_changeSpeed_18 ?_
  refine g_isub F dX2_changeSpeed_21 ?_
  refine g_mmin F mML_X2_62 mST_LMmin mIN_java_lang_Math mCO_LMmin ⟨Nat.le_of_ble_eq_true rfl, Nat.le_of_ble_eq_true rfl, Nat.le_of_ble_eq_true rfl, Nat.le_of_ble_eq_true rfl⟩ dX2_changeSpeed_22 ?_
  refine g_mmax F mML_X2_65 mST_LMmax mIN_java_lang_Math mCO_LMmax ⟨Nat.le_of_ble_eq_true rfl, Nat.le_of_ble_eq_true rfl, Nat.le_of_ble_eq_true rfl, Nat.le_of_ble_eq_true rfl⟩ dX2_changeSpeed_25 ?_
  refine g_iadd F dX2_changeSpeed_28 ?_
  refine gp_7_5 F hi mFL_X2_27 dX2_changeSpeed_29 ?_
  exact g_vret F hr hlk dX2_changeSpeed_32 (by rw [ex1_4]; rfl)
set_option maxHeartbeats 4000000 in
set_option maxRecDepth 100000 in
theorem c_X2_roll {l : Launch} {G : Gm} (hj : Aj G) {I : Ii} {pm : Pm} {i : Nat} (hi : i < 88) : CV l G yX2_roll (wz yX2_roll cX2_roll 3 none) (rmL 1) [.ref (G.2.2 7 i)] I pm (fun u => u = (rollI I i, pm)) := by
  refine CV.walk hj (by decide +kernel) (by show _ ≤ 3; exact Nat.le_of_ble_eq_true rfl) ?_
  intro p e s m args below meth c F hr hlk
  refine g_aload_n F 0 dX2_roll_0 rfl rfl ?_
  refine gf_7_3 F hi mFL_X2_21 dX2_roll_1 ?_
  refine g_bipush (v := 10) F dX2_roll_4 (by decide) ?_
  refine g_imul F dX2_roll_6 ?_
  refine g_aload_n F 0 dX2_roll_7 rfl rfl ?_
  refine gf_7_4 F hi mFL_X2_24 dX2_roll_8 ?_
  refine g_iadd F dX2_roll_11 ?_
  refine g_aload_n F 0 dX2_roll_12 rfl rfl ?_
  refine gf_7_5 F hi mFL_X2_27 dX2_roll_13 ?_
  refine g_iadd F dX2_roll_16 ?_
  refine g_topi (fun x1_17 ex1_17 => ?_)
  refine g_istore_n (L' := [(1, _), (0, _)]) F dX2_roll_17 rfl (by decide) rfl ?_
  refine g_aload_n F 1 dX2_roll_18 rfl rfl ?_
  refine g_dup F dX2_roll_19 rfl ?_
  refine gf_7_6 F hi mFL_X2_30 dX2_roll_20 ?_
  refine g_iload_n F 0 dX2_roll_23 rfl rfl ?_
  refine g_sipush (v := 8000) F dX2_roll_24 (by decide) ?_
  refine g_callIs (na := 2) F (c_J9_floorDiv hj (by decide)) lk_X2_68 rfl rfl (by decide +kernel) ⟨rfl, rfl, Nat.le_of_ble_eq_true rfl, Nat.le_of_ble_eq_true rfl, Nat.le_of_ble_eq_true rfl, Nat.le_of_ble_eq_true rfl, Nat.le_of_ble_eq_true rfl⟩ dX2_roll_27 (fun r_27 u_27 h_27 => ?_)
  obtain ⟨rfl, rfl⟩ := h_27
  try dsimp only
  refine g_iadd F dX2_roll_30 ?_
  refine gp_7_6 F hi mFL_X2_30 dX2_roll_31 ?_
  refine g_iload_n F 0 dX2_roll_34 rfl rfl ?_
  refine g_sipush (v := 8000) F dX2_roll_35 (by decide) ?_
  refine g_callIs (na := 2) F (c_J9_floorMod hj (by decide)) lk_X2_71 rfl rfl (by decide +kernel) ⟨rfl, rfl, Nat.le_of_ble_eq_true rfl, Nat.le_of_ble_eq_true rfl, Nat.le_of_ble_eq_true rfl, Nat.le_of_ble_eq_true rfl, Nat.le_of_ble_eq_true rfl⟩ dX2_roll_38 (fun r_38 u_38 h_38 => ?_)
  obtain ⟨rfl, rfl⟩ := h_38
  try dsimp only
  refine g_topi (fun x2_41 ex2_41 => ?_)
  refine g_istore_n (L' := [(2, _), (1, _), (0, _)]) F dX2_roll_41 rfl (by decide) rfl ?_
  refine g_aload_n F 2 dX2_roll_42 rfl rfl ?_
  refine g_iload_n F 0 dX2_roll_43 rfl rfl ?_
  refine g_bipush (v := 10) F dX2_roll_44 (by decide) ?_
  refine g_idiv F dX2_roll_46 (by decide) ?_
  refine gp_7_3 F hi mFL_X2_21 dX2_roll_47 ?_
  refine g_aload_n F 2 dX2_roll_50 rfl rfl ?_
  refine g_iload_n F 0 dX2_roll_51 rfl rfl ?_
  refine g_bipush (v := 10) F dX2_roll_52 (by decide) ?_
  refine g_irem F dX2_roll_54 (by decide) ?_
  refine gp_7_4 F hi mFL_X2_24 dX2_roll_55 ?_
  exact g_vret F hr hlk dX2_roll_58 (by simp_all [rollI, lcAt])
set_option maxHeartbeats 4000000 in
set_option maxRecDepth 100000 in
theorem c_X2_hear {l : Launch} {G : Gm} (hj : Aj G) {I : Ii} {pm : Pm} {i : Nat} (hi : i < 88) {x : Int32} : CV l G yX2_hear (wz yX2_hear cX2_hear 3 none) (rmL 0) [.ref (G.2.2 7 i), .int x] I pm (fun u => u = (hearI x I i, pm)) := by
  refine CV.walk hj (by decide +kernel) (by show _ ≤ 3; exact Nat.le_of_ble_eq_true rfl) ?_
  intro p e s m args below meth c F hr hlk
  refine g_aload_n F 0 dX2_hear_0 rfl rfl ?_
  refine g_dup F dX2_hear_1 rfl ?_
  refine gf_7_10 F hi mFL_X2_42 dX2_hear_2 ?_
  refine g_iconst (v := 1) F dX2_hear_5 (by decide) ?_
  refine g_iadd F dX2_hear_6 ?_
  refine gp_7_10 F hi mFL_X2_42 dX2_hear_7 ?_
  refine g_iload_n F 1 dX2_hear_10 rfl rfl ?_
  refine g_sipush (v := 128) F dX2_hear_11 (by decide) ?_
  refine g_irem F dX2_hear_14 (by decide) ?_
  refine g_topi (fun x2_15 ex2_15 => ?_)
  refine g_istore_n (L' := [(2, _), (0, _), (1, _)]) F dX2_hear_15 rfl (by decide) rfl ?_
  refine g_iload_n F 0 dX2_hear_16 rfl rfl ?_
  refine g_bipush (v := 28) F dX2_hear_17 (by decide) ?_
  refine g_icmp_gt F 39 dX2_hear_19 (by decide) (fun c_19 => ?_) (fun c_19 => ?_)
  · refine g_iload_n F 2 dX2_hear_39 rfl rfl ?_
    refine g_bipush (v := 31) F dX2_hear_40 (by decide) ?_
    refine g_icmp_ne F 58 dX2_hear_42 (by decide) (fun c_42 => ?_) (fun c_42 => ?_)
    · refine g_iload_n F 2 dX2_hear_58 rfl rfl ?_
      refine g_bipush (v := 64) F dX2_hear_59 (by decide) ?_
      refine g_icmp_lt F 78 dX2_hear_61 (by decide) (fun c_61 => ?_) (fun c_61 => ?_)
      · exact g_vret F hr hlk dX2_hear_78 (by
      rw [ex2_15] at c_19
      simp only [hearI, ex2_15]
      first
      | rw [if_pos (Int32.not_lt.mp c_19)]
      | (rw [if_neg (Int32.not_le.mpr c_19)]
         first
         | rw [if_pos c_42]
         | (rw [if_neg c_42]
            first
            | rw [if_neg (fun q => absurd q.1 (Int32.not_le.mpr c_61))]
            | rw [if_neg (fun q => absurd q.2 (Int32.not_le.mpr c_67))]
            | rw [if_pos ⟨Int32.not_lt.mp c_61, Int32.not_lt.mp c_67⟩])))
      · refine g_iload_n F 2 dX2_hear_64 rfl rfl ?_
        refine g_bipush (v := 67) F dX2_hear_65 (by decide) ?_
        refine g_icmp_gt F 78 dX2_hear_67 (by decide) (fun c_67 => ?_) (fun c_67 => ?_)
        · exact g_vret F hr hlk dX2_hear_78 (by
      rw [ex2_15] at c_19
      simp only [hearI, ex2_15]
      first
      | rw [if_pos (Int32.not_lt.mp c_19)]
      | (rw [if_neg (Int32.not_le.mpr c_19)]
         first
         | rw [if_pos c_42]
         | (rw [if_neg c_42]
            first
            | rw [if_neg (fun q => absurd q.1 (Int32.not_le.mpr c_61))]
            | rw [if_neg (fun q => absurd q.2 (Int32.not_le.mpr c_67))]
            | rw [if_pos ⟨Int32.not_lt.mp c_61, Int32.not_lt.mp c_67⟩])))
        · refine g_aload_n F 1 dX2_hear_70 rfl rfl ?_
          refine g_iload_n F 2 dX2_hear_71 rfl rfl ?_
          refine g_bipush (v := 64) F dX2_hear_72 (by decide) ?_
          refine g_isub F dX2_hear_74 ?_
          refine gp_7_9 F hi mFL_X2_39 dX2_hear_75 ?_
          exact g_vret F hr hlk dX2_hear_78 (by
      rw [ex2_15] at c_19
      simp only [hearI, ex2_15]
      first
      | rw [if_pos (Int32.not_lt.mp c_19)]
      | (rw [if_neg (Int32.not_le.mpr c_19)]
         first
         | rw [if_pos c_42]
         | (rw [if_neg c_42]
            first
            | rw [if_neg (fun q => absurd q.1 (Int32.not_le.mpr c_61))]
            | rw [if_neg (fun q => absurd q.2 (Int32.not_le.mpr c_67))]
            | rw [if_pos ⟨Int32.not_lt.mp c_61, Int32.not_lt.mp c_67⟩])))
    · refine g_aload_n F 1 dX2_hear_45 rfl rfl ?_
      refine g_iconst (v := 0) F dX2_hear_46 (by decide) ?_
      refine gp_7_7 F hi mFL_X2_33 dX2_hear_47 ?_
      refine g_aload_n F 1 dX2_hear_50 rfl rfl ?_
      refine g_iconst (v := 0) F dX2_hear_51 (by decide) ?_
      refine gp_7_5 F hi mFL_X2_27 dX2_hear_52 ?_
      refine g_goto F 78 dX2_hear_55 (by decide) ?_
      exact g_vret F hr hlk dX2_hear_78 (by
      rw [ex2_15] at c_19
      simp only [hearI, ex2_15]
      first
      | rw [if_pos (Int32.not_lt.mp c_19)]
      | (rw [if_neg (Int32.not_le.mpr c_19)]
         first
         | rw [if_pos c_42]
         | (rw [if_neg c_42]
            first
            | rw [if_neg (fun q => absurd q.1 (Int32.not_le.mpr c_61))]
            | rw [if_neg (fun q => absurd q.2 (Int32.not_le.mpr c_67))]
            | rw [if_pos ⟨Int32.not_lt.mp c_61, Int32.not_lt.mp c_67⟩])))
  · refine g_aload_n F 1 dX2_hear_22 rfl rfl ?_
    refine g_iload_n F 0 dX2_hear_23 rfl rfl ?_
    refine gp_7_7 F hi mFL_X2_33 dX2_hear_24 ?_
    refine g_aload_n F 1 dX2_hear_27 rfl rfl ?_
    refine g_iload_n F 2 dX2_hear_28 rfl rfl ?_
    refine g_sipush (v := 128) F dX2_hear_29 (by decide) ?_
    refine g_idiv F dX2_hear_32 (by decide) ?_
    refine gp_7_8 F hi mFL_X2_36 dX2_hear_33 ?_
    refine g_goto F 78 dX2_hear_36 (by decide) ?_
    exact g_vret F hr hlk dX2_hear_78 (by
      rw [ex2_15] at c_19
      simp only [hearI, ex2_15]
      first
      | rw [if_pos (Int32.not_lt.mp c_19)]
      | (rw [if_neg (Int32.not_le.mpr c_19)]
         first
         | rw [if_pos c_42]
         | (rw [if_neg c_42]
            first
            | rw [if_neg (fun q => absurd q.1 (Int32.not_le.mpr c_61))]
            | rw [if_neg (fun q => absurd q.2 (Int32.not_le.mpr c_67))]
            | rw [if_pos ⟨Int32.not_lt.mp c_61, Int32.not_lt.mp c_67⟩])))
set_option maxHeartbeats 4000000 in
set_option maxRecDepth 100000 in
theorem c_X2_told {l : Launch} {G : Gm} (hj : Aj G) {I : Ii} {pm : Pm} {i : Nat} (hi : i < 88) {x : Int32} : CI l G yX2_told (wz yX2_told cX2_told 2 (some .int)) (rmL 2) [.ref (G.2.2 7 i), .int x] I pm (fun r u => r = toldL I i x ∧ u = (I, pm)) := by
  refine CI.walk hj (by decide +kernel) (by show _ ≤ 2; exact Nat.le_of_ble_eq_true rfl) ?_
  intro p e s m args below meth c F hr hlk
  refine g_iload_n F 1 dX2_told_0 rfl rfl ?_
  by_cases hs_1 : 0 ≤ x.toInt ∧ x.toInt ≤ 11
  · obtain ⟨js_1, hj_1, ej_1⟩ := sw_in hs_1.1 hs_1.2 (by decide)
    rcases (show js_1 = 0 ∨ js_1 = 1 ∨ js_1 = 2 ∨ js_1 = 3 ∨ js_1 = 4 ∨ js_1 = 5 ∨ js_1 = 6 ∨ js_1 = 7 ∨ js_1 = 8 ∨ js_1 = 9 ∨ js_1 = 10 ∨ js_1 = 11 by omega) with hq | hq | hq | hq | hq | hq | hq | hq | hq | hq | hq | hq
    · have hs_1_0 : x = 0 := by rw [ej_1, hq] <;> rfl
      refine g_tableIn (off := 63) F 64 dX2_told_1 (by rw [hs_1_0]; decide) (by rw [hs_1_0]; decide) (by rw [hs_1_0]; rfl) (by decide) ?_
      refine g_aload_n F 0 dX2_told_64 rfl rfl ?_
      refine gf_7_1 F hi mFL_X2_15 dX2_told_65 ?_
      exact g_iret F hr hlk rfl dX2_told_68 (by rw [hs_1_0]; exact ⟨rfl, rfl⟩)
    · have hs_1_1 : x = 1 := by rw [ej_1, hq] <;> rfl
      refine g_tableIn (off := 68) F 69 dX2_told_1 (by rw [hs_1_1]; decide) (by rw [hs_1_1]; decide) (by rw [hs_1_1]; rfl) (by decide) ?_
      refine g_aload_n F 0 dX2_told_69 rfl rfl ?_
      refine gf_7_2 F hi mFL_X2_18 dX2_told_70 ?_
      exact g_iret F hr hlk rfl dX2_told_73 (by rw [hs_1_1]; exact ⟨rfl, rfl⟩)
    · have hs_1_2 : x = 2 := by rw [ej_1, hq] <;> rfl
      refine g_tableIn (off := 73) F 74 dX2_told_1 (by rw [hs_1_2]; decide) (by rw [hs_1_2]; decide) (by rw [hs_1_2]; rfl) (by decide) ?_
      refine g_aload_n F 0 dX2_told_74 rfl rfl ?_
      refine gf_7_3 F hi mFL_X2_21 dX2_told_75 ?_
      exact g_iret F hr hlk rfl dX2_told_78 (by rw [hs_1_2]; exact ⟨rfl, rfl⟩)
    · have hs_1_3 : x = 3 := by rw [ej_1, hq] <;> rfl
      refine g_tableIn (off := 78) F 79 dX2_told_1 (by rw [hs_1_3]; decide) (by rw [hs_1_3]; decide) (by rw [hs_1_3]; rfl) (by decide) ?_
      refine g_aload_n F 0 dX2_told_79 rfl rfl ?_
      refine gf_7_4 F hi mFL_X2_24 dX2_told_80 ?_
      exact g_iret F hr hlk rfl dX2_told_83 (by rw [hs_1_3]; exact ⟨rfl, rfl⟩)
    · have hs_1_4 : x = 4 := by rw [ej_1, hq] <;> rfl
      refine g_tableIn (off := 83) F 84 dX2_told_1 (by rw [hs_1_4]; decide) (by rw [hs_1_4]; decide) (by rw [hs_1_4]; rfl) (by decide) ?_
      refine g_aload_n F 0 dX2_told_84 rfl rfl ?_
      refine gf_7_5 F hi mFL_X2_27 dX2_told_85 ?_
      refine g_sipush (v := 1000) F dX2_told_88 (by decide) ?_
      refine g_iadd F dX2_told_91 ?_
      exact g_iret F hr hlk rfl dX2_told_92 (by rw [hs_1_4]; exact ⟨rfl, rfl⟩)
    · have hs_1_5 : x = 5 := by rw [ej_1, hq] <;> rfl
      refine g_tableIn (off := 92) F 93 dX2_told_1 (by rw [hs_1_5]; decide) (by rw [hs_1_5]; decide) (by rw [hs_1_5]; rfl) (by decide) ?_
      refine g_aload_n F 0 dX2_told_93 rfl rfl ?_
      refine g_callIv (na := 0) F 7 _ (c_X2_goal hj hi) hi rfl rfl lk_X2_53 rfl rfl (by decide +kernel) ⟨rfl, rfl, Nat.le_of_ble_eq_true rfl, Nat.le_of_ble_eq_true rfl, Nat.le_of_ble_eq_true rfl, Nat.le_of_ble_eq_true rfl, Nat.le_of_ble_eq_true rfl⟩ dX2_told_94 (fun r_94 u_94 h_94 => ?_)
      obtain ⟨rfl, rfl⟩ := h_94
      try dsimp only
      refine g_sipush (v := 1000) F dX2_told_97 (by decide) ?_
      refine g_iadd F dX2_told_100 ?_
      exact g_iret F hr hlk rfl dX2_told_101 (by rw [hs_1_5]; exact ⟨rfl, rfl⟩)
    · have hs_1_6 : x = 6 := by rw [ej_1, hq] <;> rfl
      refine g_tableIn (off := 101) F 102 dX2_told_1 (by rw [hs_1_6]; decide) (by rw [hs_1_6]; decide) (by rw [hs_1_6]; rfl) (by decide) ?_
      refine g_aload_n F 0 dX2_told_102 rfl rfl ?_
      refine gf_7_7 F hi mFL_X2_33 dX2_told_103 ?_
      exact g_iret F hr hlk rfl dX2_told_106 (by rw [hs_1_6]; exact ⟨rfl, rfl⟩)
    · have hs_1_7 : x = 7 := by rw [ej_1, hq] <;> rfl
      refine g_tableIn (off := 106) F 107 dX2_told_1 (by rw [hs_1_7]; decide) (by rw [hs_1_7]; decide) (by rw [hs_1_7]; rfl) (by decide) ?_
      refine g_aload_n F 0 dX2_told_107 rfl rfl ?_
      refine gf_7_8 F hi mFL_X2_36 dX2_told_108 ?_
      exact g_iret F hr hlk rfl dX2_told_111 (by rw [hs_1_7]; exact ⟨rfl, rfl⟩)
    · have hs_1_8 : x = 8 := by rw [ej_1, hq] <;> rfl
      refine g_tableIn (off := 111) F 112 dX2_told_1 (by rw [hs_1_8]; decide) (by rw [hs_1_8]; decide) (by rw [hs_1_8]; rfl) (by decide) ?_
      refine g_aload_n F 0 dX2_told_112 rfl rfl ?_
      refine gf_7_9 F hi mFL_X2_39 dX2_told_113 ?_
      exact g_iret F hr hlk rfl dX2_told_116 (by rw [hs_1_8]; exact ⟨rfl, rfl⟩)
    · have hs_1_9 : x = 9 := by rw [ej_1, hq] <;> rfl
      refine g_tableIn (off := 116) F 117 dX2_told_1 (by rw [hs_1_9]; decide) (by rw [hs_1_9]; decide) (by rw [hs_1_9]; rfl) (by decide) ?_
      refine g_aload_n F 0 dX2_told_117 rfl rfl ?_
      refine g_callIv (na := 0) F 7 _ (c_X2_blockNumber hj hi) hi rfl rfl lk_X2_74 rfl rfl (by decide +kernel) ⟨rfl, rfl, Nat.le_of_ble_eq_true rfl, Nat.le_of_ble_eq_true rfl, Nat.le_of_ble_eq_true rfl, Nat.le_of_ble_eq_true rfl, Nat.le_of_ble_eq_true rfl⟩ dX2_told_118 (fun r_118 u_118 h_118 => ?_)
      obtain ⟨rfl, rfl⟩ := h_118
      try dsimp only
      exact g_iret F hr hlk rfl dX2_told_121 (by rw [hs_1_9]; exact ⟨rfl, rfl⟩)
    · have hs_1_10 : x = 10 := by rw [ej_1, hq] <;> rfl
      refine g_tableIn (off := 121) F 122 dX2_told_1 (by rw [hs_1_10]; decide) (by rw [hs_1_10]; decide) (by rw [hs_1_10]; rfl) (by decide) ?_
      refine g_aload_n F 0 dX2_told_122 rfl rfl ?_
      refine gf_7_10 F hi mFL_X2_42 dX2_told_123 ?_
      exact g_iret F hr hlk rfl dX2_told_126 (by rw [hs_1_10]; exact ⟨rfl, rfl⟩)
    · have hs_1_11 : x = 11 := by rw [ej_1, hq] <;> rfl
      refine g_tableIn (off := 126) F 127 dX2_told_1 (by rw [hs_1_11]; decide) (by rw [hs_1_11]; decide) (by rw [hs_1_11]; rfl) (by decide) ?_
      refine g_aload_n F 0 dX2_told_127 rfl rfl ?_
      refine gf_7_6 F hi mFL_X2_30 dX2_told_128 ?_
      refine g_sipush (v := 1000) F dX2_told_131 (by decide) ?_
      refine g_iadd F dX2_told_134 ?_
      exact g_iret F hr hlk rfl dX2_told_135 (by rw [hs_1_11]; exact ⟨rfl, rfl⟩)
  · refine g_tableOut F 136 dX2_told_1 (by omega) (by decide) ?_
    refine g_bipush (v := -2) F dX2_told_136 (by decide) ?_
    exact g_iret F hr hlk rfl dX2_told_138 (by refine ⟨?_, rfl⟩; have hk : ∀ k : Int32, 0 ≤ k.toInt → k.toInt ≤ 11 → ¬ x = k := fun k h1 h2 h => hs_1 (by rw [h]; exact ⟨h1, h2⟩); simp only [toldL]; rw [if_neg (hk 0 (by decide) (by decide)), if_neg (hk 1 (by decide) (by decide)), if_neg (hk 2 (by decide) (by decide)), if_neg (hk 3 (by decide) (by decide)), if_neg (hk 4 (by decide) (by decide)), if_neg (hk 5 (by decide) (by decide)), if_neg (hk 6 (by decide) (by decide)), if_neg (hk 7 (by decide) (by decide)), if_neg (hk 8 (by decide) (by decide)), if_neg (hk 9 (by decide) (by decide)), if_neg (hk 10 (by decide) (by decide)), if_neg (hk 11 (by decide) (by decide))])
set_option maxHeartbeats 4000000 in
set_option maxRecDepth 100000 in
theorem c_X2_begin {l : Launch} {G : Gm} (hj : Aj G) {I : Ii} {pm : Pm} {i : Nat} (hi : i < 88) {a b c0 d : Int32} : CV l G yX2_begin (wz yX2_begin cX2_begin 5 none) (rmL 0) [.ref (G.2.2 7 i), .int a, .int b, .int c0, .int d] I pm (fun u => u = (beginI I i a b c0 d, pm)) := by
  refine CV.walk hj (by decide +kernel) (by show _ ≤ 5; exact Nat.le_of_ble_eq_true rfl) ?_
  intro p e s m args below meth c F hr hlk
  refine g_aload_n F 0 dX2_begin_0 rfl rfl ?_
  refine g_iload_n F 1 dX2_begin_1 rfl rfl ?_
  refine gp_7_0 F hi mFL_X2_9 dX2_begin_2 ?_
  refine g_aload_n F 0 dX2_begin_5 rfl rfl ?_
  refine g_iload_n F 2 dX2_begin_6 rfl rfl ?_
  refine gp_7_1 F hi mFL_X2_15 dX2_begin_7 ?_
  refine g_aload_n F 0 dX2_begin_10 rfl rfl ?_
  refine g_iload_n F 3 dX2_begin_11 rfl rfl ?_
  refine gp_7_2 F hi mFL_X2_18 dX2_begin_12 ?_
  refine g_aload_n F 0 dX2_begin_15 rfl rfl ?_
  refine g_iload F 4 dX2_begin_16 rfl ?_
  refine gp_7_3 F hi mFL_X2_21 dX2_begin_18 ?_
  refine g_aload_n F 0 dX2_begin_21 rfl rfl ?_
  refine g_iconst (v := 0) F dX2_begin_22 (by decide) ?_
  refine gp_7_4 F hi mFL_X2_24 dX2_begin_23 ?_
  refine g_aload_n F 0 dX2_begin_26 rfl rfl ?_
  refine g_iconst (v := 0) F dX2_begin_27 (by decide) ?_
  refine gp_7_5 F hi mFL_X2_27 dX2_begin_28 ?_
  refine g_aload_n F 0 dX2_begin_31 rfl rfl ?_
  refine g_iconst (v := 0) F dX2_begin_32 (by decide) ?_
  refine gp_7_6 F hi mFL_X2_30 dX2_begin_33 ?_
  refine g_aload_n F 0 dX2_begin_36 rfl rfl ?_
  refine g_iconst (v := 0) F dX2_begin_37 (by decide) ?_
  refine gp_7_7 F hi mFL_X2_33 dX2_begin_38 ?_
  refine g_aload_n F 0 dX2_begin_41 rfl rfl ?_
  refine g_iconst (v := 1) F dX2_begin_42 (by decide) ?_
  refine gp_7_8 F hi mFL_X2_36 dX2_begin_43 ?_
  refine g_aload_n F 0 dX2_begin_46 rfl rfl ?_
  refine g_iconst (v := 0) F dX2_begin_47 (by decide) ?_
  refine gp_7_9 F hi mFL_X2_39 dX2_begin_48 ?_
  refine g_aload_n F 0 dX2_begin_51 rfl rfl ?_
  refine g_iconst (v := 0) F dX2_begin_52 (by decide) ?_
  refine gp_7_10 F hi mFL_X2_42 dX2_begin_53 ?_
  refine g_vret F hr hlk dX2_begin_56 ?_
  exact rfl
set_option maxHeartbeats 4000000 in
set_option maxRecDepth 100000 in
theorem c_X2_copyFrom {l : Launch} {G : Gm} (hj : Aj G) {I : Ii} {pm : Pm} {i : Nat} (hi : i < 88) {i2 : Nat} (hi2 : i2 < 88) (hne : i2 ≠ i) : CV l G yX2_copyFrom (wz yX2_copyFrom cX2_copyFrom 2 none) (rmL 0) [.ref (G.2.2 7 i), .ref (G.2.2 7 i2)] I pm (fun u => u.2 = pm ∧ (∀ k, k < 11 → u.1 7 i k = I 7 i2 k) ∧ ∀ K n k, ¬ (K = 7 ∧ n = i) → u.1 K n k = I K n k) := by
  refine CV.walk hj (by decide +kernel) (by show _ ≤ 2; exact Nat.le_of_ble_eq_true rfl) ?_
  intro p e s m args below meth c F hr hlk
  refine g_aload_n F 0 dX2_copyFrom_0 rfl rfl ?_
  refine g_aload_n F 1 dX2_copyFrom_1 rfl rfl ?_
  refine gf_7_0 F hi2 mFL_X2_9 dX2_copyFrom_2 ?_
  refine g_eqi (y := I 7 i2 0) (by simp [up3, hne]) ?_
  refine gp_7_0 F hi mFL_X2_9 dX2_copyFrom_5 ?_
  refine g_aload_n F 0 dX2_copyFrom_8 rfl rfl ?_
  refine g_aload_n F 1 dX2_copyFrom_9 rfl rfl ?_
  refine gf_7_1 F hi2 mFL_X2_15 dX2_copyFrom_10 ?_
  refine g_eqi (y := I 7 i2 1) (by simp [up3, hne]) ?_
  refine gp_7_1 F hi mFL_X2_15 dX2_copyFrom_13 ?_
  refine g_aload_n F 0 dX2_copyFrom_16 rfl rfl ?_
  refine g_aload_n F 1 dX2_copyFrom_17 rfl rfl ?_
  refine gf_7_2 F hi2 mFL_X2_18 dX2_copyFrom_18 ?_
  refine g_eqi (y := I 7 i2 2) (by simp [up3, hne]) ?_
  refine gp_7_2 F hi mFL_X2_18 dX2_copyFrom_21 ?_
  refine g_aload_n F 0 dX2_copyFrom_24 rfl rfl ?_
  refine g_aload_n F 1 dX2_copyFrom_25 rfl rfl ?_
  refine gf_7_3 F hi2 mFL_X2_21 dX2_copyFrom_26 ?_
  refine g_eqi (y := I 7 i2 3) (by simp [up3, hne]) ?_
  refine gp_7_3 F hi mFL_X2_21 dX2_copyFrom_29 ?_
  refine g_aload_n F 0 dX2_copyFrom_32 rfl rfl ?_
  refine g_aload_n F 1 dX2_copyFrom_33 rfl rfl ?_
  refine gf_7_4 F hi2 mFL_X2_24 dX2_copyFrom_34 ?_
  refine g_eqi (y := I 7 i2 4) (by simp [up3, hne]) ?_
  refine gp_7_4 F hi mFL_X2_24 dX2_copyFrom_37 ?_
  refine g_aload_n F 0 dX2_copyFrom_40 rfl rfl ?_
  refine g_aload_n F 1 dX2_copyFrom_41 rfl rfl ?_
  refine gf_7_5 F hi2 mFL_X2_27 dX2_copyFrom_42 ?_
  refine g_eqi (y := I 7 i2 5) (by simp [up3, hne]) ?_
  refine gp_7_5 F hi mFL_X2_27 dX2_copyFrom_45 ?_
  refine g_aload_n F 0 dX2_copyFrom_48 rfl rfl ?_
  refine g_aload_n F 1 dX2_copyFrom_49 rfl rfl ?_
  refine gf_7_6 F hi2 mFL_X2_30 dX2_copyFrom_50 ?_
  refine g_eqi (y := I 7 i2 6) (by simp [up3, hne]) ?_
  refine gp_7_6 F hi mFL_X2_30 dX2_copyFrom_53 ?_
  refine g_aload_n F 0 dX2_copyFrom_56 rfl rfl ?_
  refine g_aload_n F 1 dX2_copyFrom_57 rfl rfl ?_
  refine gf_7_7 F hi2 mFL_X2_33 dX2_copyFrom_58 ?_
  refine g_eqi (y := I 7 i2 7) (by simp [up3, hne]) ?_
  refine gp_7_7 F hi mFL_X2_33 dX2_copyFrom_61 ?_
  refine g_aload_n F 0 dX2_copyFrom_64 rfl rfl ?_
  refine g_aload_n F 1 dX2_copyFrom_65 rfl rfl ?_
  refine gf_7_8 F hi2 mFL_X2_36 dX2_copyFrom_66 ?_
  refine g_eqi (y := I 7 i2 8) (by simp [up3, hne]) ?_
  refine gp_7_8 F hi mFL_X2_36 dX2_copyFrom_69 ?_
  refine g_aload_n F 0 dX2_copyFrom_72 rfl rfl ?_
  refine g_aload_n F 1 dX2_copyFrom_73 rfl rfl ?_
  refine gf_7_9 F hi2 mFL_X2_39 dX2_copyFrom_74 ?_
  refine g_eqi (y := I 7 i2 9) (by simp [up3, hne]) ?_
  refine gp_7_9 F hi mFL_X2_39 dX2_copyFrom_77 ?_
  refine g_aload_n F 0 dX2_copyFrom_80 rfl rfl ?_
  refine g_aload_n F 1 dX2_copyFrom_81 rfl rfl ?_
  refine gf_7_10 F hi2 mFL_X2_42 dX2_copyFrom_82 ?_
  refine g_eqi (y := I 7 i2 10) (by simp [up3, hne]) ?_
  refine gp_7_10 F hi mFL_X2_42 dX2_copyFrom_85 ?_
  refine g_vret F hr hlk dX2_copyFrom_88 ?_
  refine ⟨rfl, fun k hk => ?_, fun K n k h => ?_⟩
  · rcases (show k = 0 ∨ k = 1 ∨ k = 2 ∨ k = 3 ∨ k = 4 ∨ k = 5 ∨ k = 6 ∨ k = 7 ∨ k = 8 ∨ k = 9 ∨ k = 10 by omega) with rfl | rfl | rfl | rfl | rfl | rfl | rfl | rfl | rfl | rfl | rfl <;> simp [up3]
  · dsimp only
    repeat rw [up3_n (fun q => h ⟨q.1, q.2.1⟩)]
end
section
/-! PART 11: the mathematical value: a layout's state is the reference's row s of 164 ints -/
abbrev Sg : Type := Nat → Int32
theorem upd_s {σ : Sg} {i : Nat} {v : Int32} : upd σ i v i = v := by simp [upd]
theorem upd_n {σ : Sg} {i j : Nat} {v : Int32} (h : j ≠ i) : upd σ i v j = σ j := by simp [upd, h]
theorem nat_of {x : Int32} (h : 0 ≤ x.toInt) : x = nI x.toInt.toNat := by
  have h3 : x.toInt < 2 ^ 31 := x.toInt_lt
  apply Int32.toInt_inj.mp
  rw [nI_toInt (by omega)]
  omega
def blkS (σ : Sg) (r : Nat) : Nat := (σ (16 + 11 * r + 3)).toInt.toNat / 100
def shS (σ : Sg) (r : Nat) : Prop := 0 < σ (8 + blkS σ r)
def byC (c st : Int32) : Int32 := if c = 0 then 10 * st else if c = 1 then st * st * 10 / 28 else 20 * st - st * st * 10 / 28
def dueC (c st w : Int32) : Int32 := if w = 1 then byC c st else -(byC c st)
def dueS (σ : Sg) (r : Nat) : Int32 := dueC (σ (16 + 11 * r + 2)) (σ (16 + 11 * r + 6)) (σ (16 + 11 * r + 7))
def spdM (m c st w sp : Int32) : Int32 := if 60 / m < dueC c st w - sp then sp + 60 / m else if dueC c st w - sp < -(60 / m) then sp - 60 / m else sp + (dueC c st w - sp)
/-- a loco hears -/
def hearS (r : Nat) (d : Int32) (σ : Sg) : Sg :=
  if d = 31 then upd (upd (upd σ (16 + 11 * r + 9) (σ (16 + 11 * r + 9) + 1)) (16 + 11 * r + 6) 0) (16 + 11 * r + 5) 0
  else if 64 ≤ d ∧ d ≤ 67 then upd (upd σ (16 + 11 * r + 9) (σ (16 + 11 * r + 9) + 1)) (16 + 11 * r + 8) (d - 64)
  else if 0 ≤ d % 128 ∧ d % 128 ≤ 28 then upd (upd (upd σ (16 + 11 * r + 9) (σ (16 + 11 * r + 9) + 1)) (16 + 11 * r + 6) (d % 128)) (16 + 11 * r + 7) (d / 128)
  else upd σ (16 + 11 * r + 9) (σ (16 + 11 * r + 9) + 1)
abbrev hrdS (a : Int32) (σ : Sg) (r : Nat) : Prop := (a = 0 ∨ σ (16 + 11 * r) = a) ∧ ¬ 0 < σ (8 + blkS σ r)
def cmStep (a d : Int32) (r : Nat) (q : Sg × Int32) : Sg × Int32 := if hrdS a q.1 r then (hearS r d q.1, q.2 + 1) else q
def cmL (a d : Int32) : Nat → Sg × Int32 → Sg × Int32
  | 0, q => q
  | r + 1, q => cmStep a d r (cmL a d r q)
/-- a frame comes: how many hear it -/
def comS (n : Nat) (a d c : Int32) (σ : Sg) : Sg × Int32 :=
  if c = a ^^^ d then cmL a d n (upd σ 3 (σ 3 + 1), 0) else (upd (upd σ 3 (σ 3 + 1)) 4 (σ 4 + 1), 0)
/-- the first order goes -/
def dropS (h : Nat) (σ : Sg) : Sg := fun i => if i = 7 then nI (h - 1) else if 104 ≤ i ∧ i < 104 + 3 * (h - 1) then σ (i + 3) else if 104 + 3 * (h - 1) ≤ i ∧ i < 104 + 3 * h then 0 else σ i
/-- where an order comes to stand -/
def iposS (σ : Sg) (u : Int32) : Nat → Nat
  | 0 => 0
  | j + 1 => if σ (104 + 3 * j + 2) < u then iposS σ u j else j + 1
def ordS (h : Nat) (a d u : Int32) (σ : Sg) : Sg := fun i => if i = 7 then nI (h + 1) else if 104 ≤ i ∧ i < 107 + 3 * h then (if (i - 104) / 3 < iposS σ u h then σ i else if (i - 104) / 3 = iposS σ u h then (if (i - 104) % 3 = 0 then a else if (i - 104) % 3 = 1 then d else u) else σ (i - 3)) else σ i
/-- a frame is sent -/
def spoilS (σ : Sg) (h : Nat) : Sg := if 0 < σ 1 ∧ σ 1 ≤ σ 2 then upd (upd (dropS h σ) 2 0) 5 (σ 5 + 1) else dropS h σ
def chkS (σ : Sg) : Int32 := if 0 < σ 1 ∧ σ 1 ≤ σ 2 then ((σ 104 ^^^ σ 105) + 1) % 256 else σ 104 ^^^ σ 105
def sendS (n h : Nat) (σ : Sg) : Sg × Int32 := if h = 0 then (σ, 0) else ((comS n (σ 104) (σ 105) (chkS σ) (spoilS σ h)).1, 1)
def spdS (σ : Sg) (r : Nat) : Int32 := if 0 < σ (8 + blkS σ r) then 0 else spdM (σ (16 + 11 * r + 1)) (σ (16 + 11 * r + 2)) (σ (16 + 11 * r + 6)) (σ (16 + 11 * r + 7)) (σ (16 + 11 * r + 5))
def tenS (σ : Sg) (r : Nat) : Int32 := 10 * σ (16 + 11 * r + 3) + σ (16 + 11 * r + 4) + spdS σ r
def rndC (x : Int32) : Int32 := if x < 0 then -1 else if 8000 ≤ x then 1 else 0
/-- every loco's speed, then every loco's place -/
def drvS (n : Nat) (σ : Sg) : Sg := fun i => if 16 ≤ i ∧ i < 16 + 11 * n then (if (i - 16) % 11 = 3 then (tenS σ ((i - 16) / 11) + 8000) % 8000 / 10 else if (i - 16) % 11 = 4 then (tenS σ ((i - 16) / 11) + 8000) % 8000 % 10 else if (i - 16) % 11 = 5 then spdS σ ((i - 16) / 11) else if (i - 16) % 11 = 10 then σ i + rndC (tenS σ ((i - 16) / 11)) else σ i) else σ i
def shoS (σ : Sg) : Sg := fun i => if 8 ≤ i ∧ i < 16 then σ i - (if 0 < σ i then 1 else 0) else σ i
def bothS (s : Sg) : Sg := upd (upd s 0 (s 0 + 1)) 2 (s 2 + 1)
def tickS (n h : Nat) (σ : Sg) : Sg := bothS (shoS (drvS n (sendS n h σ).1))
/-- ticks go by: the state, how many frames were sent -/
def itS (n h : Nat) (σ : Sg) : Nat → Sg × Int32
  | 0 => (σ, 0)
  | m + 1 => (tickS n (h - m) (itS n h σ m).1, (itS n h σ m).2 + (sendS n (h - m) (itS n h σ m).1).2)
def LcOk (σ : Sg) (r : Nat) : Prop := (1 ≤ (σ (16 + 11 * r + 1)).toInt ∧ (σ (16 + 11 * r + 1)).toInt ≤ 20) ∧ (0 ≤ (σ (16 + 11 * r + 2)).toInt ∧ (σ (16 + 11 * r + 2)).toInt ≤ 2) ∧ (0 ≤ (σ (16 + 11 * r + 3)).toInt ∧ (σ (16 + 11 * r + 3)).toInt < 800) ∧ (0 ≤ (σ (16 + 11 * r + 4)).toInt ∧ (σ (16 + 11 * r + 4)).toInt ≤ 9) ∧ (-280 ≤ (σ (16 + 11 * r + 5)).toInt ∧ (σ (16 + 11 * r + 5)).toInt ≤ 280) ∧ (0 ≤ (σ (16 + 11 * r + 6)).toInt ∧ (σ (16 + 11 * r + 6)).toInt ≤ 28) ∧ (0 ≤ (σ (16 + 11 * r + 7)).toInt ∧ (σ (16 + 11 * r + 7)).toInt ≤ 1)
def Iv (n h : Nat) (σ : Sg) : Prop := σ 6 = nI n ∧ n ≤ 8 ∧ σ 7 = nI h ∧ h ≤ 20 ∧ (∀ r, r < n → LcOk σ r) ∧ (∀ b, b < 8 → 0 ≤ (σ (8 + b)).toInt ∧ (σ (8 + b)).toInt ≤ 99) ∧ (0 ≤ (σ 1).toInt ∧ (σ 1).toInt ≤ 9) ∧ ∀ j, j < h → (0 ≤ (σ (104 + 3 * j)).toInt ∧ (σ (104 + 3 * j)).toInt ≤ 99) ∧ 0 ≤ (σ (105 + 3 * j)).toInt ∧ (σ (105 + 3 * j)).toInt ≤ 255
/-- the class's slots of a loco, by the reference's numbers -/
def fmS : Nat → Nat
  | 6 => 7
  | 7 => 8
  | 8 => 9
  | 9 => 10
  | 10 => 6
  | f => f
def Rp (n h : Nat) (I : Ii) (pm : Pm) (k : Nat) (σ : Sg) : Prop :=
  (I 0 k 3 = σ 6 ∧ I 0 k 4 = σ 0 ∧ I 0 k 5 = σ 1 ∧ I 0 k 4 - I 0 k 6 = σ 2 ∧ I 0 k 7 = σ 3 ∧ I 0 k 8 = σ 4 ∧ I 0 k 9 = σ 5 ∧ I 2 k 3 = σ 7) ∧ (∀ b, b < 8 → I 6 k b = σ (8 + b)) ∧ (∀ r f, r < n → f < 11 → I 7 (8 * k + pm k r) (fmS f) = σ (16 + 11 * r + f)) ∧ (∀ j, j < h → I 3 k j = σ (104 + 3 * j) ∧ I 4 k j = σ (105 + 3 * j) ∧ I 5 k j = σ (106 + 3 * j)) ∧ (∀ r, r < 8 → pm k r < 8) ∧ (∀ r r', r < 8 → r' < 8 → pm k r = pm k r' → r = r') ∧ σ 6 = nI n ∧ n ≤ 8 ∧ σ 7 = nI h ∧ h ≤ 20
def inL (k K i : Nat) : Prop := (K ≤ 6 ∧ i = k) ∨ (K = 7 ∧ i / 8 = k)
/-- nothing outside layout k has changed -/
def Fr (k : Nat) (I : Ii) (pm : Pm) (I' : Ii) (pm' : Pm) : Prop := (∀ K i c, ¬ inL k K i → I' K i c = I K i c) ∧ ∀ k' r, k' ≠ k → pm' k' r = pm k' r
theorem Fr.rf {k : Nat} {I : Ii} {pm : Pm} : Fr k I pm I pm := ⟨fun _ _ _ _ => rfl, fun _ _ _ => rfl⟩
theorem Fr.tr {k : Nat} {I I1 I2 : Ii} {pm pm1 pm2 : Pm} (h1 : Fr k I pm I1 pm1) (h2 : Fr k I1 pm1 I2 pm2) : Fr k I pm I2 pm2 := ⟨fun K i c h => (h2.1 K i c h).trans (h1.1 K i c h), fun k' r h => (h2.2 k' r h).trans (h1.2 k' r h)⟩
theorem Fr.up {k K i j : Nat} {I : Ii} {pm : Pm} {v : Int32} (h : inL k K i) : Fr k I pm (up3 I K i j v) pm := ⟨fun a b c q => up3_n fun e => q (by rw [e.1, e.2.1]; exact h), fun _ _ _ => rfl⟩
theorem inL_0 {k K : Nat} (h : K ≤ 6) : inL k K k := Or.inl ⟨h, rfl⟩
theorem inL_7 {k j : Nat} (h : j < 8) : inL k 7 (8 * k + j) := Or.inr ⟨rfl, by omega⟩
theorem fmS_lt {f : Nat} (h : f < 11) : fmS f < 11 := by
  rcases (show f = 0 ∨ f = 1 ∨ f = 2 ∨ f = 3 ∨ f = 4 ∨ f = 5 ∨ f = 6 ∨ f = 7 ∨ f = 8 ∨ f = 9 ∨ f = 10 by omega) with rfl | rfl | rfl | rfl | rfl | rfl | rfl | rfl | rfl | rfl | rfl <;> decide
theorem fmS_inj {f g : Nat} (hf : f < 11) (hg : g < 11) (h : fmS f = fmS g) : f = g := by
  have key : ∀ f, f < 11 → ∀ g, g < 11 → fmS f = fmS g → f = g := by decide
  exact key f hf g hg h
theorem Rp.loco {n h : Nat} {I : Ii} {pm : Pm} {k : Nat} {σ : Sg} (R : Rp n h I pm k σ) {r f : Nat} (hr : r < n) (hf : f < 11) (v : Int32) : Rp n h (up3 I 7 (8 * k + pm k r) (fmS f) v) pm k (upd σ (16 + 11 * r + f) v) := by
  obtain ⟨⟨a1, a2, a3, a4, a5, a6, a7, a8⟩, b, c, d, e1, e2, e3, e4, e5, e6⟩ := R
  have n0 : ∀ i, i < 16 → upd σ (16 + 11 * r + f) v i = σ i := fun i hi => upd_n (by omega)
  have n1 : ∀ i, 104 ≤ i → upd σ (16 + 11 * r + f) v i = σ i := fun i hi => upd_n (by omega)
  have u0 : ∀ K i j, K ≠ 7 → up3 I 7 (8 * k + pm k r) (fmS f) v K i j = I K i j := fun K i j hK => up3_k hK
  refine ⟨⟨?_, ?_, ?_, ?_, ?_, ?_, ?_, ?_⟩, fun b' hb => ?_, fun r' f' hr' hf' => ?_, fun j hj => ?_, e1, e2, by rw [n0 6 (by omega)]; exact e3, e4, by rw [n0 7 (by omega)]; exact e5, e6⟩
  · rw [u0 _ _ _ (by decide), n0 _ (by omega)]; exact a1
  · rw [u0 _ _ _ (by decide), n0 _ (by omega)]; exact a2
  · rw [u0 _ _ _ (by decide), n0 _ (by omega)]; exact a3
  · rw [u0 _ _ _ (by decide), u0 _ _ _ (by decide), n0 _ (by omega)]; exact a4
  · rw [u0 _ _ _ (by decide), n0 _ (by omega)]; exact a5
  · rw [u0 _ _ _ (by decide), n0 _ (by omega)]; exact a6
  · rw [u0 _ _ _ (by decide), n0 _ (by omega)]; exact a7
  · rw [u0 _ _ _ (by decide), n0 _ (by omega)]; exact a8
  · rw [u0 _ _ _ (by decide), n0 _ (by omega)]; exact b b' hb
  · by_cases hq : r' = r ∧ f' = f
    · obtain ⟨rfl, rfl⟩ := hq
      rw [up3_s, upd_s]
    · rw [up3_n, upd_n, c r' f' hr' hf']
      · intro q; exact hq ⟨by omega, by omega⟩
      · intro q
        have h1 : pm k r' = pm k r := by omega
        have h2 := e2 r' r (by omega) (by omega) h1
        exact hq ⟨h2, fmS_inj hf' hf q.2.2⟩
  · rw [u0 _ _ _ (by decide), u0 _ _ _ (by decide), u0 _ _ _ (by decide), n1 _ (by omega), n1 _ (by omega), n1 _ (by omega)]; exact d j hj
/-- a number of the layout's own -/
theorem Rp.num {n h : Nat} {I I' : Ii} {pm : Pm} {k : Nat} {σ σ' : Sg} (R : Rp n h I pm k σ) (h7 : ∀ K i j, K ≠ 0 → I' K i j = I K i j) (hs : ∀ i, 6 ≤ i → σ' i = σ i)
    (a1 : I' 0 k 3 = σ' 6) (a2 : I' 0 k 4 = σ' 0) (a3 : I' 0 k 5 = σ' 1) (a4 : I' 0 k 4 - I' 0 k 6 = σ' 2) (a5 : I' 0 k 7 = σ' 3) (a6 : I' 0 k 8 = σ' 4) (a7 : I' 0 k 9 = σ' 5) : Rp n h I' pm k σ' := by
  obtain ⟨⟨-, -, -, -, -, -, -, a8⟩, b, c, d, e1, e2, e3, e4, e5, e6⟩ := R
  refine ⟨⟨a1, a2, a3, a4, a5, a6, a7, ?_⟩, fun b' hb => ?_, fun r' f' hr' hf' => ?_, fun j hj => ?_, e1, e2, by rw [hs 6 (by omega)]; exact e3, e4, by rw [hs 7 (by omega)]; exact e5, e6⟩
  · rw [h7 _ _ _ (by decide), hs _ (by omega)]; exact a8
  · rw [h7 _ _ _ (by decide), hs _ (by omega)]; exact b b' hb
  · rw [h7 _ _ _ (by decide), hs _ (by omega)]; exact c r' f' hr' hf'
  · rw [h7 _ _ _ (by decide), h7 _ _ _ (by decide), h7 _ _ _ (by decide), hs _ (by omega), hs _ (by omega), hs _ (by omega)]; exact d j hj
theorem Rp.hear {n h : Nat} {I : Ii} {pm : Pm} {k : Nat} {σ : Sg} (R : Rp n h I pm k σ) {r : Nat} (hr : r < n) (d : Int32) (hd : 0 ≤ d.toInt ∧ d.toInt ≤ 255) : Rp n h (hearI d I (8 * k + pm k r)) pm k (hearS r d σ) := by
  have hm : (d % 128).toInt = d.toInt % 128 := by rw [Kit.i32_rem_nonneg hd.1]; rfl
  have h9 : I 7 (8 * k + pm k r) 10 = σ (16 + 11 * r + 9) := R.2.2.1 r 9 hr (by decide)
  have R1 := R.loco hr (f := 9) (by decide) (σ (16 + 11 * r + 9) + 1)
  unfold hearI hearS
  rw [h9]
  by_cases c1 : d % 128 ≤ 28
  · have c1' : d.toInt % 128 ≤ 28 := by rw [← hm]; exact i_le.mp c1
    have hn1 : ¬ d = 31 := fun q => by rw [q] at c1'; revert c1'; decide
    have hn2 : ¬ (64 ≤ d ∧ d ≤ 67) := fun q => by
      have q1 := i_le.mp q.1
      have q2 := i_le.mp q.2
      have e1 : (64 : Int32).toInt = 64 := by decide
      have e2 : (67 : Int32).toInt = 67 := by decide
      omega
    have h0 : 0 ≤ d % 128 := i_le.mpr (by rw [hm]; show (0 : Int) ≤ _; omega)
    rw [if_pos c1, if_neg hn1, if_neg hn2, if_pos ⟨h0, c1⟩]
    exact (R1.loco hr (f := 6) (by decide) _).loco hr (f := 7) (by decide) _
  · rw [if_neg c1]
    by_cases c2 : d = 31
    · rw [if_pos c2, if_pos c2]
      exact (R1.loco hr (f := 6) (by decide) _).loco hr (f := 5) (by decide) _
    · rw [if_neg c2, if_neg c2]
      by_cases c3 : 64 ≤ d ∧ d ≤ 67
      · rw [if_pos c3, if_pos c3]
        exact R1.loco hr (f := 8) (by decide) _
      · rw [if_neg c3, if_neg c3, if_neg (fun q => c1 q.2)]
        exact R1
theorem Fr.hear {I : Ii} {pm : Pm} {k j : Nat} (hj : j < 8) (d : Int32) : Fr k I pm (hearI d I (8 * k + j)) pm := by
  have e := inL_7 (k := k) hj
  unfold hearI
  split
  · exact ((Fr.up e).tr (Fr.up e)).tr (Fr.up e)
  · split
    · exact ((Fr.up e).tr (Fr.up e)).tr (Fr.up e)
    · split
      · exact (Fr.up e).tr (Fr.up e)
      · exact Fr.up e
theorem dn_ind {n : Nat} {P : Nat → Prop} (h : ∀ j, j ≤ n → (j < n → P (j + 1)) → P j) : ∀ j, j ≤ n → P j := by
  have key : ∀ t j, j ≤ n → n - j ≤ t → P j := by
    intro t
    induction t with
    | zero => exact fun j hj hz => h j hj (fun q => absurd q (by omega))
    | succ t ih => exact fun j hj hz => h j hj (fun q => ih (j + 1) (by omega) (by omega))
  exact fun j hj => key (n - j) j hj (Nat.le_refl _)
theorem up_ind {P : Nat → Prop} (h : ∀ j, (∀ i, j = i + 1 → P i) → P j) : ∀ j, P j := by
  intro j
  induction j with
  | zero => exact h 0 (fun i q => absurd q (by omega))
  | succ j ih => exact h (j + 1) (fun i q => by cases q; exact ih)
end
section
/-! PART 12: bounds that stay; a frame is taken -/
theorem Rp.cnt {n h : Nat} {I : Ii} {pm : Pm} {k : Nat} {σ : Sg} (R : Rp n h I pm k σ) : I 0 k 3 = nI n := R.1.1.trans R.2.2.2.2.2.2.1
theorem Rp.hel {n h : Nat} {I : Ii} {pm : Pm} {k : Nat} {σ : Sg} (R : Rp n h I pm k σ) : I 2 k 3 = nI h := R.1.2.2.2.2.2.2.2.trans R.2.2.2.2.2.2.2.2.1
theorem Rp.n8 {n h : Nat} {I : Ii} {pm : Pm} {k : Nat} {σ : Sg} (R : Rp n h I pm k σ) : n ≤ 8 := R.2.2.2.2.2.2.2.1
theorem Rp.h20 {n h : Nat} {I : Ii} {pm : Pm} {k : Nat} {σ : Sg} (R : Rp n h I pm k σ) : h ≤ 20 := R.2.2.2.2.2.2.2.2.2
theorem Rp.p8 {n h : Nat} {I : Ii} {pm : Pm} {k : Nat} {σ : Sg} (R : Rp n h I pm k σ) {r : Nat} (hr : r < 8) : pm k r < 8 := R.2.2.2.2.1 r hr
theorem Rp.lc {n h : Nat} {I : Ii} {pm : Pm} {k : Nat} {σ : Sg} (R : Rp n h I pm k σ) {r f : Nat} (hr : r < n) (hf : f < 11) : I 7 (8 * k + pm k r) (fmS f) = σ (16 + 11 * r + f) := R.2.2.1 r f hr hf
theorem Rp.sh {n h : Nat} {I : Ii} {pm : Pm} {k : Nat} {σ : Sg} (R : Rp n h I pm k σ) {b : Nat} (hb : b < 8) : I 6 k b = σ (8 + b) := R.2.1 b hb
theorem blk_lt {σ : Sg} {r : Nat} (h : LcOk σ r) : blkS σ r < 8 := by
  have := h.2.2.1
  unfold blkS
  omega
theorem blk_eq {σ : Sg} {r : Nat} (h : LcOk σ r) : σ (16 + 11 * r + 3) / 100 = nI (blkS σ r) := by
  have h3 := h.2.2.1
  unfold blkS
  exact nx_div (nat_of h3.1) (b := 100) rfl (by omega) (by decide) (by decide)
theorem Rp.blk {n h : Nat} {I : Ii} {pm : Pm} {k : Nat} {σ : Sg} (R : Rp n h I pm k σ) {r : Nat} (hr : r < n) (h : LcOk σ r) : I 7 (8 * k + pm k r) 3 / 100 = nI (blkS σ r) := by
  rw [← blk_eq h, ← R.lc hr (f := 3) (by decide)]
  rfl
theorem LcOk.cong {σ σ' : Sg} {r : Nat} (h : LcOk σ r) (e : ∀ f, f < 11 → σ' (16 + 11 * r + f) = σ (16 + 11 * r + f)) : LcOk σ' r := by
  unfold LcOk
  rw [e 1 (by decide), e 2 (by decide), e 3 (by decide), e 4 (by decide), e 5 (by decide), e 6 (by decide), e 7 (by decide)]
  exact h
theorem Iv.num {n h : Nat} {σ σ' : Sg} (V : Iv n h σ) (e : ∀ i, 6 ≤ i → σ' i = σ i) (e1 : σ' 1 = σ 1) : Iv n h σ' := by
  obtain ⟨v1, v2, v3, v4, v5, v6, v7, v8⟩ := V
  refine ⟨by rw [e 6 (by decide)]; exact v1, v2, by rw [e 7 (by decide)]; exact v3, v4, fun r hr => (v5 r hr).cong (fun f hf => e _ (by omega)), fun b hb => by rw [e _ (by omega)]; exact v6 b hb, by rw [e1]; exact v7, fun j hj => ?_⟩
  rw [e _ (by omega), e _ (by omega)]
  exact v8 j hj
/-- the numbers of one loco change, and stay in their bounds -/
theorem Iv.loco {n h : Nat} {σ σ' : Sg} (V : Iv n h σ) {r : Nat} (hr : r < n) (e : ∀ i, (i < 16 + 11 * r ∨ 16 + 11 * r + 11 ≤ i) → σ' i = σ i) (hl : LcOk σ' r) : Iv n h σ' := by
  obtain ⟨v1, v2, v3, v4, v5, v6, v7, v8⟩ := V
  refine ⟨by rw [e 6 (by omega)]; exact v1, v2, by rw [e 7 (by omega)]; exact v3, v4, fun r' hr' => ?_, fun b hb => by rw [e _ (by omega)]; exact v6 b hb, by rw [e 1 (by omega)]; exact v7, fun j hj => ?_⟩
  · by_cases hq : r' = r
    · subst hq; exact hl
    · exact (v5 r' hr').cong (fun f hf => e _ (by omega))
  · rw [e _ (by omega), e _ (by omega)]
    exact v8 j hj
theorem hear_out {σ : Sg} {r : Nat} {d : Int32} {i : Nat} (h : i < 16 + 11 * r ∨ 16 + 11 * r + 11 ≤ i) : hearS r d σ i = σ i := by
  unfold hearS
  have n9 : i ≠ 16 + 11 * r + 9 := by omega
  have n6 : i ≠ 16 + 11 * r + 6 := by omega
  have n7 : i ≠ 16 + 11 * r + 7 := by omega
  have n5 : i ≠ 16 + 11 * r + 5 := by omega
  have n8 : i ≠ 16 + 11 * r + 8 := by omega
  split
  · rw [upd_n n5, upd_n n6, upd_n n9]
  · split
    · rw [upd_n n8, upd_n n9]
    · split
      · rw [upd_n n7, upd_n n6, upd_n n9]
      · rw [upd_n n9]
theorem Iv.hear {n h : Nat} {σ : Sg} (V : Iv n h σ) {r : Nat} (hr : r < n) {d : Int32} (hd : 0 ≤ d.toInt ∧ d.toInt ≤ 255) : Iv n h (hearS r d σ) := by
  refine V.loco hr (fun i hi => hear_out hi) ?_
  have L := V.2.2.2.2.1 r hr
  obtain ⟨l1, l2, l3, l4, l5, l6, l7⟩ := L
  have hm : (d % 128).toInt = d.toInt % 128 := by rw [Kit.i32_rem_nonneg hd.1]; rfl
  have hq : d / 128 = nI (d.toInt.toNat / 128) := nx_div (nat_of hd.1) (b := 128) rfl (by omega) (by decide) (by decide)
  have hq2 : (d / 128).toInt = ((d.toInt.toNat / 128 : Nat) : Int) := by rw [hq, nI_toInt (by omega)]
  unfold hearS LcOk
  split
  · simp only [upd]
    simp
    exact ⟨l1, l2, l3, l4, l7⟩
  · split
    · simp only [upd]
      simp
      exact ⟨l1, l2, l3, l4, l5, l6, l7⟩
    · split
      · simp only [upd]
        simp [-Int32.toInt_div, -Int32.toInt_mod]
        rw [hm, hq2]
        refine ⟨l1, l2, l3, l4, l5, ⟨by omega, ?_⟩, by omega, by omega⟩
        rename_i q
        have q2 := i_le.mp q.2
        rw [hm] at q2
        exact q2
      · simp only [upd]
        simp
        exact ⟨l1, l2, l3, l4, l5, l6, l7⟩
theorem Iv.cml {n h : Nat} {a d : Int32} (hd : 0 ≤ d.toInt ∧ d.toInt ≤ 255) {q : Sg × Int32} (V : Iv n h q.1) : ∀ j, j ≤ n → Iv n h (cmL a d j q).1 := by
  intro j
  induction j with
  | zero => exact fun _ => V
  | succ j ih =>
    intro hj
    have h1 := ih (by omega)
    show Iv n h (cmStep a d j (cmL a d j q)).1
    unfold cmStep
    split
    · exact h1.hear (by omega) hd
    · exact h1
theorem Iv.com {n h : Nat} {a d c : Int32} {σ : Sg} (V : Iv n h σ) (hd : 0 ≤ d.toInt ∧ d.toInt ≤ 255) : Iv n h (comS n a d c σ).1 := by
  have V1 : Iv n h (upd σ 3 (σ 3 + 1)) := V.num (fun i hi => upd_n (by omega)) (by simp [upd])
  unfold comS
  split
  · exact Iv.cml hd V1 n (Nat.le_refl _)
  · exact V1.num (fun i hi => upd_n (by omega)) (by simp [upd])

set_option maxHeartbeats 4000000 in
set_option maxRecDepth 100000 in
theorem c_X1_isShorted {l : Launch} {G : Gm} (hj : Aj G) {I : Ii} {pm : Pm} {k : Nat} (hk : k < 11) {x : Int32} {b : Nat} (hb : b < 8) (hx : x = nI b) : CI l G yX1_isShorted (wz yX1_isShorted cX1_isShorted 2 (some .boolean)) (rmL 0) [.ref (G.2.2 0 k), .int x] I pm (fun r u => r = bz (0 < I 6 k b) ∧ u = (I, pm)) := by
  refine CI.walk hj (by decide +kernel) (by show _ ≤ 2; exact Nat.le_of_ble_eq_true rfl) ?_
  intro p e s m args below meth c F hr hlk
  refine g_iload_n F 1 dX1_isShorted_0 rfl rfl ?_
  refine g_if_lt F 23 dX1_isShorted_1 (by decide) (fun c_1 => ?_) (fun c_1 => ?_)
  · have n_1 := nx_ltt (a := b) (b := 0) hx rfl (by omega) (by omega) c_1
    omega
  · have n_1 := nx_ltf (a := b) (b := 0) hx rfl (by omega) (by omega) c_1
    refine g_iload_n F 1 dX1_isShorted_4 rfl rfl ?_
    refine g_bipush (v := 8) F dX1_isShorted_5 (by decide) ?_
    refine g_icmp_ge F 23 dX1_isShorted_7 (by decide) (fun c_7 => ?_) (fun c_7 => ?_)
    · have n_7 := nx_get (a := b) (b := 8) hx rfl (by omega) (by omega) c_7
      omega
    · have n_7 := nx_gef (a := b) (b := 8) hx rfl (by omega) (by omega) c_7
      skip
      refine g_aload_n F 0 dX1_isShorted_10 rfl rfl ?_
      refine gf_0_2 F hk mFL_X1_24 dX1_isShorted_11 ?_
      refine g_iload_n F 1 dX1_isShorted_14 rfl rfl ?_
      refine ga_6 (j := b) F hk hx (by omega) dX1_isShorted_15 ?_
      refine g_if_le F 23 dX1_isShorted_16 (by decide) (fun c_16 => ?_) (fun c_16 => ?_)
      · refine g_iconst (v := 0) F dX1_isShorted_23 (by decide) ?_
        exact g_iret F hr hlk rfl dX1_isShorted_24 (by simp_all [bz, Int32.not_le, Int32.not_lt])
      · refine g_iconst (v := 1) F dX1_isShorted_19 (by decide) ?_
        refine g_goto F 24 dX1_isShorted_20 (by decide) ?_
        exact g_iret F hr hlk rfl dX1_isShorted_24 (by simp_all [bz, Int32.not_le, Int32.not_lt])
set_option maxHeartbeats 4000000 in
set_option maxRecDepth 100000 in
theorem c_X1_takeFrame {l : Launch} {G : Gm} (hj : Aj G) {I : Ii} {pm : Pm} {k : Nat} (hk : k < 11) {n h : Nat} {σ : Sg} (R : Rp n h I pm k σ) (V : Iv n h σ) {x y z : Int32} : CI l G yX1_takeFrame (wz yX1_takeFrame cX1_takeFrame 7 (some .int)) (rmL 2) [.ref (G.2.2 0 k), .int x, .int y, .int z] I pm (fun r u => (¬ ((0 ≤ x ∧ x ≤ 255) ∧ (0 ≤ y ∧ y ≤ 255) ∧ (0 ≤ z ∧ z ≤ 255)) ∧ r = -2 ∧ u = (I, pm)) ∨ ((0 ≤ x ∧ x ≤ 255) ∧ (0 ≤ y ∧ y ≤ 255) ∧ (0 ≤ z ∧ z ≤ 255)) ∧ r = (comS n x y z σ).2 ∧ Rp n h u.1 u.2 k (comS n x y z σ).1 ∧ Fr k I pm u.1 u.2 ∧ u.2 = pm) := by
  refine CI.walk hj (by decide +kernel) (by show _ ≤ 7; exact Nat.le_of_ble_eq_true rfl) ?_
  intro p e s m args below meth c F hr hlk
  have hn8 := R.n8
  have LOOP : ∀ j, j ≤ n → ((0 ≤ x ∧ x ≤ 255) ∧ (0 ≤ y ∧ y ≤ 255) ∧ (0 ≤ z ∧ z ≤ 255)) → z = x ^^^ y → ∀ (I2 : Ii) (q : Sg × Int32) (hc xj : Int32), xj = nI j → q = cmL x y j (upd σ 3 (σ 3 + 1), 0) → hc = q.2 → Rp n h I2 pm k q.1 → Fr k I pm I2 pm → GG p l e (rmL 2) s m args below meth c G (AA G) 7 0 0 (MQ below (va_Qi (fun (r : Int32) (u : Ii × Pm) => (¬ ((0 ≤ x ∧ x ≤ 255) ∧ (0 ≤ y ∧ y ≤ 255) ∧ (0 ≤ z ∧ z ≤ 255)) ∧ r = -2 ∧ u = (I, pm)) ∨ ((0 ≤ x ∧ x ≤ 255) ∧ (0 ≤ y ∧ y ≤ 255) ∧ (0 ≤ z ∧ z ≤ 255)) ∧ r = (comS n x y z σ).2 ∧ Rp n h u.1 u.2 k (comS n x y z σ).1 ∧ Fr k I pm u.1 u.2 ∧ u.2 = pm) (fun (u : Ii × Pm) t => Wd G u.1 u.2 t.heap) (AA G)) args s 0 0 (AA G)) I2 pm [(0, .ref (G.2.2 0 k)), (1, .int x), (2, .int y), (3, .int z), (4, .int hc), (5, .int xj)] 71 [] := by
    refine dn_ind ?_
    intro j hjl ih hb hz I2 q hc xj ej hq eh R2 F2
    have hdI : 0 ≤ y.toInt ∧ y.toInt ≤ 255 := ⟨i_le.mp hb.2.1.1, i_le.mp hb.2.1.2⟩
    have V2 : Iv n h q.1 := by rw [hq]; exact Iv.cml hdI (V.num (fun i hi => upd_n (by omega)) (by simp [upd])) j hjl
    refine g_iload F 5 dX1_takeFrame_71 rfl ?_
    refine g_aload_n F 0 dX1_takeFrame_73 rfl rfl ?_
    refine gf_0_3 F hk mFL_X1_29 dX1_takeFrame_74 ?_
    refine g_icmp_ge F 129 dX1_takeFrame_77 (by decide) (fun c_77 => ?_) (fun c_77 => ?_)
    · have n_77 := nx_get (a := j) (b := n) ej R2.cnt (by omega) (by omega) c_77
      refine g_iload F 4 dX1_takeFrame_129 rfl ?_
      exact g_iret F hr hlk rfl dX1_takeFrame_131 (by
      have hjn : j = n := by omega
      subst hjn
      refine Or.inr ⟨hb, ?_⟩
      unfold comS
      rw [if_pos hz, ← hq]
      exact ⟨eh, R2, F2, rfl⟩)
    · have n_77 := nx_gef (a := j) (b := n) ej R2.cnt (by omega) (by omega) c_77
      refine g_aload_n F 0 dX1_takeFrame_80 rfl rfl ?_
      refine gf_0_0 F hk mFL_X1_11 dX1_takeFrame_81 ?_
      refine g_iload F 5 dX1_takeFrame_84 rfl ?_
      refine ga_1 (j := j) F hk ej (by omega) dX1_takeFrame_86 ?_
      refine g_astore (L' := [(6, _), (0, _), (1, _), (2, _), (3, _), (4, _), (5, _)]) F dX1_takeFrame_87 (by decide) rfl ?_
      have hi7 : 8 * k + pm k j < 88 := by have := R2.p8 (r := j) (by omega); omega
      have LL := V2.2.2.2.2.1 j (by omega)
      have ea : I2 7 (8 * k + pm k j) 0 = q.1 (16 + 11 * j) := R2.lc (r := j) (f := 0) (by omega) (by decide)
      refine g_iload_n F 2 dX1_takeFrame_89 rfl rfl ?_
      refine g_if_eq F 102 dX1_takeFrame_90 (by decide) (fun c_90 => ?_) (fun c_90 => ?_)
      · have H1 : x = 0 ∨ q.1 (16 + 11 * j) = x := Or.inl c_90
        refine g_aload_n F 1 dX1_takeFrame_102 rfl rfl ?_
        refine g_aload F 0 dX1_takeFrame_103 rfl ?_
        refine g_callIv (na := 0) F 7 _ (c_X2_blockNumber hj hi7) hi7 rfl rfl lk_X1_87 rfl rfl (by decide +kernel) ⟨rfl, rfl, Nat.le_of_ble_eq_true rfl, Nat.le_of_ble_eq_true rfl, Nat.le_of_ble_eq_true rfl, Nat.le_of_ble_eq_true rfl, Nat.le_of_ble_eq_true rfl⟩ dX1_takeFrame_105 (fun r_105 u_105 h_105 => ?_)
        obtain ⟨rfl, rfl⟩ := h_105
        try dsimp only
        refine g_callIv (na := 1) F 0 _ (c_X1_isShorted hj hk (blk_lt LL) (R2.blk (by omega) LL)) hk rfl rfl lk_X1_91 rfl rfl (by decide +kernel) ⟨rfl, rfl, Nat.le_of_ble_eq_true rfl, Nat.le_of_ble_eq_true rfl, Nat.le_of_ble_eq_true rfl, Nat.le_of_ble_eq_true rfl, Nat.le_of_ble_eq_true rfl⟩ dX1_takeFrame_108 (fun r_108 u_108 h_108 => ?_)
        obtain ⟨rfl, rfl⟩ := h_108
        try dsimp only
        rw [R2.sh (blk_lt LL)]
        refine g_if_ne F 123 dX1_takeFrame_111 (by decide) (fun c_111 => ?_) (fun c_111 => ?_)
        · have HH : ¬ hrdS x q.1 j := fun w => w.2 (bz_n.mp c_111)
          refine g_iincC (q := 1) (L' := [(5, _), (6, _), (0, _), (1, _), (2, _), (3, _), (4, _)]) F 6 dX1_takeFrame_123 (by decide) rfl (by decide) rfl ?_
          refine g_goto F 71 dX1_takeFrame_126 (by decide) ?_
          refine g_sub [2, 3, 4, 5, 6, 0] rfl ?_
          first
          | exact ih (by omega) hb hz _ (hearS j y q.1, q.2 + 1) _ _ (nx_add ej rfl) (by rw [cmL, ← hq, cmStep, if_pos HH]) (by rw [eh]) (R2.hear (by omega) y hdI) (F2.tr (Fr.hear (R2.p8 (by omega)) y))
          | exact ih (by omega) hb hz _ q _ _ (nx_add ej rfl) (by rw [cmL, ← hq, cmStep, if_neg HH]) eh R2 F2
        · have HH : hrdS x q.1 j := ⟨H1, bz_0.mp c_111⟩
          refine g_aload F 0 dX1_takeFrame_114 rfl ?_
          refine g_iload_n F 3 dX1_takeFrame_116 rfl rfl ?_
          refine g_callVv (na := 1) F 7 _ (c_X2_hear hj hi7) hi7 rfl rfl lk_X1_94 rfl rfl (by decide +kernel) ⟨rfl, rfl, Nat.le_of_ble_eq_true rfl, Nat.le_of_ble_eq_true rfl, Nat.le_of_ble_eq_true rfl, Nat.le_of_ble_eq_true rfl, Nat.le_of_ble_eq_true rfl⟩ dX1_takeFrame_117 (fun u_117 h_117 => ?_)
          subst h_117
          try dsimp only
          refine g_iincC (q := 1) (L' := [(4, _), (6, _), (0, _), (1, _), (2, _), (3, _), (5, _)]) F 5 dX1_takeFrame_120 (by decide) rfl (by decide) rfl ?_
          refine g_iincC (q := 1) (L' := [(5, _), (4, _), (6, _), (0, _), (1, _), (2, _), (3, _)]) F 6 dX1_takeFrame_123 (by decide) rfl (by decide) rfl ?_
          refine g_goto F 71 dX1_takeFrame_126 (by decide) ?_
          refine g_sub [3, 4, 5, 6, 1, 0] rfl ?_
          first
          | exact ih (by omega) hb hz _ (hearS j y q.1, q.2 + 1) _ _ (nx_add ej rfl) (by rw [cmL, ← hq, cmStep, if_pos HH]) (by rw [eh]) (R2.hear (by omega) y hdI) (F2.tr (Fr.hear (R2.p8 (by omega)) y))
          | exact ih (by omega) hb hz _ q _ _ (nx_add ej rfl) (by rw [cmL, ← hq, cmStep, if_neg HH]) eh R2 F2
      · refine g_iload_n F 2 dX1_takeFrame_93 rfl rfl ?_
        refine g_aload F 0 dX1_takeFrame_94 rfl ?_
        refine gf_7_0 F hi7 mFL_X1_76 dX1_takeFrame_96 ?_
        refine g_icmp_ne F 123 dX1_takeFrame_99 (by decide) (fun c_99 => ?_) (fun c_99 => ?_)
        · have HH : ¬ hrdS x q.1 j := fun w => w.1.elim c_90 (fun w2 => c_99 (by rw [ea, w2]))
          refine g_iincC (q := 1) (L' := [(5, _), (6, _), (0, _), (1, _), (2, _), (3, _), (4, _)]) F 6 dX1_takeFrame_123 (by decide) rfl (by decide) rfl ?_
          refine g_goto F 71 dX1_takeFrame_126 (by decide) ?_
          refine g_sub [2, 3, 4, 5, 6, 0] rfl ?_
          first
          | exact ih (by omega) hb hz _ (hearS j y q.1, q.2 + 1) _ _ (nx_add ej rfl) (by rw [cmL, ← hq, cmStep, if_pos HH]) (by rw [eh]) (R2.hear (by omega) y hdI) (F2.tr (Fr.hear (R2.p8 (by omega)) y))
          | exact ih (by omega) hb hz _ q _ _ (nx_add ej rfl) (by rw [cmL, ← hq, cmStep, if_neg HH]) eh R2 F2
        · have H1 : x = 0 ∨ q.1 (16 + 11 * j) = x := Or.inr (by rw [← ea]; exact c_99.symm)
          refine g_aload_n F 1 dX1_takeFrame_102 rfl rfl ?_
          refine g_aload F 0 dX1_takeFrame_103 rfl ?_
          refine g_callIv (na := 0) F 7 _ (c_X2_blockNumber hj hi7) hi7 rfl rfl lk_X1_87 rfl rfl (by decide +kernel) ⟨rfl, rfl, Nat.le_of_ble_eq_true rfl, Nat.le_of_ble_eq_true rfl, Nat.le_of_ble_eq_true rfl, Nat.le_of_ble_eq_true rfl, Nat.le_of_ble_eq_true rfl⟩ dX1_takeFrame_105 (fun r_105 u_105 h_105 => ?_)
          obtain ⟨rfl, rfl⟩ := h_105
          try dsimp only
          refine g_callIv (na := 1) F 0 _ (c_X1_isShorted hj hk (blk_lt LL) (R2.blk (by omega) LL)) hk rfl rfl lk_X1_91 rfl rfl (by decide +kernel) ⟨rfl, rfl, Nat.le_of_ble_eq_true rfl, Nat.le_of_ble_eq_true rfl, Nat.le_of_ble_eq_true rfl, Nat.le_of_ble_eq_true rfl, Nat.le_of_ble_eq_true rfl⟩ dX1_takeFrame_108 (fun r_108 u_108 h_108 => ?_)
          obtain ⟨rfl, rfl⟩ := h_108
          try dsimp only
          rw [R2.sh (blk_lt LL)]
          refine g_if_ne F 123 dX1_takeFrame_111 (by decide) (fun c_111 => ?_) (fun c_111 => ?_)
          · have HH : ¬ hrdS x q.1 j := fun w => w.2 (bz_n.mp c_111)
            refine g_iincC (q := 1) (L' := [(5, _), (6, _), (0, _), (1, _), (2, _), (3, _), (4, _)]) F 6 dX1_takeFrame_123 (by decide) rfl (by decide) rfl ?_
            refine g_goto F 71 dX1_takeFrame_126 (by decide) ?_
            refine g_sub [2, 3, 4, 5, 6, 0] rfl ?_
            first
            | exact ih (by omega) hb hz _ (hearS j y q.1, q.2 + 1) _ _ (nx_add ej rfl) (by rw [cmL, ← hq, cmStep, if_pos HH]) (by rw [eh]) (R2.hear (by omega) y hdI) (F2.tr (Fr.hear (R2.p8 (by omega)) y))
            | exact ih (by omega) hb hz _ q _ _ (nx_add ej rfl) (by rw [cmL, ← hq, cmStep, if_neg HH]) eh R2 F2
          · have HH : hrdS x q.1 j := ⟨H1, bz_0.mp c_111⟩
            refine g_aload F 0 dX1_takeFrame_114 rfl ?_
            refine g_iload_n F 3 dX1_takeFrame_116 rfl rfl ?_
            refine g_callVv (na := 1) F 7 _ (c_X2_hear hj hi7) hi7 rfl rfl lk_X1_94 rfl rfl (by decide +kernel) ⟨rfl, rfl, Nat.le_of_ble_eq_true rfl, Nat.le_of_ble_eq_true rfl, Nat.le_of_ble_eq_true rfl, Nat.le_of_ble_eq_true rfl, Nat.le_of_ble_eq_true rfl⟩ dX1_takeFrame_117 (fun u_117 h_117 => ?_)
            subst h_117
            try dsimp only
            refine g_iincC (q := 1) (L' := [(4, _), (6, _), (0, _), (1, _), (2, _), (3, _), (5, _)]) F 5 dX1_takeFrame_120 (by decide) rfl (by decide) rfl ?_
            refine g_iincC (q := 1) (L' := [(5, _), (4, _), (6, _), (0, _), (1, _), (2, _), (3, _)]) F 6 dX1_takeFrame_123 (by decide) rfl (by decide) rfl ?_
            refine g_goto F 71 dX1_takeFrame_126 (by decide) ?_
            refine g_sub [3, 4, 5, 6, 1, 0] rfl ?_
            first
            | exact ih (by omega) hb hz _ (hearS j y q.1, q.2 + 1) _ _ (nx_add ej rfl) (by rw [cmL, ← hq, cmStep, if_pos HH]) (by rw [eh]) (R2.hear (by omega) y hdI) (F2.tr (Fr.hear (R2.p8 (by omega)) y))
            | exact ih (by omega) hb hz _ q _ _ (nx_add ej rfl) (by rw [cmL, ← hq, cmStep, if_neg HH]) eh R2 F2
  refine g_iload_n F 1 dX1_takeFrame_0 rfl rfl ?_
  refine g_iconst (v := 0) F dX1_takeFrame_1 (by decide) ?_
  refine g_sipush (v := 255) F dX1_takeFrame_2 (by decide) ?_
  refine g_callIn (na := 3) F (c_X5_within hj) (gw mCO_yX5_within) F.2.2.1.1 mST_yX5_within mIN_RX5 rfl rfl (by decide +kernel) ⟨rfl, rfl, Nat.le_of_ble_eq_true rfl, Nat.le_of_ble_eq_true rfl, Nat.le_of_ble_eq_true rfl, Nat.le_of_ble_eq_true rfl, Nat.le_of_ble_eq_true rfl⟩ dX1_takeFrame_5 (fun r_5 u_5 h_5 => ?_)
  obtain ⟨rfl, rfl⟩ := h_5
  try dsimp only
  refine g_if_eq F 33 dX1_takeFrame_8 (by decide) (fun c_8 => ?_) (fun c_8 => ?_)
  · have N1 := bz_0.mp c_8
    refine g_bipush (v := -2) F dX1_takeFrame_33 (by decide) ?_
    exact g_iret F hr hlk rfl dX1_takeFrame_35 (by refine Or.inl ⟨fun w => ?_, rfl, rfl⟩; first | exact N1 w.1 | exact N2 w.2.1 | exact N3 w.2.2)
  · have P1 := bz_n.mp c_8
    refine g_iload_n F 2 dX1_takeFrame_11 rfl rfl ?_
    refine g_iconst (v := 0) F dX1_takeFrame_12 (by decide) ?_
    refine g_sipush (v := 255) F dX1_takeFrame_13 (by decide) ?_
    refine g_callIn (na := 3) F (c_X5_within hj) (gw mCO_yX5_within) F.2.2.1.1 mST_yX5_within mIN_RX5 rfl rfl (by decide +kernel) ⟨rfl, rfl, Nat.le_of_ble_eq_true rfl, Nat.le_of_ble_eq_true rfl, Nat.le_of_ble_eq_true rfl, Nat.le_of_ble_eq_true rfl, Nat.le_of_ble_eq_true rfl⟩ dX1_takeFrame_16 (fun r_16 u_16 h_16 => ?_)
    obtain ⟨rfl, rfl⟩ := h_16
    try dsimp only
    refine g_if_eq F 33 dX1_takeFrame_19 (by decide) (fun c_19 => ?_) (fun c_19 => ?_)
    · have N2 := bz_0.mp c_19
      refine g_bipush (v := -2) F dX1_takeFrame_33 (by decide) ?_
      exact g_iret F hr hlk rfl dX1_takeFrame_35 (by refine Or.inl ⟨fun w => ?_, rfl, rfl⟩; first | exact N1 w.1 | exact N2 w.2.1 | exact N3 w.2.2)
    · have P2 := bz_n.mp c_19
      refine g_iload_n F 3 dX1_takeFrame_22 rfl rfl ?_
      refine g_iconst (v := 0) F dX1_takeFrame_23 (by decide) ?_
      refine g_sipush (v := 255) F dX1_takeFrame_24 (by decide) ?_
      refine g_callIn (na := 3) F (c_X5_within hj) (gw mCO_yX5_within) F.2.2.1.1 mST_yX5_within mIN_RX5 rfl rfl (by decide +kernel) ⟨rfl, rfl, Nat.le_of_ble_eq_true rfl, Nat.le_of_ble_eq_true rfl, Nat.le_of_ble_eq_true rfl, Nat.le_of_ble_eq_true rfl, Nat.le_of_ble_eq_true rfl⟩ dX1_takeFrame_27 (fun r_27 u_27 h_27 => ?_)
      obtain ⟨rfl, rfl⟩ := h_27
      try dsimp only
      refine g_if_ne F 36 dX1_takeFrame_30 (by decide) (fun c_30 => ?_) (fun c_30 => ?_)
      · have P3 := bz_n.mp c_30
        refine g_aload_n F 0 dX1_takeFrame_36 rfl rfl ?_
        refine g_dup F dX1_takeFrame_37 rfl ?_
        refine gf_0_7 F hk mFL_X1_55 dX1_takeFrame_38 ?_
        refine g_iconst (v := 1) F dX1_takeFrame_41 (by decide) ?_
        refine g_iadd F dX1_takeFrame_42 ?_
        refine gp_0_7 F hk mFL_X1_55 dX1_takeFrame_43 ?_
        refine g_iload_n F 3 dX1_takeFrame_46 rfl rfl ?_
        refine g_iload_n F 1 dX1_takeFrame_47 rfl rfl ?_
        refine g_iload_n F 2 dX1_takeFrame_48 rfl rfl ?_
        refine g_ixor F dX1_takeFrame_49 ?_
        refine g_icmp_eq F 65 dX1_takeFrame_50 (by decide) (fun c_50 => ?_) (fun c_50 => ?_)
        · refine g_iconst (v := 0) F dX1_takeFrame_65 (by decide) ?_
          refine g_istore (L' := [(4, _), (0, _), (1, _), (2, _), (3, _)]) F dX1_takeFrame_66 (by decide) rfl ?_
          refine g_iconst (v := 0) F dX1_takeFrame_68 (by decide) ?_
          refine g_istore (L' := [(5, _), (4, _), (0, _), (1, _), (2, _), (3, _)]) F dX1_takeFrame_69 (by decide) rfl ?_
          refine g_sub [2, 3, 4, 5, 1, 0] rfl ?_
          refine LOOP 0 (Nat.zero_le _) ⟨P1, P2, P3⟩ c_50 _ (upd σ 3 (σ 3 + 1), 0) _ _ rfl rfl rfl ?_ (Fr.up (inL_0 (by decide)))
          show Rp n h _ pm k (upd σ 3 (σ 3 + 1))
          exact R.num (fun K i j hK => up3_k hK) (fun i hi => upd_n (by omega)) (by simp [up3, upd]; exact R.1.1) (by simp [up3, upd]; exact R.1.2.1) (by simp [up3, upd]; exact R.1.2.2.1) (by simp [up3, upd]; exact R.1.2.2.2.1) (by simp [up3, upd]; rw [R.1.2.2.2.2.1]) (by simp [up3, upd]; exact R.1.2.2.2.2.2.1) (by simp [up3, upd]; exact R.1.2.2.2.2.2.2.1)
        · refine g_aload_n F 0 dX1_takeFrame_53 rfl rfl ?_
          refine g_dup F dX1_takeFrame_54 rfl ?_
          refine gf_0_8 F hk mFL_X1_58 dX1_takeFrame_55 ?_
          refine g_eqi (y := I 0 k 8) (by simp [up3]) ?_
          refine g_iconst (v := 1) F dX1_takeFrame_58 (by decide) ?_
          refine g_iadd F dX1_takeFrame_59 ?_
          refine gp_0_8 F hk mFL_X1_58 dX1_takeFrame_60 ?_
          refine g_iconst (v := 0) F dX1_takeFrame_63 (by decide) ?_
          exact g_iret F hr hlk rfl dX1_takeFrame_64 (by
      have R1 := R.num (I' := up3 (up3 I 0 k 7 (I 0 k 7 + 1)) 0 k 8 (I 0 k 8 + 1)) (σ' := upd (upd σ 3 (σ 3 + 1)) 4 (σ 4 + 1)) (fun K i j hK => by rw [up3_k hK, up3_k hK]) (fun i hi => by rw [upd_n (by omega), upd_n (by omega)]) (by simp [up3, upd]; exact R.1.1) (by simp [up3, upd]; exact R.1.2.1) (by simp [up3, upd]; exact R.1.2.2.1) (by simp [up3, upd]; exact R.1.2.2.2.1) (by simp [up3, upd]; rw [R.1.2.2.2.2.1]) (by simp [up3, upd]; rw [R.1.2.2.2.2.2.1]) (by simp [up3, upd]; exact R.1.2.2.2.2.2.2.1)
      refine Or.inr ⟨⟨P1, P2, P3⟩, ?_⟩
      unfold comS
      rw [if_neg c_50]
      exact ⟨rfl, R1, (Fr.up (inL_0 (by decide))).tr (Fr.up (inL_0 (by decide))), rfl⟩)
      · have N3 := bz_0.mp c_30
        refine g_bipush (v := -2) F dX1_takeFrame_33 (by decide) ?_
        exact g_iret F hr hlk rfl dX1_takeFrame_35 (by refine Or.inl ⟨fun w => ?_, rfl, rfl⟩; first | exact N1 w.1 | exact N2 w.2.1 | exact N3 w.2.2)
end
section
/-! PART 13: the station -/
theorem nx_dec {x : Int32} {j : Nat} (h : x = nI j) (h0 : 0 < j) : x + (-1) = nI (j - 1) := by
  obtain ⟨i, rfl⟩ : ∃ i, j = i + 1 := ⟨j - 1, by omega⟩
  rw [h, pk_m1]
  rfl
def rowI (I : Ii) (k q : Nat) (a d t : Int32) : Ii := up3 (up3 (up3 I 3 k q a) 4 k q d) 5 k q t
theorem iposS_le (σ : Sg) (t : Int32) : ∀ j, iposS σ t j ≤ j := by
  intro j
  induction j with
  | zero => exact Nat.le_refl _
  | succ j ih =>
    unfold iposS
    split
    · omega
    · exact Nat.le_refl _
/-- the rows of the station and what stands in them change, nothing else -/
theorem Rp.rows {n h h' : Nat} {I I' : Ii} {pm : Pm} {k : Nat} {σ σ' : Sg} (R : Rp n h I pm k σ) (hh : h' ≤ 20) (ho : ∀ K i c, ¬ (2 ≤ K ∧ K ≤ 5) → I' K i c = I K i c) (hs : ∀ i, i < 104 → i ≠ 7 → σ' i = σ i) (s7 : σ' 7 = nI h') (h2 : I' 2 k 3 = nI h') (hr : ∀ j, j < h' → I' 3 k j = σ' (104 + 3 * j) ∧ I' 4 k j = σ' (105 + 3 * j) ∧ I' 5 k j = σ' (106 + 3 * j)) : Rp n h' I' pm k σ' := by
  obtain ⟨⟨a1, a2, a3, a4, a5, a6, a7, a8⟩, b, c, d, e1, e2, e3, e4, e5, e6⟩ := R
  refine ⟨⟨?_, ?_, ?_, ?_, ?_, ?_, ?_, ?_⟩, fun b' hb => ?_, fun r' f' hr' hf' => ?_, hr, e1, e2, by rw [hs 6 (by decide) (by decide)]; exact e3, e4, s7, hh⟩
  · rw [ho _ _ _ (by decide), hs _ (by decide) (by decide)]; exact a1
  · rw [ho _ _ _ (by decide), hs _ (by decide) (by decide)]; exact a2
  · rw [ho _ _ _ (by decide), hs _ (by decide) (by decide)]; exact a3
  · rw [ho _ _ _ (by decide), ho _ _ _ (by decide), hs _ (by decide) (by decide)]; exact a4
  · rw [ho _ _ _ (by decide), hs _ (by decide) (by decide)]; exact a5
  · rw [ho _ _ _ (by decide), hs _ (by decide) (by decide)]; exact a6
  · rw [ho _ _ _ (by decide), hs _ (by decide) (by decide)]; exact a7
  · rw [h2, s7]
  · rw [ho _ _ _ (by decide), hs _ (by omega) (by omega)]; exact b b' hb
  · rw [ho _ _ _ (by decide), hs _ (by omega) (by omega)]; exact c r' f' hr' hf'
theorem Rp.row {n h : Nat} {I : Ii} {pm : Pm} {k : Nat} {σ : Sg} (R : Rp n h I pm k σ) {j : Nat} (hj : j < h) : I 3 k j = σ (104 + 3 * j) ∧ I 4 k j = σ (105 + 3 * j) ∧ I 5 k j = σ (106 + 3 * j) := R.2.2.2.1 j hj
theorem ord_at {h : Nat} {a d t : Int32} {σ : Sg} {j w : Nat} (hj : j < h + 1) (hw : w < 3) : ordS h a d t σ (104 + 3 * j + w) = if j < iposS σ t h then σ (104 + 3 * j + w) else if j = iposS σ t h then (if w = 0 then a else if w = 1 then d else t) else σ (104 + 3 * j + w - 3) := by
  have e1 : (104 + 3 * j + w - 104) / 3 = j := by omega
  have e2 : (104 + 3 * j + w - 104) % 3 = w := by omega
  unfold ordS
  rw [if_neg (by omega), if_pos (by omega), e1, e2]
theorem Rp.ord {n h : Nat} {I I' : Ii} {pm : Pm} {k : Nat} {σ : Sg} {a d t : Int32} (R : Rp n h I pm k σ) (hh : h < 20) (ho : ∀ K i c, ¬ (2 ≤ K ∧ K ≤ 5) → I' K i c = I K i c) (h2 : I' 2 k 3 = nI (h + 1))
    (hr : ∀ K q, 3 ≤ K → K ≤ 5 → q < h + 1 → I' K k q = if q < iposS σ t h then I K k q else if q = iposS σ t h then (if K = 3 then a else if K = 4 then d else t) else I K k (q - 1)) : Rp n (h + 1) I' pm k (ordS h a d t σ) := by
  have hp := iposS_le σ t h
  refine R.rows hh ho (fun i hi h7 => by unfold ordS; rw [if_neg h7, if_neg (by omega)]) (by unfold ordS; rw [if_pos rfl]) h2 (fun j hj => ?_)
  have o0 := ord_at (a := a) (d := d) (t := t) (σ := σ) hj (show 0 < 3 by decide)
  have o1 := ord_at (a := a) (d := d) (t := t) (σ := σ) hj (show 1 < 3 by decide)
  have o2 := ord_at (a := a) (d := d) (t := t) (σ := σ) hj (show 2 < 3 by decide)
  have s1 : 104 + 3 * j + 1 = 105 + 3 * j := by omega
  have s2 : 104 + 3 * j + 2 = 106 + 3 * j := by omega
  rw [s1] at o1
  rw [s2] at o2
  rw [Nat.add_zero] at o0
  rw [o0, o1, o2, hr 3 j (by decide) (by decide) hj, hr 4 j (by decide) (by decide) hj, hr 5 j (by decide) (by decide) hj]
  by_cases c1 : j < iposS σ t h
  · have r := R.row (j := j) (by omega)
    simp only [if_pos c1]
    exact r
  · simp only [if_neg c1]
    by_cases c2 : j = iposS σ t h
    · simp only [if_pos c2]
      exact ⟨rfl, rfl, rfl⟩
    · simp only [if_neg c2]
      have r := R.row (j := j - 1) (by omega)
      rw [show 104 + 3 * j - 3 = 104 + 3 * (j - 1) by omega, show 105 + 3 * j - 3 = 105 + 3 * (j - 1) by omega, show 106 + 3 * j - 3 = 106 + 3 * (j - 1) by omega]
      exact r
theorem Rp.drop {n h : Nat} {I I' : Ii} {pm : Pm} {k : Nat} {σ : Sg} (R : Rp n h I pm k σ) (ho : ∀ K i c, ¬ (2 ≤ K ∧ K ≤ 5) → I' K i c = I K i c) (h2 : I' 2 k 3 = nI (h - 1))
    (hr : ∀ K q, 3 ≤ K → K ≤ 5 → q + 1 < h → I' K k q = I K k (q + 1)) : Rp n (h - 1) I' pm k (dropS h σ) := by
  have hh := R.h20
  refine R.rows (by omega) ho (fun i hi h7 => by unfold dropS; rw [if_neg h7, if_neg (by omega), if_neg (by omega)]) (by unfold dropS; rw [if_pos rfl]) h2 (fun j hj => ?_)
  have r := R.row (j := j + 1) (by omega)
  have d1 : ∀ w, w < 3 → dropS h σ (104 + 3 * j + w) = σ (104 + 3 * (j + 1) + w) := by
    intro w hw
    unfold dropS
    rw [if_neg (by omega), if_pos (by omega)]
    congr 1
    omega
  have o0 := d1 0 (by decide)
  have o1 := d1 1 (by decide)
  have o2 := d1 2 (by decide)
  rw [show 104 + 3 * j + 1 = 105 + 3 * j by omega, show 104 + 3 * (j + 1) + 1 = 105 + 3 * (j + 1) by omega] at o1
  rw [show 104 + 3 * j + 2 = 106 + 3 * j by omega, show 104 + 3 * (j + 1) + 2 = 106 + 3 * (j + 1) by omega] at o2
  rw [Nat.add_zero, Nat.add_zero] at o0
  rw [o0, o1, o2, hr 3 j (by decide) (by decide) (by omega), hr 4 j (by decide) (by decide) (by omega), hr 5 j (by decide) (by decide) (by omega)]
  exact r
theorem row_at {I : Ii} {k q : Nat} {a d t : Int32} {K j : Nat} (h3 : 3 ≤ K) (h5 : K ≤ 5) : rowI I k q a d t K k j = if j = q then (if K = 3 then a else if K = 4 then d else t) else I K k j := by
  unfold rowI
  rcases (show K = 3 ∨ K = 4 ∨ K = 5 by omega) with rfl | rfl | rfl <;> simp [up3]
theorem row_out {I : Ii} {k q : Nat} {a d t : Int32} {K i c : Nat} (h : ¬ (3 ≤ K ∧ K ≤ 5 ∧ i = k)) : rowI I k q a d t K i c = I K i c := by
  unfold rowI
  rw [up3_n (fun e => h ⟨by omega, by omega, e.2.1⟩), up3_n (fun e => h ⟨by omega, by omega, e.2.1⟩), up3_n (fun e => h ⟨by omega, by omega, e.2.1⟩)]
theorem Fr.rows {k : Nat} {I I' : Ii} {pm : Pm} (h : ∀ K i c, ¬ (2 ≤ K ∧ K ≤ 5 ∧ i = k) → I' K i c = I K i c) : Fr k I pm I' pm := ⟨fun K i c q => h K i c (fun e => q (Or.inl ⟨by omega, e.2.2⟩)), fun _ _ _ => rfl⟩
theorem wait_in {x : Int32} {h : Nat} (hh : h ≤ 20) (h0 : 0 ≤ x) (h1 : x ≤ nI h - 1) : ∃ q, q < h ∧ x = nI q := by
  have e0 := i_le.mp h0
  have e1 := i_le.mp h1
  have e2 : (nI h - 1).toInt = (h : Int) - 1 := by
    rw [Kit.i32_sub (by rw [nI_toInt (by omega)]; show _ ≤ (h : Int) - 1; omega) (by rw [nI_toInt (by omega)]; show (h : Int) - 1 < _; omega), nI_toInt (by omega)]
    rfl
  have e3 : (0 : Int32).toInt = 0 := rfl
  rw [e2] at e1
  rw [e3] at e0
  exact ⟨x.toInt.toNat, by omega, nat_of e0⟩
def waitS (h : Nat) (σ : Sg) (x y : Int32) : Int32 := if 0 ≤ x ∧ x ≤ nI h - 1 then (if y = 0 then σ (104 + 3 * x.toInt.toNat) else if y = 1 then σ (105 + 3 * x.toInt.toNat) else if y = 2 then σ (106 + 3 * x.toInt.toNat) else -2) else -1

set_option maxHeartbeats 4000000 in
set_option maxRecDepth 100000 in
theorem c_X4_setRow {l : Launch} {G : Gm} (hj : Aj G) {I : Ii} {pm : Pm} {k : Nat} (hk : k < 11) {q : Nat} (hq : q < 20) {x a d t : Int32} (hx : x = nI q) : CV l G yX4_setRow (wz yX4_setRow cX4_setRow 5 none) (rmL 0) [.ref (G.2.2 2 k), .int x, .int a, .int d, .int t] I pm (fun u => u = (rowI I k q a d t, pm)) := by
  refine CV.walk hj (by decide +kernel) (by show _ ≤ 5; exact Nat.le_of_ble_eq_true rfl) ?_
  intro p e s m args below meth c F hr hlk
  refine g_aload_n F 0 dX4_setRow_0 rfl rfl ?_
  refine gf_2_0 F hk mFL_X4_9 dX4_setRow_1 ?_
  refine g_iload_n F 1 dX4_setRow_4 rfl rfl ?_
  refine g_iload_n F 2 dX4_setRow_5 rfl rfl ?_
  refine gs_3 (j := q) F hk hx (by omega) dX4_setRow_6 ?_
  refine g_aload_n F 0 dX4_setRow_7 rfl rfl ?_
  refine gf_2_1 F hk mFL_X4_15 dX4_setRow_8 ?_
  refine g_iload_n F 1 dX4_setRow_11 rfl rfl ?_
  refine g_iload_n F 3 dX4_setRow_12 rfl rfl ?_
  refine gs_4 (j := q) F hk hx (by omega) dX4_setRow_13 ?_
  refine g_aload_n F 0 dX4_setRow_14 rfl rfl ?_
  refine gf_2_2 F hk mFL_X4_18 dX4_setRow_15 ?_
  refine g_iload_n F 1 dX4_setRow_18 rfl rfl ?_
  refine g_iload F 4 dX4_setRow_19 rfl ?_
  refine gs_5 (j := q) F hk hx (by omega) dX4_setRow_21 ?_
  refine g_vret F hr hlk dX4_setRow_22 ?_
  exact rfl
set_option maxHeartbeats 4000000 in
set_option maxRecDepth 100000 in
theorem c_X4_dropFirst {l : Launch} {G : Gm} (hj : Aj G) {I : Ii} {pm : Pm} {k : Nat} (hk : k < 11) {n h : Nat} {σ : Sg} (R : Rp n h I pm k σ) (h1 : 1 ≤ h) : CV l G yX4_dropFirst (wz yX4_dropFirst cX4_dropFirst 2 none) (rmL 1) [.ref (G.2.2 2 k)] I pm (fun u => Rp n (h - 1) u.1 pm k (dropS h σ) ∧ u.2 = pm ∧ ∀ K i c, ¬ (2 ≤ K ∧ K ≤ 5 ∧ i = k) → u.1 K i c = I K i c) := by
  refine CV.walk hj (by decide +kernel) (by show _ ≤ 2; exact Nat.le_of_ble_eq_true rfl) ?_
  intro p e s m args below meth c F hr hlk
  have hh := R.h20
  have LOOP : ∀ j, j ≤ h → 1 ≤ j → ∀ (I2 : Ii) (xj : Int32), xj = nI j → (∀ K q, 3 ≤ K → K ≤ 5 → I2 K k q = if q + 1 < j then I K k (q + 1) else I K k q) → (∀ K i c, ¬ (3 ≤ K ∧ K ≤ 5 ∧ i = k) → I2 K i c = I K i c) → GG p l e (rmL 1) s m args below meth c G (AA G) 2 0 0 (MQ below (va_Qv (fun (u : Ii × Pm) => Rp n (h - 1) u.1 pm k (dropS h σ) ∧ u.2 = pm ∧ ∀ K i c, ¬ (2 ≤ K ∧ K ≤ 5 ∧ i = k) → u.1 K i c = I K i c) (fun (u : Ii × Pm) t => Wd G u.1 u.2 t.heap) (AA G)) args s 0 0 (AA G)) I2 pm [(0, .ref (G.2.2 2 k)), (1, .int xj)] 2 [] := by
    refine dn_ind ?_
    intro j hjl ih hj1 I2 xj ej hv ho
    have e23 : I2 2 k 3 = nI h := (ho 2 k 3 (by omega)).trans R.hel
    refine g_iload_n F 1 dX4_dropFirst_2 rfl rfl ?_
    refine g_aload_n F 0 dX4_dropFirst_3 rfl rfl ?_
    refine gf_2_3 F hk mFL_X4_27 dX4_dropFirst_4 ?_
    refine g_icmp_ge F 41 dX4_dropFirst_7 (by decide) (fun c_7 => ?_) (fun c_7 => ?_)
    · have n_7 := nx_get (a := j) (b := h) ej e23 (by omega) (by omega) c_7
      refine g_aload_n F 0 dX4_dropFirst_41 rfl rfl ?_
      refine g_iconst (v := 0) F dX4_dropFirst_42 (by decide) ?_
      refine g_aload_n F 0 dX4_dropFirst_43 rfl rfl ?_
      refine gf_2_3 F hk mFL_X4_27 dX4_dropFirst_44 ?_
      refine g_iconst (v := 1) F dX4_dropFirst_47 (by decide) ?_
      refine g_isub F dX4_dropFirst_48 ?_
      refine g_mmax F mML_X4_39 mST_LMmax mIN_java_lang_Math mCO_LMmax ⟨Nat.le_of_ble_eq_true rfl, Nat.le_of_ble_eq_true rfl, Nat.le_of_ble_eq_true rfl, Nat.le_of_ble_eq_true rfl⟩ dX4_dropFirst_49 ?_
      refine gp_2_3 F hk mFL_X4_27 dX4_dropFirst_52 ?_
      refine g_vret F hr hlk dX4_dropFirst_55 ?_
      have hjh : j = h := by omega
      subst hjh
      have em : (if (0 : Int32) < I2 2 k 3 - 1 then I2 2 k 3 - 1 else 0) = nI (j - 1) := by
        have e1 : I2 2 k 3 - 1 = nI (j - 1) := nx_sub e23 (b := 1) rfl h1
        rw [e1]
        split
        · rfl
        · rename_i q
          have := nx_ltf (a := 0) (b := j - 1) rfl rfl (by omega) (by omega) q
          rw [show j - 1 = 0 by omega]
          rfl
      rw [em]
      refine ⟨R.drop (I' := up3 I2 2 k 3 (nI (j - 1))) (fun K i c q => by rw [up3_k (by omega)]; exact ho K i c (by omega)) up3_s (fun K q h3 h5 hq => ?_), rfl, fun K i c q => ?_⟩
      · rw [up3_k (by omega), hv K q h3 h5, if_pos hq]
      · show up3 I2 2 k 3 _ K i c = I K i c
        rw [up3_n (fun e => q ⟨by omega, by omega, e.2.1⟩)]
        exact ho K i c (by omega)
    · have n_7 := nx_gef (a := j) (b := h) ej e23 (by omega) (by omega) c_7
      refine g_aload_n F 0 dX4_dropFirst_10 rfl rfl ?_
      refine g_iload_n F 1 dX4_dropFirst_11 rfl rfl ?_
      refine g_iconst (v := 1) F dX4_dropFirst_12 (by decide) ?_
      refine g_isub F dX4_dropFirst_13 ?_
      refine g_aload_n F 0 dX4_dropFirst_14 rfl rfl ?_
      refine gf_2_0 F hk mFL_X4_9 dX4_dropFirst_15 ?_
      refine g_iload_n F 1 dX4_dropFirst_18 rfl rfl ?_
      refine ga_3 (j := j) F hk ej (by omega) dX4_dropFirst_19 ?_
      refine g_aload_n F 0 dX4_dropFirst_20 rfl rfl ?_
      refine gf_2_1 F hk mFL_X4_15 dX4_dropFirst_21 ?_
      refine g_iload_n F 1 dX4_dropFirst_24 rfl rfl ?_
      refine ga_4 (j := j) F hk ej (by omega) dX4_dropFirst_25 ?_
      refine g_aload_n F 0 dX4_dropFirst_26 rfl rfl ?_
      refine gf_2_2 F hk mFL_X4_18 dX4_dropFirst_27 ?_
      refine g_iload_n F 1 dX4_dropFirst_30 rfl rfl ?_
      refine ga_5 (j := j) F hk ej (by omega) dX4_dropFirst_31 ?_
      refine g_callVv (na := 4) F 2 _ (c_X4_setRow hj hk (q := j - 1) (by omega) (nx_sub ej (b := 1) rfl hj1)) hk rfl rfl lk_X4_35 rfl rfl (by decide +kernel) ⟨rfl, rfl, Nat.le_of_ble_eq_true rfl, Nat.le_of_ble_eq_true rfl, Nat.le_of_ble_eq_true rfl, Nat.le_of_ble_eq_true rfl, Nat.le_of_ble_eq_true rfl⟩ dX4_dropFirst_32 (fun u_32 h_32 => ?_)
      subst h_32
      try dsimp only
      refine g_iincC (q := 1) (L' := [(1, _), (0, _)]) F 1 dX4_dropFirst_35 (by decide) rfl (by decide) rfl ?_
      refine g_goto F 2 dX4_dropFirst_38 (by decide) ?_
      refine g_sub [1, 0] rfl ?_
      refine ih (by omega) (by omega) _ _ (nx_add ej rfl) (fun K q h3 h5 => ?_) (fun K i c q => by rw [row_out q]; exact ho K i c q)
      rw [row_at h3 h5]
      by_cases c1 : q = j - 1
      · rw [c1, if_pos rfl, show (if j - 1 + 1 < j + 1 then I K k (j - 1 + 1) else I K k (j - 1)) = I K k j from by rw [if_pos (by omega), show j - 1 + 1 = j by omega]]
        rcases (show K = 3 ∨ K = 4 ∨ K = 5 by omega) with rfl | rfl | rfl
        · rw [if_pos rfl, hv 3 j (by decide) (by decide), if_neg (by omega)]
        · rw [if_neg (by decide), if_pos rfl, hv 4 j (by decide) (by decide), if_neg (by omega)]
        · rw [if_neg (by decide), if_neg (by decide), hv 5 j (by decide) (by decide), if_neg (by omega)]
      · rw [if_neg c1, hv K q h3 h5]
        by_cases c2 : q + 1 < j
        · rw [if_pos c2, if_pos (by omega)]
        · rw [if_neg c2, if_neg (by omega)]
  refine g_iconst (v := 1) F dX4_dropFirst_0 (by decide) ?_
  refine g_istore_n (L' := [(1, _), (0, _)]) F dX4_dropFirst_1 rfl (by decide) rfl ?_
  refine g_sub [1, 0] rfl ?_
  exact LOOP 1 h1 (Nat.le_refl _) _ _ rfl (fun K q h3 h5 => by rw [if_neg (by omega)]) (fun _ _ _ _ => rfl)
set_option maxHeartbeats 4000000 in
set_option maxRecDepth 100000 in
theorem c_X4_take {l : Launch} {G : Gm} (hj : Aj G) {I : Ii} {pm : Pm} {k : Nat} (hk : k < 11) {n h : Nat} {σ : Sg} (R : Rp n h I pm k σ) {a d t : Int32} : CI l G yX4_take (wz yX4_take cX4_take 5 (some .int)) (rmL 1) [.ref (G.2.2 2 k), .int a, .int d, .int t] I pm (fun r u => (¬ ((0 ≤ a ∧ a ≤ 99) ∧ (0 ≤ d ∧ d ≤ 255) ∧ (0 ≤ t ∧ t ≤ 3)) ∧ r = -2 ∧ u = (I, pm)) ∨ (((0 ≤ a ∧ a ≤ 99) ∧ (0 ≤ d ∧ d ≤ 255) ∧ (0 ≤ t ∧ t ≤ 3)) ∧ h = 20 ∧ r = -4 ∧ u = (I, pm)) ∨ (((0 ≤ a ∧ a ≤ 99) ∧ (0 ≤ d ∧ d ≤ 255) ∧ (0 ≤ t ∧ t ≤ 3)) ∧ h < 20 ∧ r = nI (h + 1) ∧ Rp n (h + 1) u.1 pm k (ordS h a d t σ) ∧ u.2 = pm ∧ ∀ K i c, ¬ (2 ≤ K ∧ K ≤ 5 ∧ i = k) → u.1 K i c = I K i c)) := by
  refine CI.walk hj (by decide +kernel) (by show _ ≤ 5; exact Nat.le_of_ble_eq_true rfl) ?_
  intro p e s m args below meth c F hr hlk
  have hh := R.h20
  have LOOP : ∀ j, ((0 ≤ a ∧ a ≤ 99) ∧ (0 ≤ d ∧ d ≤ 255) ∧ (0 ≤ t ∧ t ≤ 3)) → h < 20 → ∀ (I2 : Ii) (xj : Int32), xj = nI j → j ≤ h → iposS σ t h = iposS σ t j → (∀ K q, 3 ≤ K → K ≤ 5 → I2 K k q = if j < q ∧ q ≤ h then I K k (q - 1) else I K k q) → (∀ K i c, ¬ (3 ≤ K ∧ K ≤ 5 ∧ i = k) → I2 K i c = I K i c) → GG p l e (rmL 1) s m args below meth c G (AA G) 5 0 0 (MQ below (va_Qi (fun (r : Int32) (u : Ii × Pm) => (¬ ((0 ≤ a ∧ a ≤ 99) ∧ (0 ≤ d ∧ d ≤ 255) ∧ (0 ≤ t ∧ t ≤ 3)) ∧ r = -2 ∧ u = (I, pm)) ∨ (((0 ≤ a ∧ a ≤ 99) ∧ (0 ≤ d ∧ d ≤ 255) ∧ (0 ≤ t ∧ t ≤ 3)) ∧ h = 20 ∧ r = -4 ∧ u = (I, pm)) ∨ (((0 ≤ a ∧ a ≤ 99) ∧ (0 ≤ d ∧ d ≤ 255) ∧ (0 ≤ t ∧ t ≤ 3)) ∧ h < 20 ∧ r = nI (h + 1) ∧ Rp n (h + 1) u.1 pm k (ordS h a d t σ) ∧ u.2 = pm ∧ ∀ K i c, ¬ (2 ≤ K ∧ K ≤ 5 ∧ i = k) → u.1 K i c = I K i c)) (fun (u : Ii × Pm) t => Wd G u.1 u.2 t.heap) (AA G)) args s 0 0 (AA G)) I2 pm [(0, .ref (G.2.2 2 k)), (1, .int a), (2, .int d), (3, .int t), (4, .int xj)] 51 [] := by
    refine up_ind ?_
    intro j ih hb hlt I2 xj ej hjl hip hv ho
    have e23 : I2 2 k 3 = nI h := (ho 2 k 3 (by omega)).trans R.hel
    refine g_iload F 4 dX4_take_51 rfl ?_
    refine g_if_le F 108 dX4_take_53 (by decide) (fun c_53 => ?_) (fun c_53 => ?_)
    · have n_53 := nx_let (a := j) (b := 0) ej rfl (by omega) (by omega) c_53
      have HP : iposS σ t h = j := by rw [hip, show j = 0 by omega]; rfl
      refine g_aload_n F 0 dX4_take_108 rfl rfl ?_
      refine g_iload F 4 dX4_take_109 rfl ?_
      refine g_iload_n F 1 dX4_take_111 rfl rfl ?_
      refine g_iload_n F 2 dX4_take_112 rfl rfl ?_
      refine g_iload_n F 3 dX4_take_113 rfl rfl ?_
      refine g_callVv (na := 4) F 2 _ (c_X4_setRow hj hk (q := j) (by omega) ej) hk rfl rfl lk_X4_35 rfl rfl (by decide +kernel) ⟨rfl, rfl, Nat.le_of_ble_eq_true rfl, Nat.le_of_ble_eq_true rfl, Nat.le_of_ble_eq_true rfl, Nat.le_of_ble_eq_true rfl, Nat.le_of_ble_eq_true rfl⟩ dX4_take_114 (fun u_114 h_114 => ?_)
      subst h_114
      try dsimp only
      refine g_aload_n F 0 dX4_take_117 rfl rfl ?_
      refine g_dup F dX4_take_118 rfl ?_
      refine gf_2_3 F hk mFL_X4_27 dX4_take_119 ?_
      refine g_iconst (v := 1) F dX4_take_122 (by decide) ?_
      refine g_iadd F dX4_take_123 ?_
      refine gp_2_3 F hk mFL_X4_27 dX4_take_124 ?_
      refine g_aload_n F 0 dX4_take_127 rfl rfl ?_
      refine gf_2_3 F hk mFL_X4_27 dX4_take_128 ?_
      refine g_iret F hr hlk rfl dX4_take_131 ?_
      simp only [up3_s]
      refine Or.inr (Or.inr ⟨hb, hlt, ?_, ?_, trivial, fun K i c q => ?_⟩)
      · rw [row_out (by omega), e23]; exact nI_1 h
      · refine R.ord hlt (fun K i c q => by rw [up3_k (by omega), row_out (by omega)]; exact ho K i c (by omega)) (by rw [up3_s, row_out (by omega), e23]; exact nI_1 h) (fun K q h3 h5 hq => ?_)
        rw [up3_k (by omega), row_at h3 h5, HP, hv K q h3 h5]
        by_cases c1 : q = j
        · rw [if_pos c1, show (if q < j then I K k q else if q = j then (if K = 3 then a else if K = 4 then d else t) else I K k (q - 1)) = (if K = 3 then a else if K = 4 then d else t) from by rw [if_neg (by omega), if_pos c1]]
        · rw [if_neg c1]
          by_cases c2 : q < j
          · rw [if_neg (by omega), if_pos c2]
          · rw [if_pos (by omega), if_neg c2, if_neg c1]
      · show up3 (rowI I2 k j a d t) 2 k 3 _ K i c = I K i c
        rw [up3_n (fun e => q ⟨by omega, by omega, e.2.1⟩), row_out (by omega)]
        exact ho K i c (by omega)
    · have n_53 := nx_lef (a := j) (b := 0) ej rfl (by omega) (by omega) c_53
      have e5 : I2 5 k (j - 1) = σ (104 + 3 * (j - 1) + 2) := by
        rw [hv 5 _ (by decide) (by decide), if_neg (by omega), (R.row (j := j - 1) (by omega)).2.2]
        congr 1
        omega
      refine g_aload_n F 0 dX4_take_56 rfl rfl ?_
      refine gf_2_2 F hk mFL_X4_18 dX4_take_57 ?_
      refine g_iload F 4 dX4_take_60 rfl ?_
      refine g_iconst (v := 1) F dX4_take_62 (by decide) ?_
      refine g_isub F dX4_take_63 ?_
      refine ga_5 (j := (j - 1)) F hk (nx_sub ej rfl (by omega)) (by omega) dX4_take_64 ?_
      refine g_iload_n F 3 dX4_take_65 rfl rfl ?_
      refine g_icmp_ge F 108 dX4_take_66 (by decide) (fun c_66 => ?_) (fun c_66 => ?_)
      · have HP : iposS σ t h = j := by
          obtain ⟨i, rfl⟩ : ∃ i, j = i + 1 := ⟨j - 1, by omega⟩
          rw [hip]
          show (if σ (104 + 3 * i + 2) < t then iposS σ t i else i + 1) = i + 1
          rw [Nat.add_sub_cancel] at e5
          have c66 := c_66
          rw [Nat.add_sub_cancel, e5] at c66
          exact if_neg (Int32.not_lt.mpr c66)
        refine g_aload_n F 0 dX4_take_108 rfl rfl ?_
        refine g_iload F 4 dX4_take_109 rfl ?_
        refine g_iload_n F 1 dX4_take_111 rfl rfl ?_
        refine g_iload_n F 2 dX4_take_112 rfl rfl ?_
        refine g_iload_n F 3 dX4_take_113 rfl rfl ?_
        refine g_callVv (na := 4) F 2 _ (c_X4_setRow hj hk (q := j) (by omega) ej) hk rfl rfl lk_X4_35 rfl rfl (by decide +kernel) ⟨rfl, rfl, Nat.le_of_ble_eq_true rfl, Nat.le_of_ble_eq_true rfl, Nat.le_of_ble_eq_true rfl, Nat.le_of_ble_eq_true rfl, Nat.le_of_ble_eq_true rfl⟩ dX4_take_114 (fun u_114 h_114 => ?_)
        subst h_114
        try dsimp only
        refine g_aload_n F 0 dX4_take_117 rfl rfl ?_
        refine g_dup F dX4_take_118 rfl ?_
        refine gf_2_3 F hk mFL_X4_27 dX4_take_119 ?_
        refine g_iconst (v := 1) F dX4_take_122 (by decide) ?_
        refine g_iadd F dX4_take_123 ?_
        refine gp_2_3 F hk mFL_X4_27 dX4_take_124 ?_
        refine g_aload_n F 0 dX4_take_127 rfl rfl ?_
        refine gf_2_3 F hk mFL_X4_27 dX4_take_128 ?_
        refine g_iret F hr hlk rfl dX4_take_131 ?_
        simp only [up3_s]
        refine Or.inr (Or.inr ⟨hb, hlt, ?_, ?_, trivial, fun K i c q => ?_⟩)
        · rw [row_out (by omega), e23]; exact nI_1 h
        · refine R.ord hlt (fun K i c q => by rw [up3_k (by omega), row_out (by omega)]; exact ho K i c (by omega)) (by rw [up3_s, row_out (by omega), e23]; exact nI_1 h) (fun K q h3 h5 hq => ?_)
          rw [up3_k (by omega), row_at h3 h5, HP, hv K q h3 h5]
          by_cases c1 : q = j
          · rw [if_pos c1, show (if q < j then I K k q else if q = j then (if K = 3 then a else if K = 4 then d else t) else I K k (q - 1)) = (if K = 3 then a else if K = 4 then d else t) from by rw [if_neg (by omega), if_pos c1]]
          · rw [if_neg c1]
            by_cases c2 : q < j
            · rw [if_neg (by omega), if_pos c2]
            · rw [if_pos (by omega), if_neg c2, if_neg c1]
        · show up3 (rowI I2 k j a d t) 2 k 3 _ K i c = I K i c
          rw [up3_n (fun e => q ⟨by omega, by omega, e.2.1⟩), row_out (by omega)]
          exact ho K i c (by omega)
      · refine g_aload_n F 0 dX4_take_69 rfl rfl ?_
        refine g_iload F 4 dX4_take_70 rfl ?_
        refine g_aload_n F 0 dX4_take_72 rfl rfl ?_
        refine gf_2_0 F hk mFL_X4_9 dX4_take_73 ?_
        refine g_iload F 4 dX4_take_76 rfl ?_
        refine g_iconst (v := 1) F dX4_take_78 (by decide) ?_
        refine g_isub F dX4_take_79 ?_
        refine ga_3 (j := (j - 1)) F hk (nx_sub ej rfl (by omega)) (by omega) dX4_take_80 ?_
        refine g_aload_n F 0 dX4_take_81 rfl rfl ?_
        refine gf_2_1 F hk mFL_X4_15 dX4_take_82 ?_
        refine g_iload F 4 dX4_take_85 rfl ?_
        refine g_iconst (v := 1) F dX4_take_87 (by decide) ?_
        refine g_isub F dX4_take_88 ?_
        refine ga_4 (j := (j - 1)) F hk (nx_sub ej rfl (by omega)) (by omega) dX4_take_89 ?_
        refine g_aload_n F 0 dX4_take_90 rfl rfl ?_
        refine gf_2_2 F hk mFL_X4_18 dX4_take_91 ?_
        refine g_iload F 4 dX4_take_94 rfl ?_
        refine g_iconst (v := 1) F dX4_take_96 (by decide) ?_
        refine g_isub F dX4_take_97 ?_
        refine ga_5 (j := (j - 1)) F hk (nx_sub ej rfl (by omega)) (by omega) dX4_take_98 ?_
        refine g_callVv (na := 4) F 2 _ (c_X4_setRow hj hk (q := j) (by omega) ej) hk rfl rfl lk_X4_35 rfl rfl (by decide +kernel) ⟨rfl, rfl, Nat.le_of_ble_eq_true rfl, Nat.le_of_ble_eq_true rfl, Nat.le_of_ble_eq_true rfl, Nat.le_of_ble_eq_true rfl, Nat.le_of_ble_eq_true rfl⟩ dX4_take_99 (fun u_99 h_99 => ?_)
        subst h_99
        try dsimp only
        refine g_iincC (q := -1) (L' := [(4, _), (0, _), (1, _), (2, _), (3, _)]) F 4 dX4_take_102 (by decide) rfl (by decide) rfl ?_
        refine g_goto F 51 dX4_take_105 (by decide) ?_
        refine g_sub [1, 2, 3, 4, 0] rfl ?_
        refine ih (j - 1) (by omega) hb hlt _ _ (nx_dec ej n_53) (by omega) ?_ (fun K q h3 h5 => ?_) (fun K i c q => by rw [row_out q]; exact ho K i c q)
        · rw [hip]
          obtain ⟨i, rfl⟩ : ∃ i, j = i + 1 := ⟨j - 1, by omega⟩
          rw [Nat.add_sub_cancel] at e5 ⊢
          have c66 := c_66
          rw [Nat.add_sub_cancel, e5] at c66
          show (if σ (104 + 3 * i + 2) < t then iposS σ t i else i + 1) = _
          exact if_pos (Int32.not_le.mp c66)
        · rw [row_at h3 h5]
          by_cases c1 : q = j
          · rw [c1, if_pos rfl, show (if j - 1 < j ∧ j ≤ h then I K k (j - 1) else I K k j) = I K k (j - 1) from if_pos (by omega)]
            rcases (show K = 3 ∨ K = 4 ∨ K = 5 by omega) with rfl | rfl | rfl
            · rw [if_pos rfl, hv 3 _ (by decide) (by decide), if_neg (by omega)]
            · rw [if_neg (by decide), if_pos rfl, hv 4 _ (by decide) (by decide), if_neg (by omega)]
            · rw [if_neg (by decide), if_neg (by decide), hv 5 _ (by decide) (by decide), if_neg (by omega)]
          · rw [if_neg c1, hv K q h3 h5]
            by_cases c2 : j < q ∧ q ≤ h
            · rw [if_pos c2, if_pos (by omega)]
            · rw [if_neg c2, if_neg (by omega)]
  refine g_iload_n F 1 dX4_take_0 rfl rfl ?_
  refine g_iconst (v := 0) F dX4_take_1 (by decide) ?_
  refine g_bipush (v := 99) F dX4_take_2 (by decide) ?_
  refine g_callIn (na := 3) F (c_X5_within hj) (gw mCO_yX5_within) F.2.2.1.2.1 mST_yX5_within mIN_RX5 rfl rfl (by decide +kernel) ⟨rfl, rfl, Nat.le_of_ble_eq_true rfl, Nat.le_of_ble_eq_true rfl, Nat.le_of_ble_eq_true rfl, Nat.le_of_ble_eq_true rfl, Nat.le_of_ble_eq_true rfl⟩ dX4_take_4 (fun r_4 u_4 h_4 => ?_)
  obtain ⟨rfl, rfl⟩ := h_4
  try dsimp only
  refine g_if_eq F 30 dX4_take_7 (by decide) (fun c_7 => ?_) (fun c_7 => ?_)
  · have N1 := bz_0.mp c_7
    refine g_bipush (v := -2) F dX4_take_30 (by decide) ?_
    exact g_iret F hr hlk rfl dX4_take_32 (by refine Or.inl ⟨fun w => ?_, rfl, rfl⟩; first | exact N1 w.1 | exact N2 w.2.1 | exact N3 w.2.2)
  · have P1 := bz_n.mp c_7
    refine g_iload_n F 2 dX4_take_10 rfl rfl ?_
    refine g_iconst (v := 0) F dX4_take_11 (by decide) ?_
    refine g_sipush (v := 255) F dX4_take_12 (by decide) ?_
    refine g_callIn (na := 3) F (c_X5_within hj) (gw mCO_yX5_within) F.2.2.1.2.1 mST_yX5_within mIN_RX5 rfl rfl (by decide +kernel) ⟨rfl, rfl, Nat.le_of_ble_eq_true rfl, Nat.le_of_ble_eq_true rfl, Nat.le_of_ble_eq_true rfl, Nat.le_of_ble_eq_true rfl, Nat.le_of_ble_eq_true rfl⟩ dX4_take_15 (fun r_15 u_15 h_15 => ?_)
    obtain ⟨rfl, rfl⟩ := h_15
    try dsimp only
    refine g_if_eq F 30 dX4_take_18 (by decide) (fun c_18 => ?_) (fun c_18 => ?_)
    · have N2 := bz_0.mp c_18
      refine g_bipush (v := -2) F dX4_take_30 (by decide) ?_
      exact g_iret F hr hlk rfl dX4_take_32 (by refine Or.inl ⟨fun w => ?_, rfl, rfl⟩; first | exact N1 w.1 | exact N2 w.2.1 | exact N3 w.2.2)
    · have P2 := bz_n.mp c_18
      refine g_iload_n F 3 dX4_take_21 rfl rfl ?_
      refine g_iconst (v := 0) F dX4_take_22 (by decide) ?_
      refine g_iconst (v := 3) F dX4_take_23 (by decide) ?_
      refine g_callIn (na := 3) F (c_X5_within hj) (gw mCO_yX5_within) F.2.2.1.2.1 mST_yX5_within mIN_RX5 rfl rfl (by decide +kernel) ⟨rfl, rfl, Nat.le_of_ble_eq_true rfl, Nat.le_of_ble_eq_true rfl, Nat.le_of_ble_eq_true rfl, Nat.le_of_ble_eq_true rfl, Nat.le_of_ble_eq_true rfl⟩ dX4_take_24 (fun r_24 u_24 h_24 => ?_)
      obtain ⟨rfl, rfl⟩ := h_24
      try dsimp only
      refine g_if_ne F 33 dX4_take_27 (by decide) (fun c_27 => ?_) (fun c_27 => ?_)
      · have P3 := bz_n.mp c_27
        refine g_aload_n F 0 dX4_take_33 rfl rfl ?_
        refine gf_2_3 F hk mFL_X4_27 dX4_take_34 ?_
        refine g_bipush (v := 20) F dX4_take_37 (by decide) ?_
        refine g_icmp_lt F 45 dX4_take_39 (by decide) (fun c_39 => ?_) (fun c_39 => ?_)
        · have n_39 := nx_ltt (a := h) (b := 20) R.hel rfl (by omega) (by omega) c_39
          refine g_aload_n F 0 dX4_take_45 rfl rfl ?_
          refine gf_2_3 F hk mFL_X4_27 dX4_take_46 ?_
          refine g_topi (fun x4_49 ex4_49 => ?_)
          refine g_istore (L' := [(4, _), (0, _), (1, _), (2, _), (3, _)]) F dX4_take_49 (by decide) rfl ?_
          refine g_sub [1, 2, 3, 4, 0] rfl ?_
          exact LOOP h ⟨P1, P2, P3⟩ (by omega) _ _ (ex4_49.trans R.hel) (Nat.le_refl _) rfl (fun K q h3 h5 => by rw [if_neg (by omega)]) (fun _ _ _ _ => rfl)
        · have n_39 := nx_ltf (a := h) (b := 20) R.hel rfl (by omega) (by omega) c_39
          refine g_bipush (v := -4) F dX4_take_42 (by decide) ?_
          refine g_iret F hr hlk rfl dX4_take_44 ?_
          exact Or.inr (Or.inl ⟨⟨P1, P2, P3⟩, by omega, rfl, rfl⟩)
      · have N3 := bz_0.mp c_27
        refine g_bipush (v := -2) F dX4_take_30 (by decide) ?_
        exact g_iret F hr hlk rfl dX4_take_32 (by refine Or.inl ⟨fun w => ?_, rfl, rfl⟩; first | exact N1 w.1 | exact N2 w.2.1 | exact N3 w.2.2)
set_option maxHeartbeats 4000000 in
set_option maxRecDepth 100000 in
theorem c_X4_told {l : Launch} {G : Gm} (hj : Aj G) {I : Ii} {pm : Pm} {k : Nat} (hk : k < 11) {n h : Nat} {σ : Sg} (R : Rp n h I pm k σ) {x y : Int32} : CI l G yX4_told (wz yX4_told cX4_told 3 (some .int)) (rmL 1) [.ref (G.2.2 2 k), .int x, .int y] I pm (fun r u => r = waitS h σ x y ∧ u = (I, pm)) := by
  have hh := R.h20
  have hl := R.hel
  refine CI.walk hj (by decide +kernel) (by show _ ≤ 3; exact Nat.le_of_ble_eq_true rfl) ?_
  intro p e s m args below meth c F hr hlk
  refine g_iload_n F 1 dX4_told_0 rfl rfl ?_
  refine g_iconst (v := 0) F dX4_told_1 (by decide) ?_
  refine g_aload_n F 0 dX4_told_2 rfl rfl ?_
  refine gf_2_3 F hk mFL_X4_27 dX4_told_3 ?_
  refine g_iconst (v := 1) F dX4_told_6 (by decide) ?_
  refine g_isub F dX4_told_7 ?_
  refine g_callIn (na := 3) F (c_X5_within hj) (gw mCO_yX5_within) F.2.2.1.2.1 mST_yX5_within mIN_RX5 rfl rfl (by decide +kernel) ⟨rfl, rfl, Nat.le_of_ble_eq_true rfl, Nat.le_of_ble_eq_true rfl, Nat.le_of_ble_eq_true rfl, Nat.le_of_ble_eq_true rfl, Nat.le_of_ble_eq_true rfl⟩ dX4_told_8 (fun r_8 u_8 h_8 => ?_)
  obtain ⟨rfl, rfl⟩ := h_8
  try dsimp only
  refine g_if_ne F 16 dX4_told_11 (by decide) (fun c_11 => ?_) (fun c_11 => ?_)
  · have P1 := bz_n.mp c_11
    rw [hl] at P1
    obtain ⟨q, hq, eq⟩ := wait_in hh P1.1 P1.2
    have hxq : x.toInt.toNat = q := by rw [eq, nI_toInt (by omega)]; rfl
    have ex : x = nI x.toInt.toNat := by rw [hxq]; exact eq
    have hqh : x.toInt.toNat < h := by omega
    have r := R.row hqh
    refine g_iload_n F 2 dX4_told_16 rfl rfl ?_
    by_cases hs_17 : 0 ≤ y.toInt ∧ y.toInt ≤ 2
    · obtain ⟨js_17, hj_17, ej_17⟩ := sw_in hs_17.1 hs_17.2 (by decide)
      rcases (show js_17 = 0 ∨ js_17 = 1 ∨ js_17 = 2 by omega) with hq | hq | hq
      · have hs_17_0 : y = 0 := by rw [ej_17, hq] <;> rfl
        refine g_tableIn (off := 27) F 44 dX4_told_17 (by rw [hs_17_0]; decide) (by rw [hs_17_0]; decide) (by rw [hs_17_0]; rfl) (by decide) ?_
        refine g_aload_n F 0 dX4_told_44 rfl rfl ?_
        refine gf_2_0 F hk mFL_X4_9 dX4_told_45 ?_
        refine g_iload_n F 1 dX4_told_48 rfl rfl ?_
        refine ga_3 (j := x.toInt.toNat) F hk ex (by omega) dX4_told_49 ?_
        exact g_iret F hr hlk rfl dX4_told_50 (by refine ⟨?_, rfl⟩; unfold waitS; rw [if_pos P1, if_pos hs_17_0]; exact r.1)
      · have hs_17_1 : y = 1 := by rw [ej_17, hq] <;> rfl
        refine g_tableIn (off := 34) F 51 dX4_told_17 (by rw [hs_17_1]; decide) (by rw [hs_17_1]; decide) (by rw [hs_17_1]; rfl) (by decide) ?_
        refine g_aload_n F 0 dX4_told_51 rfl rfl ?_
        refine gf_2_1 F hk mFL_X4_15 dX4_told_52 ?_
        refine g_iload_n F 1 dX4_told_55 rfl rfl ?_
        refine ga_4 (j := x.toInt.toNat) F hk ex (by omega) dX4_told_56 ?_
        exact g_iret F hr hlk rfl dX4_told_57 (by refine ⟨?_, rfl⟩; unfold waitS; rw [if_pos P1, hs_17_1]; exact r.2.1)
      · have hs_17_2 : y = 2 := by rw [ej_17, hq] <;> rfl
        refine g_tableIn (off := 41) F 58 dX4_told_17 (by rw [hs_17_2]; decide) (by rw [hs_17_2]; decide) (by rw [hs_17_2]; rfl) (by decide) ?_
        refine g_aload_n F 0 dX4_told_58 rfl rfl ?_
        refine gf_2_2 F hk mFL_X4_18 dX4_told_59 ?_
        refine g_iload_n F 1 dX4_told_62 rfl rfl ?_
        refine ga_5 (j := x.toInt.toNat) F hk ex (by omega) dX4_told_63 ?_
        exact g_iret F hr hlk rfl dX4_told_64 (by refine ⟨?_, rfl⟩; unfold waitS; rw [if_pos P1, hs_17_2]; exact r.2.2)
    · refine g_tableOut F 65 dX4_told_17 (by omega) (by decide) ?_
      refine g_bipush (v := -2) F dX4_told_65 (by decide) ?_
      exact g_iret F hr hlk rfl dX4_told_67 (by refine ⟨?_, rfl⟩; unfold waitS; rw [if_pos P1, if_neg (fun e => hs_17 (by rw [e]; decide)), if_neg (fun e => hs_17 (by rw [e]; decide)), if_neg (fun e => hs_17 (by rw [e]; decide))])
  · have N1 := bz_0.mp c_11
    rw [hl] at N1
    refine g_iconst (v := -1) F dX4_told_14 (by decide) ?_
    exact g_iret F hr hlk rfl dX4_told_15 (by refine ⟨?_, rfl⟩; unfold waitS; rw [if_neg N1])
set_option maxHeartbeats 4000000 in
set_option maxRecDepth 100000 in
theorem c_X4_copyFrom {l : Launch} {G : Gm} (hj : Aj G) {I : Ii} {pm : Pm} {k k2 : Nat} (hk : k < 11) (hk2 : k2 < 11) (hne : k2 ≠ k) : CV l G yX4_copyFrom (wz yX4_copyFrom cX4_copyFrom 2 none) (rmL 1) [.ref (G.2.2 2 k), .ref (G.2.2 2 k2)] I pm (fun u => u.2 = pm ∧ (∀ K q, 3 ≤ K → K ≤ 5 → q < 20 → u.1 K k q = I K k2 q) ∧ u.1 2 k 3 = I 2 k2 3 ∧ ∀ K i c, ¬ (2 ≤ K ∧ K ≤ 5 ∧ i = k) → u.1 K i c = I K i c) := by
  refine CV.walk hj (by decide +kernel) (by show _ ≤ 2; exact Nat.le_of_ble_eq_true rfl) ?_
  intro p e s m args below meth c F hr hlk
  refine g_aload_n F 1 dX4_copyFrom_0 rfl rfl ?_
  refine gf_2_0 F hk2 mFL_X4_9 dX4_copyFrom_1 ?_
  refine g_iconst (v := 0) F dX4_copyFrom_4 (by decide) ?_
  refine g_aload_n F 0 dX4_copyFrom_5 rfl rfl ?_
  refine gf_2_0 F hk mFL_X4_9 dX4_copyFrom_6 ?_
  refine g_iconst (v := 0) F dX4_copyFrom_9 (by decide) ?_
  refine g_bipush (v := 20) F dX4_copyFrom_10 (by decide) ?_
  refine g_copyi (n := 20) (K := 3) (K' := 3) F hk2 hk rfl rfl mML_X4_21 mNA_arraycopyName mST_arraycopyName mIN_java_lang_System rfl (by decide) ⟨Nat.le_of_ble_eq_true rfl, Nat.le_of_ble_eq_true rfl⟩ (by simp only [cvv, upR_s]) dX4_copyFrom_12 ?_
  refine g_aload_n F 1 dX4_copyFrom_15 rfl rfl ?_
  refine gf_2_1 F hk2 mFL_X4_15 dX4_copyFrom_16 ?_
  refine g_iconst (v := 0) F dX4_copyFrom_19 (by decide) ?_
  refine g_aload_n F 0 dX4_copyFrom_20 rfl rfl ?_
  refine gf_2_1 F hk mFL_X4_15 dX4_copyFrom_21 ?_
  refine g_iconst (v := 0) F dX4_copyFrom_24 (by decide) ?_
  refine g_bipush (v := 20) F dX4_copyFrom_25 (by decide) ?_
  refine g_copyi (n := 20) (K := 4) (K' := 4) F hk2 hk rfl rfl mML_X4_21 mNA_arraycopyName mST_arraycopyName mIN_java_lang_System rfl (by decide) ⟨Nat.le_of_ble_eq_true rfl, Nat.le_of_ble_eq_true rfl⟩ (by simp only [cvv, upR_s]) dX4_copyFrom_27 ?_
  refine g_aload_n F 1 dX4_copyFrom_30 rfl rfl ?_
  refine gf_2_2 F hk2 mFL_X4_18 dX4_copyFrom_31 ?_
  refine g_iconst (v := 0) F dX4_copyFrom_34 (by decide) ?_
  refine g_aload_n F 0 dX4_copyFrom_35 rfl rfl ?_
  refine gf_2_2 F hk mFL_X4_18 dX4_copyFrom_36 ?_
  refine g_iconst (v := 0) F dX4_copyFrom_39 (by decide) ?_
  refine g_bipush (v := 20) F dX4_copyFrom_40 (by decide) ?_
  refine g_copyi (n := 20) (K := 5) (K' := 5) F hk2 hk rfl rfl mML_X4_21 mNA_arraycopyName mST_arraycopyName mIN_java_lang_System rfl (by decide) ⟨Nat.le_of_ble_eq_true rfl, Nat.le_of_ble_eq_true rfl⟩ (by simp only [cvv, upR_s]) dX4_copyFrom_42 ?_
  refine g_aload_n F 0 dX4_copyFrom_45 rfl rfl ?_
  refine g_aload_n F 1 dX4_copyFrom_46 rfl rfl ?_
  refine gf_2_3 F hk2 mFL_X4_27 dX4_copyFrom_47 ?_
  refine gp_2_3 F hk mFL_X4_27 dX4_copyFrom_50 ?_
  refine g_vret F hr hlk dX4_copyFrom_53 ?_
  refine ⟨rfl, fun K q h3 h5 hq => ?_, ?_, fun K i c q => ?_⟩
  · rcases (show K = 3 ∨ K = 4 ∨ K = 5 by omega) with rfl | rfl | rfl <;> simp [up3, upR, va_cpy, hq]
  · simp [up3, upR, hne]
  · dsimp only
    rw [up3_n (fun e => q ⟨by omega, by omega, e.2.1⟩), upR_n (fun e => q ⟨by omega, by omega, e.2⟩), upR_n (fun e => q ⟨by omega, by omega, e.2⟩), upR_n (fun e => q ⟨by omega, by omega, e.2⟩)]
end
section
/-! PART 14: what a layout tells, and its small changes -/
theorem rng {x M : Int32} {m : Nat} (hM : M.toInt = m) (h0 : 0 ≤ x) (h1 : x ≤ M) : x.toInt.toNat ≤ m ∧ x = nI x.toInt.toNat := by
  have e0 := i_le.mp h0
  have e1 := i_le.mp h1
  have e3 : (0 : Int32).toInt = 0 := rfl
  rw [e3] at e0
  exact ⟨by omega, nat_of e0⟩
def lcS (σ : Sg) (x : Int32) : Nat → Int32
  | 0 => 0
  | j + 1 => if σ (16 + 11 * j + 3) / 100 = x then lcS σ x j + 1 else lcS σ x j
def bwS (σ : Sg) : Nat → Int32
  | 0 => 0
  | b + 1 => if 0 < σ (8 + b) then bwS σ b + 1 else bwS σ b
def cbS (σ : Sg) (n : Nat) : Nat → Int32
  | 0 => 0
  | b + 1 => if 1 < lcS σ (nI b) n then cbS σ n b + 1 else cbS σ n b
def ssS (σ : Sg) : Nat → Int32
  | 0 => 0
  | j + 1 => ssS σ j + σ (16 + 11 * j + 5)
def rkS (σ : Sg) (a : Int32) : Nat → Nat
  | 0 => 0
  | j + 1 => if rkS σ a j < j then rkS σ a j else if σ (16 + 11 * j) = a then j else j + 1
theorem rk_none {σ : Sg} {a : Int32} : ∀ j, (∀ r, r < j → ¬ σ (16 + 11 * r) = a) → rkS σ a j = j := by
  intro j
  induction j with
  | zero => exact fun _ => rfl
  | succ j ih =>
    intro h
    have h1 := ih (fun r hr => h r (by omega))
    unfold rkS
    rw [h1, if_neg (Nat.lt_irrefl _), if_neg (h j (by omega))]
theorem rk_some {σ : Sg} {a : Int32} {p : Nat} (h0 : ∀ r, r < p → ¬ σ (16 + 11 * r) = a) (h1 : σ (16 + 11 * p) = a) : ∀ n, p < n → rkS σ a n = p := by
  intro n
  induction n with
  | zero => exact fun h => absurd h (by omega)
  | succ n ih =>
    intro h
    unfold rkS
    by_cases hp : p < n
    · rw [ih hp, if_pos hp]
    · have e : p = n := by omega
      subst e
      rw [rk_none p h0, if_neg (Nat.lt_irrefl _), if_pos h1]
theorem rk_le (σ : Sg) (a : Int32) : ∀ n, rkS σ a n ≤ n := by
  intro n
  induction n with
  | zero => exact Nat.le_refl _
  | succ n ih =>
    unfold rkS
    split
    · omega
    · split <;> omega
theorem inL7 {k j : Nat} (hk : k < 11) (hj : j < 8) : 8 * k + j < 88 := by omega
def LQ (G : Gm) (pm : Pm) (k n : Nat) (σ : Sg) (a : Int32) : Option Nat := if rkS σ a n < n then some (G.2.2 7 (8 * k + pm k (rkS σ a n))) else none
theorem lq_n {n : Nat} {x : Int32} (h8 : n ≤ 8) : (0 ≤ x ∧ x ≤ nI n - 1) ↔ ∃ q, q < n ∧ x = nI q := by
  constructor
  · exact fun h => wait_in (by omega) h.1 h.2
  · rintro ⟨q, hq, rfl⟩
    refine ⟨nI_pos' (by omega), ?_⟩
    rw [show nI n - 1 = nI (n - 1) from nx_sub rfl (b := 1) rfl (by omega)]
    exact nI_le (by omega) (by omega)

set_option maxHeartbeats 4000000 in
set_option maxRecDepth 100000 in
theorem c_X1_locosIn {l : Launch} {G : Gm} (hj : Aj G) {I : Ii} {pm : Pm} {k : Nat} (hk : k < 11) {n h : Nat} {σ : Sg} (R : Rp n h I pm k σ) {x : Int32} : CI l G yX1_locosIn (wz yX1_locosIn cX1_locosIn 4 (some .int)) (rmL 1) [.ref (G.2.2 0 k), .int x] I pm (fun r u => r = lcS σ x n ∧ u = (I, pm)) := by
  refine CI.walk hj (by decide +kernel) (by show _ ≤ 4; exact Nat.le_of_ble_eq_true rfl) ?_
  intro p e s m args below meth c F hr hlk
  have hn8 := R.n8
  have LOOP : ∀ j, j ≤ n → ∀ (xc xj : Int32), xj = nI j → xc = lcS σ x j → GG p l e (rmL 1) s m args below meth c G (AA G) 4 0 0 (MQ below (va_Qi (fun (r : Int32) (u : Ii × Pm) => r = lcS σ x n ∧ u = (I, pm)) (fun (u : Ii × Pm) t => Wd G u.1 u.2 t.heap) (AA G)) args s 0 0 (AA G)) I pm [(0, .ref (G.2.2 0 k)), (1, .int x), (2, .int xc), (3, .int xj)] 4 [] := by
    refine dn_ind ?_
    intro j hjl ih xc xj ej ec
    refine g_iload_n F 3 dX1_locosIn_4 rfl rfl ?_
    refine g_aload_n F 0 dX1_locosIn_5 rfl rfl ?_
    refine gf_0_3 F hk mFL_X1_29 dX1_locosIn_6 ?_
    refine g_icmp_ge F 34 dX1_locosIn_9 (by decide) (fun c_9 => ?_) (fun c_9 => ?_)
    · have n_9 := nx_get (a := j) (b := n) ej R.cnt (by omega) (by omega) c_9
      refine g_iload_n F 2 dX1_locosIn_34 rfl rfl ?_
      refine g_iret F hr hlk rfl dX1_locosIn_35 ?_
      exact ⟨by rw [ec, show j = n by omega], rfl⟩
    · have n_9 := nx_gef (a := j) (b := n) ej R.cnt (by omega) (by omega) c_9
      have hi7 : 8 * k + pm k j < 88 := inL7 hk (R.p8 (by omega))
      have eb : I 7 (8 * k + pm k j) 3 = σ (16 + 11 * j + 3) := R.lc (f := 3) (by omega) (by decide)
      refine g_aload_n F 0 dX1_locosIn_12 rfl rfl ?_
      refine gf_0_0 F hk mFL_X1_11 dX1_locosIn_13 ?_
      refine g_iload_n F 3 dX1_locosIn_16 rfl rfl ?_
      refine ga_1 (j := j) F hk ej (by omega) dX1_locosIn_17 ?_
      refine g_callIv (na := 0) F 7 _ (c_X2_blockNumber hj hi7) hi7 rfl rfl lk_X1_87 rfl rfl (by decide +kernel) ⟨rfl, rfl, Nat.le_of_ble_eq_true rfl, Nat.le_of_ble_eq_true rfl, Nat.le_of_ble_eq_true rfl, Nat.le_of_ble_eq_true rfl, Nat.le_of_ble_eq_true rfl⟩ dX1_locosIn_18 (fun r_18 u_18 h_18 => ?_)
      obtain ⟨rfl, rfl⟩ := h_18
      try dsimp only
      refine g_iload_n F 1 dX1_locosIn_21 rfl rfl ?_
      refine g_icmp_ne F 28 dX1_locosIn_22 (by decide) (fun c_22 => ?_) (fun c_22 => ?_)
      · have c22 : ¬ σ (16 + 11 * j + 3) / 100 = x := fun e => c_22 (by rw [eb, e])
        refine g_iincC (q := 1) (L' := [(3, _), (0, _), (1, _), (2, _)]) F 3 dX1_locosIn_28 (by decide) rfl (by decide) rfl ?_
        refine g_goto F 4 dX1_locosIn_31 (by decide) ?_
        refine g_sub [1, 2, 3, 0] rfl ?_
        first
        | exact ih (by omega) _ _ (nx_add ej rfl) (by rw [lcS, if_pos c22, ec])
        | exact ih (by omega) _ _ (nx_add ej rfl) (by rw [lcS, if_neg c22, ec])
      · have c22 : σ (16 + 11 * j + 3) / 100 = x := by rw [← eb]; exact c_22
        refine g_iincC (q := 1) (L' := [(2, _), (0, _), (1, _), (3, _)]) F 2 dX1_locosIn_25 (by decide) rfl (by decide) rfl ?_
        refine g_iincC (q := 1) (L' := [(3, _), (2, _), (0, _), (1, _)]) F 3 dX1_locosIn_28 (by decide) rfl (by decide) rfl ?_
        refine g_goto F 4 dX1_locosIn_31 (by decide) ?_
        refine g_sub [2, 3, 1, 0] rfl ?_
        first
        | exact ih (by omega) _ _ (nx_add ej rfl) (by rw [lcS, if_pos c22, ec])
        | exact ih (by omega) _ _ (nx_add ej rfl) (by rw [lcS, if_neg c22, ec])
  refine g_iconst (v := 0) F dX1_locosIn_0 (by decide) ?_
  refine g_istore_n (L' := [(2, _), (0, _), (1, _)]) F dX1_locosIn_1 rfl (by decide) rfl ?_
  refine g_iconst (v := 0) F dX1_locosIn_2 (by decide) ?_
  refine g_istore_n (L' := [(3, _), (2, _), (0, _), (1, _)]) F dX1_locosIn_3 rfl (by decide) rfl ?_
  refine g_sub [2, 3, 1, 0] rfl ?_
  exact LOOP 0 (Nat.zero_le _) _ _ rfl rfl
set_option maxHeartbeats 4000000 in
set_option maxRecDepth 100000 in
theorem c_X1_blocksWithShort {l : Launch} {G : Gm} (hj : Aj G) {I : Ii} {pm : Pm} {k : Nat} (hk : k < 11) {n h : Nat} {σ : Sg} (R : Rp n h I pm k σ) : CI l G yX1_blocksWithShort (wz yX1_blocksWithShort cX1_blocksWithShort 3 (some .int)) (rmL 0) [.ref (G.2.2 0 k)] I pm (fun r u => r = bwS σ 8 ∧ u = (I, pm)) := by
  refine CI.walk hj (by decide +kernel) (by show _ ≤ 3; exact Nat.le_of_ble_eq_true rfl) ?_
  intro p e s m args below meth c F hr hlk
  have LOOP : ∀ j, j ≤ 8 → ∀ (xc xj : Int32), xj = nI j → xc = bwS σ j → GG p l e (rmL 0) s m args below meth c G (AA G) 3 0 0 (MQ below (va_Qi (fun (r : Int32) (u : Ii × Pm) => r = bwS σ 8 ∧ u = (I, pm)) (fun (u : Ii × Pm) t => Wd G u.1 u.2 t.heap) (AA G)) args s 0 0 (AA G)) I pm [(0, .ref (G.2.2 0 k)), (1, .int xc), (2, .int xj)] 4 [] := by
    refine dn_ind ?_
    intro j hjl ih xc xj ej ec
    refine g_iload_n F 2 dX1_blocksWithShort_4 rfl rfl ?_
    refine g_bipush (v := 8) F dX1_blocksWithShort_5 (by decide) ?_
    refine g_icmp_ge F 28 dX1_blocksWithShort_7 (by decide) (fun c_7 => ?_) (fun c_7 => ?_)
    · have n_7 := nx_get (a := j) (b := 8) ej rfl (by omega) (by omega) c_7
      refine g_iload_n F 1 dX1_blocksWithShort_28 rfl rfl ?_
      refine g_iret F hr hlk rfl dX1_blocksWithShort_29 ?_
      exact ⟨by rw [ec, show j = 8 by omega], rfl⟩
    · have n_7 := nx_gef (a := j) (b := 8) ej rfl (by omega) (by omega) c_7
      have eb : I 6 k j = σ (8 + j) := R.sh (by omega)
      refine g_aload_n F 0 dX1_blocksWithShort_10 rfl rfl ?_
      refine gf_0_2 F hk mFL_X1_24 dX1_blocksWithShort_11 ?_
      refine g_iload_n F 2 dX1_blocksWithShort_14 rfl rfl ?_
      refine ga_6 (j := j) F hk ej (by omega) dX1_blocksWithShort_15 ?_
      refine g_if_le F 22 dX1_blocksWithShort_16 (by decide) (fun c_16 => ?_) (fun c_16 => ?_)
      · have c22 : ¬ 0 < σ (8 + j) := by rw [← eb]; exact Int32.not_lt.mpr c_16
        refine g_iincC (q := 1) (L' := [(2, _), (0, _), (1, _)]) F 2 dX1_blocksWithShort_22 (by decide) rfl (by decide) rfl ?_
        refine g_goto F 4 dX1_blocksWithShort_25 (by decide) ?_
        refine g_sub [1, 2, 0] rfl ?_
        first
        | exact ih (by omega) _ _ (nx_add ej rfl) (by rw [bwS, if_pos c22, ec])
        | exact ih (by omega) _ _ (nx_add ej rfl) (by rw [bwS, if_neg c22, ec])
      · have c22 : 0 < σ (8 + j) := by rw [← eb]; exact Int32.not_le.mp c_16
        refine g_iincC (q := 1) (L' := [(1, _), (0, _), (2, _)]) F 1 dX1_blocksWithShort_19 (by decide) rfl (by decide) rfl ?_
        refine g_iincC (q := 1) (L' := [(2, _), (1, _), (0, _)]) F 2 dX1_blocksWithShort_22 (by decide) rfl (by decide) rfl ?_
        refine g_goto F 4 dX1_blocksWithShort_25 (by decide) ?_
        refine g_sub [2, 1, 0] rfl ?_
        first
        | exact ih (by omega) _ _ (nx_add ej rfl) (by rw [bwS, if_pos c22, ec])
        | exact ih (by omega) _ _ (nx_add ej rfl) (by rw [bwS, if_neg c22, ec])
  refine g_iconst (v := 0) F dX1_blocksWithShort_0 (by decide) ?_
  refine g_istore_n (L' := [(1, _), (0, _)]) F dX1_blocksWithShort_1 rfl (by decide) rfl ?_
  refine g_iconst (v := 0) F dX1_blocksWithShort_2 (by decide) ?_
  refine g_istore_n (L' := [(2, _), (1, _), (0, _)]) F dX1_blocksWithShort_3 rfl (by decide) rfl ?_
  refine g_sub [2, 1, 0] rfl ?_
  exact LOOP 0 (Nat.zero_le _) _ _ rfl rfl
set_option maxHeartbeats 4000000 in
set_option maxRecDepth 100000 in
theorem c_X1_crowdedBlocks {l : Launch} {G : Gm} (hj : Aj G) {I : Ii} {pm : Pm} {k : Nat} (hk : k < 11) {n h : Nat} {σ : Sg} (R : Rp n h I pm k σ) : CI l G yX1_crowdedBlocks (wz yX1_crowdedBlocks cX1_crowdedBlocks 3 (some .int)) (rmL 2) [.ref (G.2.2 0 k)] I pm (fun r u => r = cbS σ n 8 ∧ u = (I, pm)) := by
  refine CI.walk hj (by decide +kernel) (by show _ ≤ 3; exact Nat.le_of_ble_eq_true rfl) ?_
  intro p e s m args below meth c F hr hlk
  have LOOP : ∀ j, j ≤ 8 → ∀ (xc xj : Int32), xj = nI j → xc = cbS σ n j → GG p l e (rmL 2) s m args below meth c G (AA G) 3 0 0 (MQ below (va_Qi (fun (r : Int32) (u : Ii × Pm) => r = cbS σ n 8 ∧ u = (I, pm)) (fun (u : Ii × Pm) t => Wd G u.1 u.2 t.heap) (AA G)) args s 0 0 (AA G)) I pm [(0, .ref (G.2.2 0 k)), (1, .int xc), (2, .int xj)] 4 [] := by
    refine dn_ind ?_
    intro j hjl ih xc xj ej ec
    refine g_iload_n F 2 dX1_crowdedBlocks_4 rfl rfl ?_
    refine g_bipush (v := 8) F dX1_crowdedBlocks_5 (by decide) ?_
    refine g_icmp_ge F 28 dX1_crowdedBlocks_7 (by decide) (fun c_7 => ?_) (fun c_7 => ?_)
    · have n_7 := nx_get (a := j) (b := 8) ej rfl (by omega) (by omega) c_7
      refine g_iload_n F 1 dX1_crowdedBlocks_28 rfl rfl ?_
      refine g_iret F hr hlk rfl dX1_crowdedBlocks_29 ?_
      exact ⟨by rw [ec, show j = 8 by omega], rfl⟩
    · have n_7 := nx_gef (a := j) (b := 8) ej rfl (by omega) (by omega) c_7
      refine g_aload_n F 0 dX1_crowdedBlocks_10 rfl rfl ?_
      refine g_iload_n F 2 dX1_crowdedBlocks_11 rfl rfl ?_
      refine g_callIv (na := 1) F 0 _ (c_X1_locosIn hj hk R) hk rfl rfl lk_X1_136 rfl rfl (by decide +kernel) ⟨rfl, rfl, Nat.le_of_ble_eq_true rfl, Nat.le_of_ble_eq_true rfl, Nat.le_of_ble_eq_true rfl, Nat.le_of_ble_eq_true rfl, Nat.le_of_ble_eq_true rfl⟩ dX1_crowdedBlocks_12 (fun r_12 u_12 h_12 => ?_)
      obtain ⟨rfl, rfl⟩ := h_12
      try dsimp only
      refine g_iconst (v := 1) F dX1_crowdedBlocks_15 (by decide) ?_
      refine g_icmp_le F 22 dX1_crowdedBlocks_16 (by decide) (fun c_16 => ?_) (fun c_16 => ?_)
      · have c22 : ¬ 1 < lcS σ (nI j) n := by rw [← ej]; exact Int32.not_lt.mpr c_16
        refine g_iincC (q := 1) (L' := [(2, _), (0, _), (1, _)]) F 2 dX1_crowdedBlocks_22 (by decide) rfl (by decide) rfl ?_
        refine g_goto F 4 dX1_crowdedBlocks_25 (by decide) ?_
        refine g_sub [1, 2, 0] rfl ?_
        first
        | exact ih (by omega) _ _ (nx_add ej rfl) (by rw [cbS, if_pos c22, ec])
        | exact ih (by omega) _ _ (nx_add ej rfl) (by rw [cbS, if_neg c22, ec])
      · have c22 : 1 < lcS σ (nI j) n := by rw [← ej]; exact Int32.not_le.mp c_16
        refine g_iincC (q := 1) (L' := [(1, _), (0, _), (2, _)]) F 1 dX1_crowdedBlocks_19 (by decide) rfl (by decide) rfl ?_
        refine g_iincC (q := 1) (L' := [(2, _), (1, _), (0, _)]) F 2 dX1_crowdedBlocks_22 (by decide) rfl (by decide) rfl ?_
        refine g_goto F 4 dX1_crowdedBlocks_25 (by decide) ?_
        refine g_sub [2, 1, 0] rfl ?_
        first
        | exact ih (by omega) _ _ (nx_add ej rfl) (by rw [cbS, if_pos c22, ec])
        | exact ih (by omega) _ _ (nx_add ej rfl) (by rw [cbS, if_neg c22, ec])
  refine g_iconst (v := 0) F dX1_crowdedBlocks_0 (by decide) ?_
  refine g_istore_n (L' := [(1, _), (0, _)]) F dX1_crowdedBlocks_1 rfl (by decide) rfl ?_
  refine g_iconst (v := 0) F dX1_crowdedBlocks_2 (by decide) ?_
  refine g_istore_n (L' := [(2, _), (1, _), (0, _)]) F dX1_crowdedBlocks_3 rfl (by decide) rfl ?_
  refine g_sub [2, 1, 0] rfl ?_
  exact LOOP 0 (Nat.zero_le _) _ _ rfl rfl
set_option maxHeartbeats 4000000 in
set_option maxRecDepth 100000 in
theorem c_X1_speedSum {l : Launch} {G : Gm} (hj : Aj G) {I : Ii} {pm : Pm} {k : Nat} (hk : k < 11) {n h : Nat} {σ : Sg} (R : Rp n h I pm k σ) : CI l G yX1_speedSum (wz yX1_speedSum cX1_speedSum 3 (some .int)) (rmL 0) [.ref (G.2.2 0 k)] I pm (fun r u => r = ssS σ n ∧ u = (I, pm)) := by
  refine CI.walk hj (by decide +kernel) (by show _ ≤ 3; exact Nat.le_of_ble_eq_true rfl) ?_
  intro p e s m args below meth c F hr hlk
  have hn8 := R.n8
  have LOOP : ∀ j, j ≤ n → ∀ (xc xj : Int32), xj = nI j → xc = ssS σ j → GG p l e (rmL 0) s m args below meth c G (AA G) 3 0 0 (MQ below (va_Qi (fun (r : Int32) (u : Ii × Pm) => r = ssS σ n ∧ u = (I, pm)) (fun (u : Ii × Pm) t => Wd G u.1 u.2 t.heap) (AA G)) args s 0 0 (AA G)) I pm [(0, .ref (G.2.2 0 k)), (1, .int xc), (2, .int xj)] 4 [] := by
    refine dn_ind ?_
    intro j hjl ih xc xj ej ec
    refine g_iload_n F 2 dX1_speedSum_4 rfl rfl ?_
    refine g_aload_n F 0 dX1_speedSum_5 rfl rfl ?_
    refine gf_0_3 F hk mFL_X1_29 dX1_speedSum_6 ?_
    refine g_icmp_ge F 30 dX1_speedSum_9 (by decide) (fun c_9 => ?_) (fun c_9 => ?_)
    · have n_9 := nx_get (a := j) (b := n) ej R.cnt (by omega) (by omega) c_9
      refine g_iload_n F 1 dX1_speedSum_30 rfl rfl ?_
      refine g_iret F hr hlk rfl dX1_speedSum_31 ?_
      exact ⟨by rw [ec, show j = n by omega], rfl⟩
    · have n_9 := nx_gef (a := j) (b := n) ej R.cnt (by omega) (by omega) c_9
      have hi7 : 8 * k + pm k j < 88 := inL7 hk (R.p8 (by omega))
      have eb : I 7 (8 * k + pm k j) 5 = σ (16 + 11 * j + 5) := R.lc (f := 5) (by omega) (by decide)
      refine g_iload_n F 1 dX1_speedSum_12 rfl rfl ?_
      refine g_aload_n F 0 dX1_speedSum_13 rfl rfl ?_
      refine gf_0_0 F hk mFL_X1_11 dX1_speedSum_14 ?_
      refine g_iload_n F 2 dX1_speedSum_17 rfl rfl ?_
      refine ga_1 (j := j) F hk ej (by omega) dX1_speedSum_18 ?_
      refine gf_7_5 F hi7 mFL_X1_105 dX1_speedSum_19 ?_
      refine g_iadd F dX1_speedSum_22 ?_
      refine g_topi (fun x1_23 ex1_23 => ?_)
      refine g_istore_n (L' := [(1, _), (0, _), (2, _)]) F dX1_speedSum_23 rfl (by decide) rfl ?_
      refine g_iincC (q := 1) (L' := [(2, _), (1, _), (0, _)]) F 2 dX1_speedSum_24 (by decide) rfl (by decide) rfl ?_
      refine g_goto F 4 dX1_speedSum_27 (by decide) ?_
      refine g_sub [2, 1, 0] rfl ?_
      exact ih (by omega) _ _ (nx_add ej rfl) (by rw [ex1_23, ec, eb]; rfl)
  refine g_iconst (v := 0) F dX1_speedSum_0 (by decide) ?_
  refine g_istore_n (L' := [(1, _), (0, _)]) F dX1_speedSum_1 rfl (by decide) rfl ?_
  refine g_iconst (v := 0) F dX1_speedSum_2 (by decide) ?_
  refine g_istore_n (L' := [(2, _), (1, _), (0, _)]) F dX1_speedSum_3 rfl (by decide) rfl ?_
  refine g_sub [2, 1, 0] rfl ?_
  exact LOOP 0 (Nat.zero_le _) _ _ rfl rfl
set_option maxHeartbeats 4000000 in
set_option maxRecDepth 100000 in
theorem c_X1_rankOf {l : Launch} {G : Gm} (hj : Aj G) {I : Ii} {pm : Pm} {k : Nat} (hk : k < 11) {n h : Nat} {σ : Sg} (R : Rp n h I pm k σ) {x : Int32} : CI l G yX1_rankOf (wz yX1_rankOf cX1_rankOf 3 (some .int)) (rmL 0) [.ref (G.2.2 0 k), .int x] I pm (fun r u => r = nI (rkS σ x n) ∧ u = (I, pm)) := by
  refine CI.walk hj (by decide +kernel) (by show _ ≤ 3; exact Nat.le_of_ble_eq_true rfl) ?_
  intro p e s m args below meth c F hr hlk
  have hn8 := R.n8
  have LOOP : ∀ j, j ≤ n → (∀ r, r < j → ¬ σ (16 + 11 * r) = x) → ∀ (xj : Int32), xj = nI j → GG p l e (rmL 0) s m args below meth c G (AA G) 3 0 0 (MQ below (va_Qi (fun (r : Int32) (u : Ii × Pm) => r = nI (rkS σ x n) ∧ u = (I, pm)) (fun (u : Ii × Pm) t => Wd G u.1 u.2 t.heap) (AA G)) args s 0 0 (AA G)) I pm [(0, .ref (G.2.2 0 k)), (1, .int x), (2, .int xj)] 2 [] := by
    refine dn_ind ?_
    intro j hjl ih hno xj ej
    refine g_iload_n F 2 dX1_rankOf_2 rfl rfl ?_
    refine g_aload_n F 0 dX1_rankOf_3 rfl rfl ?_
    refine gf_0_3 F hk mFL_X1_29 dX1_rankOf_4 ?_
    refine g_icmp_ge F 29 dX1_rankOf_7 (by decide) (fun c_7 => ?_) (fun c_7 => ?_)
    · have n_7 := nx_get (a := j) (b := n) ej R.cnt (by omega) (by omega) c_7
      refine g_iload_n F 2 dX1_rankOf_29 rfl rfl ?_
      refine g_iret F hr hlk rfl dX1_rankOf_30 ?_
      first
      | exact ⟨by rw [ej, rk_some hno (by rw [← eb]; exact c_20) n (by omega)], rfl⟩
      | exact ⟨by rw [ej, show n = j by omega, rk_none j hno], rfl⟩
    · have n_7 := nx_gef (a := j) (b := n) ej R.cnt (by omega) (by omega) c_7
      have hi7 : 8 * k + pm k j < 88 := inL7 hk (R.p8 (by omega))
      have eb : I 7 (8 * k + pm k j) 0 = σ (16 + 11 * j) := R.lc (f := 0) (by omega) (by decide)
      refine g_aload_n F 0 dX1_rankOf_10 rfl rfl ?_
      refine gf_0_0 F hk mFL_X1_11 dX1_rankOf_11 ?_
      refine g_iload_n F 2 dX1_rankOf_14 rfl rfl ?_
      refine ga_1 (j := j) F hk ej (by omega) dX1_rankOf_15 ?_
      refine gf_7_0 F hi7 mFL_X1_76 dX1_rankOf_16 ?_
      refine g_iload_n F 1 dX1_rankOf_19 rfl rfl ?_
      refine g_icmp_eq F 29 dX1_rankOf_20 (by decide) (fun c_20 => ?_) (fun c_20 => ?_)
      · refine g_iload_n F 2 dX1_rankOf_29 rfl rfl ?_
        refine g_iret F hr hlk rfl dX1_rankOf_30 ?_
        first
        | exact ⟨by rw [ej, rk_some hno (by rw [← eb]; exact c_20) n (by omega)], rfl⟩
        | exact ⟨by rw [ej, show n = j by omega, rk_none j hno], rfl⟩
      · refine g_iincC (q := 1) (L' := [(2, _), (0, _), (1, _)]) F 2 dX1_rankOf_23 (by decide) rfl (by decide) rfl ?_
        refine g_goto F 2 dX1_rankOf_26 (by decide) ?_
        refine g_sub [1, 2, 0] rfl ?_
        exact ih (by omega) (fun r hr => by
          by_cases e : r = j
          · rw [e, ← eb]; exact c_20
          · exact hno r (by omega)) _ (nx_add ej rfl)
  refine g_iconst (v := 0) F dX1_rankOf_0 (by decide) ?_
  refine g_istore_n (L' := [(2, _), (0, _), (1, _)]) F dX1_rankOf_1 rfl (by decide) rfl ?_
  refine g_sub [1, 2, 0] rfl ?_
  exact LOOP 0 (Nat.zero_le _) (fun r hr => absurd hr (by omega)) _ rfl
set_option maxHeartbeats 4000000 in
set_option maxRecDepth 100000 in
theorem c_X1_locoAt {l : Launch} {G : Gm} (hj : Aj G) {I : Ii} {pm : Pm} {k : Nat} (hk : k < 11) {n h : Nat} {σ : Sg} (R : Rp n h I pm k σ) {x : Int32} : CQ l G yX1_locoAt (wz yX1_locoAt cX1_locoAt 2 (some (.object "LocoFrames$Loco"))) (rmL 1) [.ref (G.2.2 0 k), .int x] I pm (fun r u => (¬ (0 ≤ x ∧ x ≤ nI n - 1) ∧ r = none ∧ u = (I, pm)) ∨ ((0 ≤ x ∧ x ≤ nI n - 1) ∧ r = some (G.2.2 7 (8 * k + pm k x.toInt.toNat)) ∧ u = (I, pm))) := by
  have hn8 := R.n8
  refine CQ.walk hj (by decide +kernel) (by show _ ≤ 2; exact Nat.le_of_ble_eq_true rfl) ?_
  intro p e s m args below meth c F hr hlk
  refine g_iload_n F 1 dX1_locoAt_0 rfl rfl ?_
  refine g_iconst (v := 0) F dX1_locoAt_1 (by decide) ?_
  refine g_aload_n F 0 dX1_locoAt_2 rfl rfl ?_
  refine gf_0_3 F hk mFL_X1_29 dX1_locoAt_3 ?_
  refine g_iconst (v := 1) F dX1_locoAt_6 (by decide) ?_
  refine g_isub F dX1_locoAt_7 ?_
  refine g_callIn (na := 3) F (c_X5_within hj) (gw mCO_yX5_within) F.2.2.1.1 mST_yX5_within mIN_RX5 rfl rfl (by decide +kernel) ⟨rfl, rfl, Nat.le_of_ble_eq_true rfl, Nat.le_of_ble_eq_true rfl, Nat.le_of_ble_eq_true rfl, Nat.le_of_ble_eq_true rfl, Nat.le_of_ble_eq_true rfl⟩ dX1_locoAt_8 (fun r_8 u_8 h_8 => ?_)
  obtain ⟨rfl, rfl⟩ := h_8
  try dsimp only
  refine g_if_eq F 23 dX1_locoAt_11 (by decide) (fun c_11 => ?_) (fun c_11 => ?_)
  · have N1 := bz_0.mp c_11
    rw [R.cnt] at N1
    refine g_null F dX1_locoAt_23 ?_
    refine g_aret F (r := none) rfl hr hlk dX1_locoAt_24 ?_
    exact Or.inl ⟨N1, rfl, rfl⟩
  · have P1 := bz_n.mp c_11
    rw [R.cnt] at P1
    obtain ⟨q, hq, eq⟩ := (lq_n hn8).mp P1
    have hxq : x.toInt.toNat = q := by rw [eq, nI_toInt (by omega)]; rfl
    have ex : x = nI x.toInt.toNat := by rw [hxq]; exact eq
    refine g_aload_n F 0 dX1_locoAt_14 rfl rfl ?_
    refine gf_0_0 F hk mFL_X1_11 dX1_locoAt_15 ?_
    refine g_iload_n F 1 dX1_locoAt_18 rfl rfl ?_
    refine ga_1 (j := x.toInt.toNat) F hk ex (by omega) dX1_locoAt_19 ?_
    refine g_goto F 24 dX1_locoAt_20 (by decide) ?_
    refine g_aret F (r := some _) rfl hr hlk dX1_locoAt_24 ?_
    exact Or.inr ⟨P1, rfl, rfl⟩
set_option maxHeartbeats 4000000 in
set_option maxRecDepth 100000 in
theorem c_X1_locoWith {l : Launch} {G : Gm} (hj : Aj G) {I : Ii} {pm : Pm} {k : Nat} (hk : k < 11) {n h : Nat} {σ : Sg} (R : Rp n h I pm k σ) {x : Int32} : CQ l G yX1_locoWith (wz yX1_locoWith cX1_locoWith 2 (some (.object "LocoFrames$Loco"))) (rmL 2) [.ref (G.2.2 0 k), .int x] I pm (fun r u => r = LQ G pm k n σ x ∧ u = (I, pm)) := by
  have hn8 := R.n8
  have hle := rk_le σ x n
  refine CQ.walk hj (by decide +kernel) (by show _ ≤ 2; exact Nat.le_of_ble_eq_true rfl) ?_
  intro p e s m args below meth c F hr hlk
  refine g_aload_n F 0 dX1_locoWith_0 rfl rfl ?_
  refine g_aload_n F 0 dX1_locoWith_1 rfl rfl ?_
  refine g_iload_n F 1 dX1_locoWith_2 rfl rfl ?_
  refine g_callIv (na := 1) F 0 _ (c_X1_rankOf hj hk R) hk rfl rfl lk_X1_68 rfl rfl (by decide +kernel) ⟨rfl, rfl, Nat.le_of_ble_eq_true rfl, Nat.le_of_ble_eq_true rfl, Nat.le_of_ble_eq_true rfl, Nat.le_of_ble_eq_true rfl, Nat.le_of_ble_eq_true rfl⟩ dX1_locoWith_3 (fun r_3 u_3 h_3 => ?_)
  obtain ⟨rfl, rfl⟩ := h_3
  try dsimp only
  refine g_callQv (na := 1) F 0 _ (c_X1_locoAt hj hk R) hk rfl rfl lk_X1_72 rfl rfl (by decide +kernel) ⟨rfl, rfl, Nat.le_of_ble_eq_true rfl, Nat.le_of_ble_eq_true rfl, Nat.le_of_ble_eq_true rfl, Nat.le_of_ble_eq_true rfl, Nat.le_of_ble_eq_true rfl⟩ dX1_locoWith_6 (fun r_6 u_6 h_6 => ?_)
  rcases h_6 with ⟨hq, rfl, rfl⟩ | ⟨hq, rfl, rfl⟩
  · try dsimp only
    refine g_aret F (r := none) rfl hr hlk dX1_locoWith_9 ?_
    refine ⟨?_, rfl⟩
    unfold LQ
    rw [if_neg (fun hlt => hq ((lq_n hn8).mpr ⟨_, hlt, rfl⟩))]
  · try dsimp only
    refine g_aret F (r := some _) rfl hr hlk dX1_locoWith_9 ?_
    refine ⟨?_, rfl⟩
    obtain ⟨q, hlt, eq⟩ := (lq_n hn8).mp hq
    have e1 : rkS σ x n = q := (nI_eq (by omega) (by omega)).mp eq
    unfold LQ
    rw [nI_toInt (by omega), if_pos (by omega)]
    rfl
set_option maxHeartbeats 4000000 in
set_option maxRecDepth 100000 in
theorem c_X1_changeNoise {l : Launch} {G : Gm} (hj : Aj G) {I : Ii} {pm : Pm} {k : Nat} (hk : k < 11) {n h : Nat} {σ : Sg} (R : Rp n h I pm k σ) {x : Int32} : CI l G yX1_changeNoise (wz yX1_changeNoise cX1_changeNoise 3 (some .int)) (rmL 1) [.ref (G.2.2 0 k), .int x] I pm (fun r u => (¬ (0 ≤ x ∧ x ≤ 9) ∧ r = -2 ∧ u = (I, pm)) ∨ ((0 ≤ x ∧ x ≤ 9) ∧ r = σ 1 ∧ Rp n h u.1 u.2 k (upd σ 1 x) ∧ Fr k I pm u.1 u.2)) := by
  refine CI.walk hj (by decide +kernel) (by show _ ≤ 3; exact Nat.le_of_ble_eq_true rfl) ?_
  intro p e s m args below meth c F hr hlk
  refine g_iload_n F 1 dX1_changeNoise_0 rfl rfl ?_
  refine g_iconst (v := 0) F dX1_changeNoise_1 (by decide) ?_
  refine g_bipush (v := 9) F dX1_changeNoise_2 (by decide) ?_
  refine g_callIn (na := 3) F (c_X5_within hj) (gw mCO_yX5_within) F.2.2.1.1 mST_yX5_within mIN_RX5 rfl rfl (by decide +kernel) ⟨rfl, rfl, Nat.le_of_ble_eq_true rfl, Nat.le_of_ble_eq_true rfl, Nat.le_of_ble_eq_true rfl, Nat.le_of_ble_eq_true rfl, Nat.le_of_ble_eq_true rfl⟩ dX1_changeNoise_4 (fun r_4 u_4 h_4 => ?_)
  obtain ⟨rfl, rfl⟩ := h_4
  try dsimp only
  refine g_if_ne F 13 dX1_changeNoise_7 (by decide) (fun c_7 => ?_) (fun c_7 => ?_)
  · have P1 := bz_n.mp c_7
    refine g_aload_n F 0 dX1_changeNoise_13 rfl rfl ?_
    refine gf_0_5 F hk mFL_X1_49 dX1_changeNoise_14 ?_
    refine g_topi (fun x2_17 ex2_17 => ?_)
    refine g_istore_n (L' := [(2, _), (0, _), (1, _)]) F dX1_changeNoise_17 rfl (by decide) rfl ?_
    refine g_aload_n F 1 dX1_changeNoise_18 rfl rfl ?_
    refine g_iload_n F 2 dX1_changeNoise_19 rfl rfl ?_
    refine gp_0_5 F hk mFL_X1_49 dX1_changeNoise_20 ?_
    refine g_iload_n F 0 dX1_changeNoise_23 rfl rfl ?_
    refine g_iret F hr hlk rfl dX1_changeNoise_24 ?_
    refine Or.inr ⟨P1, ex2_17.trans R.1.2.2.1, ?_, Fr.up (inL_0 (by decide))⟩
    exact R.num (fun K i j hK => up3_k hK) (fun i hi => upd_n (by omega)) (by simp [up3, upd]; exact R.1.1) (by simp [up3, upd]; exact R.1.2.1) (by simp [up3, upd]) (by simp [up3, upd]; exact R.1.2.2.2.1) (by simp [up3, upd]; exact R.1.2.2.2.2.1) (by simp [up3, upd]; exact R.1.2.2.2.2.2.1) (by simp [up3, upd]; exact R.1.2.2.2.2.2.2.1)
  · have N1 := bz_0.mp c_7
    refine g_bipush (v := -2) F dX1_changeNoise_10 (by decide) ?_
    refine g_iret F hr hlk rfl dX1_changeNoise_12 ?_
    exact Or.inl ⟨N1, rfl, rfl⟩
theorem Rp.short {n h : Nat} {I : Ii} {pm : Pm} {k : Nat} {σ : Sg} (R : Rp n h I pm k σ) {b : Nat} (hb : b < 8) (v : Int32) : Rp n h (up3 I 6 k b v) pm k (upd σ (8 + b) v) := by
  obtain ⟨⟨a1, a2, a3, a4, a5, a6, a7, a8⟩, b0, c, d, e1, e2, e3, e4, e5, e6⟩ := R
  have n0 : ∀ i, i < 8 → upd σ (8 + b) v i = σ i := fun i hi => upd_n (by omega)
  have n1 : ∀ i, 16 ≤ i → upd σ (8 + b) v i = σ i := fun i hi => upd_n (by omega)
  have u0 : ∀ K i j, K ≠ 6 → up3 I 6 k b v K i j = I K i j := fun K i j hK => up3_k hK
  refine ⟨⟨?_, ?_, ?_, ?_, ?_, ?_, ?_, ?_⟩, fun b' hb' => ?_, fun r' f' hr' hf' => ?_, fun j hj => ?_, e1, e2, by rw [n0 6 (by omega)]; exact e3, e4, by rw [n0 7 (by omega)]; exact e5, e6⟩
  · rw [u0 _ _ _ (by decide), n0 _ (by omega)]; exact a1
  · rw [u0 _ _ _ (by decide), n0 _ (by omega)]; exact a2
  · rw [u0 _ _ _ (by decide), n0 _ (by omega)]; exact a3
  · rw [u0 _ _ _ (by decide), u0 _ _ _ (by decide), n0 _ (by omega)]; exact a4
  · rw [u0 _ _ _ (by decide), n0 _ (by omega)]; exact a5
  · rw [u0 _ _ _ (by decide), n0 _ (by omega)]; exact a6
  · rw [u0 _ _ _ (by decide), n0 _ (by omega)]; exact a7
  · rw [u0 _ _ _ (by decide), n0 _ (by omega)]; exact a8
  · by_cases hq : b' = b
    · subst hq
      rw [up3_s, upd_s]
    · rw [up3_n (fun e => hq e.2.2), upd_n (by omega)]
      exact b0 b' hb'
  · rw [u0 _ _ _ (by decide), n1 _ (by omega)]; exact c r' f' hr' hf'
  · rw [u0 _ _ _ (by decide), u0 _ _ _ (by decide), u0 _ _ _ (by decide), n1 _ (by omega), n1 _ (by omega), n1 _ (by omega)]; exact d j hj
set_option maxHeartbeats 4000000 in
set_option maxRecDepth 100000 in
theorem c_X1_changeShort {l : Launch} {G : Gm} (hj : Aj G) {I : Ii} {pm : Pm} {k : Nat} (hk : k < 11) {n h : Nat} {σ : Sg} (R : Rp n h I pm k σ) {x y : Int32} : CI l G yX1_changeShort (wz yX1_changeShort cX1_changeShort 4 (some .int)) (rmL 2) [.ref (G.2.2 0 k), .int x, .int y] I pm (fun r u => (¬ (0 ≤ x ∧ x ≤ 7) ∧ r = -1 ∧ u = (I, pm)) ∨ ((0 ≤ x ∧ x ≤ 7) ∧ ¬ (0 ≤ y ∧ y ≤ 99) ∧ r = -2 ∧ u = (I, pm)) ∨ ((0 ≤ x ∧ x ≤ 7) ∧ (0 ≤ y ∧ y ≤ 99) ∧ r = σ (8 + x.toInt.toNat) ∧ Rp n h u.1 u.2 k (upd σ (8 + x.toInt.toNat) y) ∧ Fr k I pm u.1 u.2)) := by
  refine CI.walk hj (by decide +kernel) (by show _ ≤ 4; exact Nat.le_of_ble_eq_true rfl) ?_
  intro p e s m args below meth c F hr hlk
  refine g_iload_n F 1 dX1_changeShort_0 rfl rfl ?_
  refine g_callIn (na := 1) F (c_X5_isBlock hj) (gw mCO_yX5_isBlock) F.2.2.1.2.2.1 mST_yX5_isBlock mIN_RX5 rfl rfl (by decide +kernel) ⟨rfl, rfl, Nat.le_of_ble_eq_true rfl, Nat.le_of_ble_eq_true rfl, Nat.le_of_ble_eq_true rfl, Nat.le_of_ble_eq_true rfl, Nat.le_of_ble_eq_true rfl⟩ dX1_changeShort_1 (fun r_1 u_1 h_1 => ?_)
  obtain ⟨rfl, rfl⟩ := h_1
  try dsimp only
  refine g_if_ne F 9 dX1_changeShort_4 (by decide) (fun c_4 => ?_) (fun c_4 => ?_)
  · have P1 := bz_n.mp c_4
    have ex := rng (m := 7) rfl P1.1 P1.2
    refine g_iload_n F 2 dX1_changeShort_9 rfl rfl ?_
    refine g_iconst (v := 0) F dX1_changeShort_10 (by decide) ?_
    refine g_bipush (v := 99) F dX1_changeShort_11 (by decide) ?_
    refine g_callIn (na := 3) F (c_X5_within hj) (gw mCO_yX5_within) F.2.2.1.1 mST_yX5_within mIN_RX5 rfl rfl (by decide +kernel) ⟨rfl, rfl, Nat.le_of_ble_eq_true rfl, Nat.le_of_ble_eq_true rfl, Nat.le_of_ble_eq_true rfl, Nat.le_of_ble_eq_true rfl, Nat.le_of_ble_eq_true rfl⟩ dX1_changeShort_13 (fun r_13 u_13 h_13 => ?_)
    obtain ⟨rfl, rfl⟩ := h_13
    try dsimp only
    refine g_if_ne F 22 dX1_changeShort_16 (by decide) (fun c_16 => ?_) (fun c_16 => ?_)
    · have P2 := bz_n.mp c_16
      refine g_aload_n F 0 dX1_changeShort_22 rfl rfl ?_
      refine gf_0_2 F hk mFL_X1_24 dX1_changeShort_23 ?_
      refine g_iload_n F 1 dX1_changeShort_26 rfl rfl ?_
      refine ga_6 (j := x.toInt.toNat) F hk ex.2 (by omega) dX1_changeShort_27 ?_
      refine g_topi (fun x3_28 ex3_28 => ?_)
      refine g_istore_n (L' := [(3, _), (0, _), (1, _), (2, _)]) F dX1_changeShort_28 rfl (by decide) rfl ?_
      refine g_aload_n F 1 dX1_changeShort_29 rfl rfl ?_
      refine gf_0_2 F hk mFL_X1_24 dX1_changeShort_30 ?_
      refine g_iload_n F 2 dX1_changeShort_33 rfl rfl ?_
      refine g_iload_n F 3 dX1_changeShort_34 rfl rfl ?_
      refine gs_6 (j := x.toInt.toNat) F hk ex.2 (by omega) dX1_changeShort_35 ?_
      refine g_iload_n F 0 dX1_changeShort_36 rfl rfl ?_
      refine g_iret F hr hlk rfl dX1_changeShort_37 ?_
      exact Or.inr (Or.inr ⟨P1, P2, ex3_28.trans (R.sh (by omega)), R.short (by omega) y, Fr.up (inL_0 (by decide))⟩)
    · have N2 := bz_0.mp c_16
      refine g_bipush (v := -2) F dX1_changeShort_19 (by decide) ?_
      refine g_iret F hr hlk rfl dX1_changeShort_21 ?_
      exact Or.inr (Or.inl ⟨P1, N2, rfl, rfl⟩)
  · have N1 := bz_0.mp c_4
    refine g_iconst (v := -1) F dX1_changeShort_7 (by decide) ?_
    refine g_iret F hr hlk rfl dX1_changeShort_8 ?_
    exact Or.inl ⟨N1, rfl, rfl⟩
end
section
/-! PART 15: a layout is copied; locos come and go -/
theorem inL_ne {k k2 K : Nat} (h : K ≤ 6) (hne : k2 ≠ k) : ¬ inL k K k2 := fun q => q.elim (fun e => hne e.2) (fun e => by omega)
theorem inL_ne7 {k k2 j : Nat} (hj : j < 8) (hne : k2 ≠ k) : ¬ inL k 7 (8 * k2 + j) := fun q => q.elim (fun e => by omega) (fun e => hne (by omega))
theorem Rp.keep {n h : Nat} {I I' : Ii} {pm pm' : Pm} {k k2 : Nat} {σ : Sg} (R : Rp n h I pm k2 σ) (F : Fr k I pm I' pm') (hne : k2 ≠ k) : Rp n h I' pm' k2 σ := by
  obtain ⟨⟨a1, a2, a3, a4, a5, a6, a7, a8⟩, b, c, d, e1, e2, e3, e4, e5, e6⟩ := R
  have u : ∀ K j, K ≤ 6 → I' K k2 j = I K k2 j := fun K j hK => F.1 K k2 j (inL_ne hK hne)
  have up : ∀ r, pm' k2 r = pm k2 r := fun r => F.2 k2 r hne
  refine ⟨⟨?_, ?_, ?_, ?_, ?_, ?_, ?_, ?_⟩, fun b' hb' => ?_, fun r' f' hr' hf' => ?_, fun j hj => ?_, fun r hr => by rw [up]; exact e1 r hr, fun r r' hr hr' hq => e2 r r' hr hr' (by rw [← up, ← up]; exact hq), e3, e4, e5, e6⟩
  · rw [u _ _ (by decide)]; exact a1
  · rw [u _ _ (by decide)]; exact a2
  · rw [u _ _ (by decide)]; exact a3
  · rw [u _ _ (by decide), u _ _ (by decide)]; exact a4
  · rw [u _ _ (by decide)]; exact a5
  · rw [u _ _ (by decide)]; exact a6
  · rw [u _ _ (by decide)]; exact a7
  · rw [u _ _ (by decide)]; exact a8
  · rw [u _ _ (by decide)]; exact b b' hb'
  · rw [up, F.1 _ _ _ (inL_ne7 (e1 r' (by omega)) hne)]
    exact c r' f' hr' hf'
  · rw [u _ _ (by decide), u _ _ (by decide), u _ _ (by decide)]; exact d j hj
/-- a row's places: the numbers 0 to 7, each once -/
def Pw (pm : Pm) (k : Nat) : Prop := (∀ r, r < 8 → pm k r < 8) ∧ ∀ r r', r < 8 → r' < 8 → pm k r = pm k r' → r = r'
theorem Rp.pw {n h : Nat} {I : Ii} {pm : Pm} {k : Nat} {σ : Sg} (R : Rp n h I pm k σ) : Pw pm k := ⟨R.2.2.2.2.1, R.2.2.2.2.2.1⟩
def lposS (σ : Sg) (a : Int32) : Nat → Nat
  | 0 => 0
  | j + 1 => if a < σ (16 + 11 * j) then lposS σ a j else j + 1
theorem lposS_le (σ : Sg) (a : Int32) : ∀ j, lposS σ a j ≤ j := by
  intro j
  induction j with
  | zero => exact Nat.le_refl _
  | succ j ih =>
    unfold lposS
    split
    · omega
    · exact Nat.le_refl _
def newF (a b c d : Int32) (f : Nat) : Int32 := if f = 0 then a else if f = 1 then b else if f = 2 then c else if f = 3 then d else if f = 7 then 1 else 0
def addS (n : Nat) (a b c d : Int32) (σ : Sg) : Sg := fun i => if i = 6 then nI (n + 1) else if 16 ≤ i ∧ i < 27 + 11 * n then (if (i - 16) / 11 < lposS σ a n then σ i else if (i - 16) / 11 = lposS σ a n then newF a b c d ((i - 16) % 11) else σ (i - 11)) else σ i
def lifS (n p : Nat) (σ : Sg) : Sg := fun i => if i = 6 then nI (n - 1) else if 16 + 11 * p ≤ i ∧ i < 16 + 11 * (n - 1) then σ (i + 11) else if 16 + 11 * (n - 1) ≤ i ∧ i < 16 + 11 * n then 0 else σ i
/-- which loco stands where, behind a coming and behind a going -/
def pmA (pm : Pm) (k n p : Nat) : Pm := fun k' r => if k' = k then (if r < p then pm k r else if r = p then pm k n else if r ≤ n then pm k (r - 1) else pm k r) else pm k' r
def pmL (pm : Pm) (k n p : Nat) : Pm := fun k' r => if k' = k then (if r < p then pm k r else if r + 1 < n then pm k (r + 1) else if r + 1 = n then pm k p else pm k r) else pm k' r
theorem Rp.locos {n h n' : Nat} {I I' : Ii} {pm pm' : Pm} {k : Nat} {σ σ' : Sg} (R : Rp n h I pm k σ) (hn : n' ≤ 8) (hw : Pw pm' k) (ho : ∀ K j, K ≤ 6 → ¬ (K = 0 ∧ j = 3) → I' K k j = I K k j) (hs : ∀ i, (i < 16 ∨ 104 ≤ i) → i ≠ 6 → σ' i = σ i) (s6 : σ' 6 = nI n') (h3 : I' 0 k 3 = nI n') (hr : ∀ r f, r < n' → f < 11 → I' 7 (8 * k + pm' k r) (fmS f) = σ' (16 + 11 * r + f)) : Rp n' h I' pm' k σ' := by
  obtain ⟨⟨a1, a2, a3, a4, a5, a6, a7, a8⟩, b, c, d, e1, e2, e3, e4, e5, e6⟩ := R
  refine ⟨⟨?_, ?_, ?_, ?_, ?_, ?_, ?_, ?_⟩, fun b' hb => ?_, hr, fun j hj => ?_, hw.1, hw.2, s6, hn, by rw [hs 7 (by decide) (by decide)]; exact e5, e6⟩
  · rw [h3, s6]
  · rw [ho _ _ (by decide) (by decide), hs _ (by decide) (by decide)]; exact a2
  · rw [ho _ _ (by decide) (by decide), hs _ (by decide) (by decide)]; exact a3
  · rw [ho _ _ (by decide) (by decide), ho _ _ (by decide) (by decide), hs _ (by decide) (by decide)]; exact a4
  · rw [ho _ _ (by decide) (by decide), hs _ (by decide) (by decide)]; exact a5
  · rw [ho _ _ (by decide) (by decide), hs _ (by decide) (by decide)]; exact a6
  · rw [ho _ _ (by decide) (by decide), hs _ (by decide) (by decide)]; exact a7
  · rw [ho _ _ (by decide) (by decide), hs _ (by decide) (by decide)]; exact a8
  · rw [ho _ _ (by decide) (by omega), hs _ (by omega) (by omega)]; exact b b' hb
  · rw [ho _ _ (by decide) (by omega), ho _ _ (by decide) (by omega), ho _ _ (by decide) (by omega), hs _ (by omega) (by omega), hs _ (by omega) (by omega), hs _ (by omega) (by omega)]; exact d j hj
theorem begin_at {I : Ii} {i : Nat} {a b c d : Int32} {f : Nat} (hf : f < 11) : beginI I i a b c d 7 i (fmS f) = newF a b c d f := by
  rcases (show f = 0 ∨ f = 1 ∨ f = 2 ∨ f = 3 ∨ f = 4 ∨ f = 5 ∨ f = 6 ∨ f = 7 ∨ f = 8 ∨ f = 9 ∨ f = 10 by omega) with rfl | rfl | rfl | rfl | rfl | rfl | rfl | rfl | rfl | rfl | rfl <;> simp [beginI, up3, newF, fmS]
theorem begin_out {I : Ii} {i : Nat} {a b c d : Int32} {K i' f : Nat} (h : ¬ (K = 7 ∧ i' = i)) : beginI I i a b c d K i' f = I K i' f := by
  unfold beginI
  iterate 11 rw [up3_n (fun e => h ⟨e.1, e.2.1⟩)]
theorem pwA {pm : Pm} {k n p : Nat} (h : Pw pm k) (hn : n < 8) (hp : p ≤ n) : Pw (pmA pm k n p) k := by
  have key : ∀ r, r < 8 → ∃ s, s < 8 ∧ pmA pm k n p k r = pm k s ∧ ((r < p ∧ s = r) ∨ (r = p ∧ s = n) ∨ (p < r ∧ r ≤ n ∧ s + 1 = r) ∨ (n < r ∧ s = r)) := by
    intro r hr
    unfold pmA
    rw [if_pos rfl]
    by_cases c1 : r < p
    · exact ⟨r, hr, by rw [if_pos c1], Or.inl ⟨c1, rfl⟩⟩
    · by_cases c2 : r = p
      · exact ⟨n, hn, by rw [if_neg c1, if_pos c2], Or.inr (Or.inl ⟨c2, rfl⟩)⟩
      · by_cases c3 : r ≤ n
        · exact ⟨r - 1, by omega, by rw [if_neg c1, if_neg c2, if_pos c3], Or.inr (Or.inr (Or.inl ⟨by omega, c3, by omega⟩))⟩
        · exact ⟨r, hr, by rw [if_neg c1, if_neg c2, if_neg c3], Or.inr (Or.inr (Or.inr ⟨by omega, rfl⟩))⟩
  refine ⟨fun r hr => ?_, fun r r' hr hr' e => ?_⟩
  · obtain ⟨s, hs, e, -⟩ := key r hr
    rw [e]; exact h.1 s hs
  · obtain ⟨s, hs, e1, h1⟩ := key r hr
    obtain ⟨s', hs', e2, h2⟩ := key r' hr'
    rw [e1, e2] at e
    have := h.2 s s' hs hs' e
    omega
theorem pwL {pm : Pm} {k n p : Nat} (h : Pw pm k) (hn : n ≤ 8) (hp : p < n) : Pw (pmL pm k n p) k := by
  have key : ∀ r, r < 8 → ∃ s, s < 8 ∧ pmL pm k n p k r = pm k s ∧ ((r < p ∧ s = r) ∨ (p ≤ r ∧ r + 1 < n ∧ s = r + 1) ∨ (r + 1 = n ∧ s = p) ∨ (n ≤ r ∧ s = r)) := by
    intro r hr
    unfold pmL
    rw [if_pos rfl]
    by_cases c1 : r < p
    · exact ⟨r, hr, by rw [if_pos c1], Or.inl ⟨c1, rfl⟩⟩
    · by_cases c2 : r + 1 < n
      · exact ⟨r + 1, by omega, by rw [if_neg c1, if_pos c2], Or.inr (Or.inl ⟨by omega, c2, rfl⟩)⟩
      · by_cases c3 : r + 1 = n
        · exact ⟨p, by omega, by rw [if_neg c1, if_neg c2, if_pos c3], Or.inr (Or.inr (Or.inl ⟨c3, rfl⟩))⟩
        · exact ⟨r, hr, by rw [if_neg c1, if_neg c2, if_neg c3], Or.inr (Or.inr (Or.inr ⟨by omega, rfl⟩))⟩
  refine ⟨fun r hr => ?_, fun r r' hr hr' e => ?_⟩
  · obtain ⟨s, hs, e, -⟩ := key r hr
    rw [e]; exact h.1 s hs
  · obtain ⟨s, hs, e1, h1⟩ := key r hr
    obtain ⟨s', hs', e2, h2⟩ := key r' hr'
    rw [e1, e2] at e
    have := h.2 s s' hs hs' e
    omega
theorem Rp.add {n h : Nat} {I I' : Ii} {pm pm' : Pm} {k : Nat} {σ : Sg} {a b c d : Int32} (R : Rp n h I pm k σ) (hn : n < 8) (hpm : ∀ r, r < 8 → pm' k r = pmA pm k n (lposS σ a n) k r) (hI : ∀ K i j, ¬ (K = 0 ∧ i = k ∧ j = 3) → I' K i j = beginI I (8 * k + pm k n) a b c d K i j) (h3 : I' 0 k 3 = nI (n + 1)) : Rp (n + 1) h I' pm' k (addS n a b c d σ) := by
  have hp := lposS_le σ a n
  have hw := pwA R.pw hn hp
  have hw' : Pw pm' k := ⟨fun r hr => by rw [hpm r hr]; exact hw.1 r hr, fun r r' hr hr' e => hw.2 r r' hr hr' (by rw [← hpm r hr, ← hpm r' hr']; exact e)⟩
  refine R.locos (by omega) hw' (fun K j hK hj => by rw [hI _ _ _ (fun e => hj ⟨e.1, e.2.2⟩), begin_out (by omega)]) (fun i hi h6 => by unfold addS; rw [if_neg h6, if_neg (by omega)]) (by unfold addS; rw [if_pos rfl]) h3 (fun r f hr hf => ?_)
  rw [hI _ _ _ (by omega), hpm r (by omega)]
  have q1 : (16 + 11 * r + f - 16) / 11 = r := by omega
  have q2 : (16 + 11 * r + f - 16) % 11 = f := by omega
  have hσ : addS n a b c d σ (16 + 11 * r + f) = if r < lposS σ a n then σ (16 + 11 * r + f) else if r = lposS σ a n then newF a b c d f else σ (16 + 11 * r + f - 11) := by
    unfold addS
    rw [if_neg (by omega), if_pos (by omega), q1, q2]
  have hp2 : pmA pm k n (lposS σ a n) k r = if r < lposS σ a n then pm k r else if r = lposS σ a n then pm k n else if r ≤ n then pm k (r - 1) else pm k r := by
    unfold pmA
    rw [if_pos rfl]
  rw [hσ, hp2]
  have hne : ∀ s, s < n → ¬ (7 = 7 ∧ 8 * k + pm k s = 8 * k + pm k n) := fun s hs e => by
    have := R.pw.2 s n (by omega) hn (by omega)
    omega
  by_cases c1 : r < lposS σ a n
  · rw [if_pos c1, if_pos c1, begin_out (hne r (by omega))]
    exact R.lc (by omega) hf
  · rw [if_neg c1, if_neg c1]
    by_cases c2 : r = lposS σ a n
    · rw [if_pos c2, if_pos c2, begin_at hf]
    · rw [if_neg c2, if_neg c2, if_pos (by omega), begin_out (hne (r - 1) (by omega)), show 16 + 11 * r + f - 11 = 16 + 11 * (r - 1) + f by omega]
      exact R.lc (by omega) hf
theorem Rp.lift {n h : Nat} {I I' : Ii} {pm pm' : Pm} {k p : Nat} {σ : Sg} (R : Rp n h I pm k σ) (hp : p < n) (hpm : ∀ r, r < 8 → pm' k r = pmL pm k n p k r) (hI : ∀ K i j, ¬ (K = 0 ∧ i = k ∧ j = 3) → I' K i j = I K i j) (h3 : I' 0 k 3 = nI (n - 1)) : Rp (n - 1) h I' pm' k (lifS n p σ) := by
  have hn := R.n8
  have hw := pwL R.pw hn hp
  have hw' : Pw pm' k := ⟨fun r hr => by rw [hpm r hr]; exact hw.1 r hr, fun r r' hr hr' e => hw.2 r r' hr hr' (by rw [← hpm r hr, ← hpm r' hr']; exact e)⟩
  refine R.locos (by omega) hw' (fun K j hK hj => hI _ _ _ (fun e => hj ⟨e.1, e.2.2⟩)) (fun i hi h6 => by unfold lifS; rw [if_neg h6, if_neg (by omega), if_neg (by omega)]) (by unfold lifS; rw [if_pos rfl]) h3 (fun r f hr hf => ?_)
  rw [hI _ _ _ (by omega), hpm r (by omega)]
  have hσ : lifS n p σ (16 + 11 * r + f) = if r < p then σ (16 + 11 * r + f) else σ (16 + 11 * r + f + 11) := by
    unfold lifS
    by_cases c1 : r < p
    · rw [if_neg (by omega), if_neg (by omega), if_neg (by omega), if_pos c1]
    · rw [if_neg (by omega), if_pos (by omega), if_neg c1]
  have hp2 : pmL pm k n p k r = if r < p then pm k r else if r + 1 < n then pm k (r + 1) else if r + 1 = n then pm k p else pm k r := by
    unfold pmL
    rw [if_pos rfl]
  rw [hσ, hp2]
  by_cases c1 : r < p
  · rw [if_pos c1, if_pos c1]
    exact R.lc (by omega) hf
  · rw [if_neg c1, if_neg c1, if_pos (by omega), show 16 + 11 * r + f + 11 = 16 + 11 * (r + 1) + f by omega]
    exact R.lc (by omega) hf
/-- a layout holds what another held -/
theorem Rp.cop {n h : Nat} {I I' : Ii} {pm pm' : Pm} {k k2 : Nat} {σ : Sg} (R : Rp n h I pm k2 σ) (hw : Pw pm' k) (h0 : ∀ j, 3 ≤ j → j < 10 → I' 0 k j = I 0 k2 j) (h2 : I' 2 k 3 = I 2 k2 3) (h6 : ∀ b, b < 8 → I' 6 k b = I 6 k2 b) (hr : ∀ K q, 3 ≤ K → K ≤ 5 → q < 20 → I' K k q = I K k2 q) (h7 : ∀ r f, r < n → f < 11 → I' 7 (8 * k + pm' k r) f = I 7 (8 * k2 + pm k2 r) f) : Rp n h I' pm' k σ := by
  obtain ⟨⟨a1, a2, a3, a4, a5, a6, a7, a8⟩, b, c, d, e1, e2, e3, e4, e5, e6⟩ := R
  refine ⟨⟨?_, ?_, ?_, ?_, ?_, ?_, ?_, ?_⟩, fun b' hb => ?_, fun r f hrr hf => ?_, fun j hj => ?_, hw.1, hw.2, e3, e4, e5, e6⟩
  · rw [h0 _ (by decide) (by decide)]; exact a1
  · rw [h0 _ (by decide) (by decide)]; exact a2
  · rw [h0 _ (by decide) (by decide)]; exact a3
  · rw [h0 _ (by decide) (by decide), h0 _ (by decide) (by decide)]; exact a4
  · rw [h0 _ (by decide) (by decide)]; exact a5
  · rw [h0 _ (by decide) (by decide)]; exact a6
  · rw [h0 _ (by decide) (by decide)]; exact a7
  · rw [h2]; exact a8
  · rw [h6 b' hb]; exact b b' hb
  · rw [h7 r _ hrr (fmS_lt hf)]; exact c r f hrr hf
  · rw [hr _ _ (by decide) (by decide) (by omega), hr _ _ (by decide) (by decide) (by omega), hr _ _ (by decide) (by decide) (by omega)]; exact d j hj
set_option maxHeartbeats 4000000 in
set_option maxRecDepth 100000 in
theorem c_X1_copyFrom {l : Launch} {G : Gm} (hj : Aj G) {I : Ii} {pm : Pm} {k k2 : Nat} (hk : k < 11) (hk2 : k2 < 11) (hne : k2 ≠ k) {n h : Nat} {σ : Sg} (R : Rp n h I pm k2 σ) (hw : Pw pm k) : CV l G yX1_copyFrom (wz yX1_copyFrom cX1_copyFrom 3 none) (rmL 2) [.ref (G.2.2 0 k), .ref (G.2.2 0 k2)] I pm (fun u => Rp n h u.1 u.2 k σ ∧ Fr k I pm u.1 u.2 ∧ u.2 = pm) := by
  refine CV.walk hj (by decide +kernel) (by show _ ≤ 3; exact Nat.le_of_ble_eq_true rfl) ?_
  intro p e s m args below meth c F hr hlk
  have hn8 := R.n8
  have LOOP : ∀ j, j ≤ n → ∀ (I2 : Ii) (xj : Int32), xj = nI j → (∀ r f, r < j → f < 11 → I2 7 (8 * k + pm k r) f = I 7 (8 * k2 + pm k2 r) f) → (∀ K i c, ¬ (K = 7 ∧ i / 8 = k) → I2 K i c = I K i c) → GG p l e (rmL 2) s m args below meth c G (AA G) 3 0 0 (MQ below (va_Qv (fun (u : Ii × Pm) => Rp n h u.1 u.2 k σ ∧ Fr k I pm u.1 u.2 ∧ u.2 = pm) (fun (u : Ii × Pm) t => Wd G u.1 u.2 t.heap) (AA G)) args s 0 0 (AA G)) I2 pm [(0, .ref (G.2.2 0 k)), (1, .ref (G.2.2 0 k2)), (2, .int xj)] 2 [] := by
    refine dn_ind ?_
    intro j hjl ih I2 xj ej hv ho
    have ec : I2 0 k2 3 = nI n := (ho 0 k2 3 (by omega)).trans R.cnt
    refine g_iload_n F 2 dX1_copyFrom_2 rfl rfl ?_
    refine g_aload_n F 1 dX1_copyFrom_3 rfl rfl ?_
    refine gf_0_3 F hk2 mFL_X1_29 dX1_copyFrom_4 ?_
    refine g_icmp_ge F 31 dX1_copyFrom_7 (by decide) (fun c_7 => ?_) (fun c_7 => ?_)
    · have n_7 := nx_get (a := j) (b := n) ej ec (by omega) (by omega) c_7
      refine g_aload_n F 0 dX1_copyFrom_31 rfl rfl ?_
      refine gf_0_1 F hk mFL_X1_20 dX1_copyFrom_32 ?_
      refine g_aload_n F 1 dX1_copyFrom_35 rfl rfl ?_
      refine gf_0_1 F hk2 mFL_X1_20 dX1_copyFrom_36 ?_
      refine g_callVv (na := 1) F 2 _ (c_X4_copyFrom hj hk hk2 hne) hk rfl rfl lk_X1_37 rfl rfl (by decide +kernel) ⟨rfl, rfl, Nat.le_of_ble_eq_true rfl, Nat.le_of_ble_eq_true rfl, Nat.le_of_ble_eq_true rfl, Nat.le_of_ble_eq_true rfl, Nat.le_of_ble_eq_true rfl⟩ dX1_copyFrom_39 (fun u_39 h_39 => ?_)
      obtain ⟨ue, uv, us, uo⟩ := h_39
      obtain ⟨I3, pm3⟩ := u_39
      dsimp only at ue uv us uo
      subst ue
      dsimp only
      refine g_aload_n F 1 dX1_copyFrom_42 rfl rfl ?_
      refine gf_0_2 F hk2 mFL_X1_24 dX1_copyFrom_43 ?_
      refine g_iconst (v := 0) F dX1_copyFrom_46 (by decide) ?_
      refine g_aload_n F 0 dX1_copyFrom_47 rfl rfl ?_
      refine gf_0_2 F hk mFL_X1_24 dX1_copyFrom_48 ?_
      refine g_iconst (v := 0) F dX1_copyFrom_51 (by decide) ?_
      refine g_bipush (v := 8) F dX1_copyFrom_52 (by decide) ?_
      refine g_copyi (n := 8) (K := 6) (K' := 6) F hk2 hk rfl rfl mML_X1_40 mNA_arraycopyName mST_arraycopyName mIN_java_lang_System rfl (by decide) ⟨Nat.le_of_ble_eq_true rfl, Nat.le_of_ble_eq_true rfl⟩ (by simp only [cvv, upR_s]) dX1_copyFrom_54 ?_
      refine g_aload_n F 0 dX1_copyFrom_57 rfl rfl ?_
      refine g_aload_n F 1 dX1_copyFrom_58 rfl rfl ?_
      refine gf_0_3 F hk2 mFL_X1_29 dX1_copyFrom_59 ?_
      refine g_eqi (y := I 0 k2 3) (by simp [up3, upR, hne, uo, ho]) ?_
      refine gp_0_3 F hk mFL_X1_29 dX1_copyFrom_62 ?_
      refine g_aload_n F 0 dX1_copyFrom_65 rfl rfl ?_
      refine g_aload_n F 1 dX1_copyFrom_66 rfl rfl ?_
      refine gf_0_4 F hk2 mFL_X1_46 dX1_copyFrom_67 ?_
      refine g_eqi (y := I 0 k2 4) (by simp [up3, upR, hne, uo, ho]) ?_
      refine gp_0_4 F hk mFL_X1_46 dX1_copyFrom_70 ?_
      refine g_aload_n F 0 dX1_copyFrom_73 rfl rfl ?_
      refine g_aload_n F 1 dX1_copyFrom_74 rfl rfl ?_
      refine gf_0_5 F hk2 mFL_X1_49 dX1_copyFrom_75 ?_
      refine g_eqi (y := I 0 k2 5) (by simp [up3, upR, hne, uo, ho]) ?_
      refine gp_0_5 F hk mFL_X1_49 dX1_copyFrom_78 ?_
      refine g_aload_n F 0 dX1_copyFrom_81 rfl rfl ?_
      refine g_aload_n F 1 dX1_copyFrom_82 rfl rfl ?_
      refine gf_0_6 F hk2 mFL_X1_52 dX1_copyFrom_83 ?_
      refine g_eqi (y := I 0 k2 6) (by simp [up3, upR, hne, uo, ho]) ?_
      refine gp_0_6 F hk mFL_X1_52 dX1_copyFrom_86 ?_
      refine g_aload_n F 0 dX1_copyFrom_89 rfl rfl ?_
      refine g_aload_n F 1 dX1_copyFrom_90 rfl rfl ?_
      refine gf_0_7 F hk2 mFL_X1_55 dX1_copyFrom_91 ?_
      refine g_eqi (y := I 0 k2 7) (by simp [up3, upR, hne, uo, ho]) ?_
      refine gp_0_7 F hk mFL_X1_55 dX1_copyFrom_94 ?_
      refine g_aload_n F 0 dX1_copyFrom_97 rfl rfl ?_
      refine g_aload_n F 1 dX1_copyFrom_98 rfl rfl ?_
      refine gf_0_8 F hk2 mFL_X1_58 dX1_copyFrom_99 ?_
      refine g_eqi (y := I 0 k2 8) (by simp [up3, upR, hne, uo, ho]) ?_
      refine gp_0_8 F hk mFL_X1_58 dX1_copyFrom_102 ?_
      refine g_aload_n F 0 dX1_copyFrom_105 rfl rfl ?_
      refine g_aload_n F 1 dX1_copyFrom_106 rfl rfl ?_
      refine gf_0_9 F hk2 mFL_X1_61 dX1_copyFrom_107 ?_
      refine g_eqi (y := I 0 k2 9) (by simp [up3, upR, hne, uo, ho]) ?_
      refine gp_0_9 F hk mFL_X1_61 dX1_copyFrom_110 ?_
      refine g_vret F hr hlk dX1_copyFrom_113 ?_
      have hjn : j = n := by omega
      subst hjn
      refine ⟨R.cop hw (fun j h3 h10 => ?_) ?_ (fun b hb => ?_) (fun K q h3 h5 hq => ?_) (fun r f hr hf => ?_), ⟨fun K i c hq => ?_, fun _ _ _ => rfl⟩, rfl⟩
      · rcases (show j = 3 ∨ j = 4 ∨ j = 5 ∨ j = 6 ∨ j = 7 ∨ j = 8 ∨ j = 9 by omega) with rfl | rfl | rfl | rfl | rfl | rfl | rfl <;> simp [up3]
      · simp [up3, upR, us]
        exact ho 2 k2 3 (by omega)
      · simp [up3, upR, va_cpy, hb, uo, ho]
      · simp [up3, upR, show ¬ K = 0 by omega, show ¬ K = 6 by omega]
        rw [uv K q h3 h5 hq]
        exact ho K k2 q (by omega)
      · simp [up3, upR]
        rw [uo 7 _ _ (by omega)]
        exact hv r f hr hf
      · dsimp only
        iterate 7 rw [up3_n (fun e => hq (Or.inl ⟨by omega, e.2.1⟩))]
        rw [upR_n (fun e => hq (Or.inl ⟨by omega, e.2⟩)), uo K i c (fun e => hq (Or.inl ⟨by omega, e.2.2⟩))]
        exact ho K i c (fun e => hq (Or.inr e))
    · have n_7 := nx_gef (a := j) (b := n) ej ec (by omega) (by omega) c_7
      have hi7 : 8 * k + pm k j < 88 := inL7 hk (hw.1 j (by omega))
      have hi72 : 8 * k2 + pm k2 j < 88 := inL7 hk2 (R.p8 (by omega))
      have h77 : 8 * k2 + pm k2 j ≠ 8 * k + pm k j := fun e => hne (by have := hw.1 j (by omega); have := R.p8 (r := j) (by omega); omega)
      refine g_aload_n F 0 dX1_copyFrom_10 rfl rfl ?_
      refine gf_0_0 F hk mFL_X1_11 dX1_copyFrom_11 ?_
      refine g_iload_n F 2 dX1_copyFrom_14 rfl rfl ?_
      refine ga_1 (j := j) F hk ej (by omega) dX1_copyFrom_15 ?_
      refine g_aload_n F 1 dX1_copyFrom_16 rfl rfl ?_
      refine gf_0_0 F hk2 mFL_X1_11 dX1_copyFrom_17 ?_
      refine g_iload_n F 2 dX1_copyFrom_20 rfl rfl ?_
      refine ga_1 (j := j) F hk2 ej (by omega) dX1_copyFrom_21 ?_
      refine g_callVv (na := 1) F 7 _ (c_X2_copyFrom hj hi7 hi72 h77) hi7 rfl rfl lk_X1_33 rfl rfl (by decide +kernel) ⟨rfl, rfl, Nat.le_of_ble_eq_true rfl, Nat.le_of_ble_eq_true rfl, Nat.le_of_ble_eq_true rfl, Nat.le_of_ble_eq_true rfl, Nat.le_of_ble_eq_true rfl⟩ dX1_copyFrom_22 (fun u_22 h_22 => ?_)
      obtain ⟨ue, uv, uo⟩ := h_22
      obtain ⟨I3, pm3⟩ := u_22
      dsimp only at ue uv uo
      subst ue
      dsimp only
      refine g_iincC (q := 1) (L' := [(2, _), (0, _), (1, _)]) F 2 dX1_copyFrom_25 (by decide) rfl (by decide) rfl ?_
      refine g_goto F 2 dX1_copyFrom_28 (by decide) ?_
      refine g_sub [1, 2, 0] rfl ?_
      refine ih (by omega) _ _ (nx_add ej rfl) (fun r f hr hf => ?_) (fun K i c q => ?_)
      · by_cases e : r = j
        · rw [e, uv f hf, ho 7 _ _ (by have := R.p8 (r := j) (by omega); omega)]
        · rw [uo _ _ _ (fun q => e (hw.2 r j (by omega) (by omega) (by omega)))]
          exact hv r f (by omega) hf
      · rw [uo _ _ _ (fun e => q ⟨e.1, by have := hw.1 j (by omega); omega⟩)]
        exact ho K i c q
  refine g_iconst (v := 0) F dX1_copyFrom_0 (by decide) ?_
  refine g_istore_n (L' := [(2, _), (0, _), (1, _)]) F dX1_copyFrom_1 rfl (by decide) rfl ?_
  refine g_sub [1, 2, 0] rfl ?_
  exact LOOP 0 (Nat.zero_le _) _ _ rfl (fun r f hr => absurd hr (by omega)) (fun _ _ _ _ => rfl)
set_option maxHeartbeats 4000000 in
set_option maxRecDepth 100000 in
theorem c_X1_addLoco {l : Launch} {G : Gm} (hj : Aj G) {I : Ii} {pm : Pm} {k : Nat} (hk : k < 11) {n h : Nat} {σ : Sg} (R : Rp n h I pm k σ) {a b c0 d : Int32} : CI l G yX1_addLoco (wz yX1_addLoco cX1_addLoco 7 (some .int)) (rmL 1) [.ref (G.2.2 0 k), .int a, .int b, .int c0, .int d] I pm (fun r u => (¬ ((1 ≤ a ∧ a ≤ 99) ∧ (1 ≤ b ∧ b ≤ 20) ∧ (0 ≤ c0 ∧ c0 ≤ 2) ∧ (0 ≤ d ∧ d ≤ 799)) ∧ r = -2 ∧ u = (I, pm)) ∨ (((1 ≤ a ∧ a ≤ 99) ∧ (1 ≤ b ∧ b ≤ 20) ∧ (0 ≤ c0 ∧ c0 ≤ 2) ∧ (0 ≤ d ∧ d ≤ 799)) ∧ rkS σ a n < n ∧ r = -5 ∧ u = (I, pm)) ∨ (((1 ≤ a ∧ a ≤ 99) ∧ (1 ≤ b ∧ b ≤ 20) ∧ (0 ≤ c0 ∧ c0 ≤ 2) ∧ (0 ≤ d ∧ d ≤ 799)) ∧ ¬ rkS σ a n < n ∧ n = 8 ∧ r = -4 ∧ u = (I, pm)) ∨ (((1 ≤ a ∧ a ≤ 99) ∧ (1 ≤ b ∧ b ≤ 20) ∧ (0 ≤ c0 ∧ c0 ≤ 2) ∧ (0 ≤ d ∧ d ≤ 799)) ∧ ¬ rkS σ a n < n ∧ n < 8 ∧ r = nI (n + 1) ∧ Rp (n + 1) h u.1 u.2 k (addS n a b c0 d σ) ∧ Fr k I pm u.1 u.2)) := by
  refine CI.walk hj (by decide +kernel) (by show _ ≤ 7; exact Nat.le_of_ble_eq_true rfl) ?_
  intro p e s m args below meth c F hr hlk
  have hn8 := R.n8
  have hrl := rk_le σ a n
  have LOOP : ∀ j, ((1 ≤ a ∧ a ≤ 99) ∧ (1 ≤ b ∧ b ≤ 20) ∧ (0 ≤ c0 ∧ c0 ≤ 2) ∧ (0 ≤ d ∧ d ≤ 799)) → ¬ rkS σ a n < n → n < 8 → ∀ (pm2 : Pm) (xj : Int32), xj = nI j → j ≤ n → lposS σ a n = lposS σ a j → (∀ r, r < 8 → pm2 k r = if j < r ∧ r ≤ n then pm k (r - 1) else pm k r) → (∀ k2 r, k2 ≠ k → pm2 k2 r = pm k2 r) → GG p l e (rmL 1) s m args below meth c G (AA G) 7 0 0 (MQ below (va_Qi (fun (r : Int32) (u : Ii × Pm) => (¬ ((1 ≤ a ∧ a ≤ 99) ∧ (1 ≤ b ∧ b ≤ 20) ∧ (0 ≤ c0 ∧ c0 ≤ 2) ∧ (0 ≤ d ∧ d ≤ 799)) ∧ r = -2 ∧ u = (I, pm)) ∨ (((1 ≤ a ∧ a ≤ 99) ∧ (1 ≤ b ∧ b ≤ 20) ∧ (0 ≤ c0 ∧ c0 ≤ 2) ∧ (0 ≤ d ∧ d ≤ 799)) ∧ rkS σ a n < n ∧ r = -5 ∧ u = (I, pm)) ∨ (((1 ≤ a ∧ a ≤ 99) ∧ (1 ≤ b ∧ b ≤ 20) ∧ (0 ≤ c0 ∧ c0 ≤ 2) ∧ (0 ≤ d ∧ d ≤ 799)) ∧ ¬ rkS σ a n < n ∧ n = 8 ∧ r = -4 ∧ u = (I, pm)) ∨ (((1 ≤ a ∧ a ≤ 99) ∧ (1 ≤ b ∧ b ≤ 20) ∧ (0 ≤ c0 ∧ c0 ≤ 2) ∧ (0 ≤ d ∧ d ≤ 799)) ∧ ¬ rkS σ a n < n ∧ n < 8 ∧ r = nI (n + 1) ∧ Rp (n + 1) h u.1 u.2 k (addS n a b c0 d σ) ∧ Fr k I pm u.1 u.2)) (fun (u : Ii × Pm) t => Wd G u.1 u.2 t.heap) (AA G)) args s 0 0 (AA G)) I pm2 [(0, .ref (G.2.2 0 k)), (1, .int a), (2, .int b), (3, .int c0), (4, .int d), (5, .ref (G.2.2 7 (8 * k + pm k n))), (6, .int xj)] 88 [] := by
    refine up_ind ?_
    intro j ih hb hrk hlt pm2 xj ej hjl hip hv ho
    refine g_iload F 6 dX1_addLoco_88 rfl ?_
    refine g_if_le F 131 dX1_addLoco_90 (by decide) (fun c_90 => ?_) (fun c_90 => ?_)
    · have n_90 := nx_let (a := j) (b := 0) ej rfl (by omega) (by omega) c_90
      have HP : lposS σ a n = j := by rw [hip, show j = 0 by omega]; rfl
      have hin : 8 * k + pm k n < 88 := inL7 hk (R.p8 (by omega))
      have hbe : ∀ (x1 x2 x3 x4 : Int32), beginI I (8 * k + pm k n) x1 x2 x3 x4 0 k 3 = nI n := fun _ _ _ _ => (begin_out (by omega)).trans R.cnt
      refine g_aload_n F 0 dX1_addLoco_131 rfl rfl ?_
      refine gf_0_0 F hk mFL_X1_11 dX1_addLoco_132 ?_
      refine g_iload F 6 dX1_addLoco_135 rfl ?_
      refine g_aload F 5 dX1_addLoco_137 rfl ?_
      refine gs_1 (j := j) F hk (R.p8 (by omega)) ej (by omega) dX1_addLoco_139 ?_
      refine g_aload F 5 dX1_addLoco_140 rfl ?_
      refine g_iload_n F 1 dX1_addLoco_142 rfl rfl ?_
      refine g_iload_n F 2 dX1_addLoco_143 rfl rfl ?_
      refine g_iload_n F 3 dX1_addLoco_144 rfl rfl ?_
      refine g_iload F 4 dX1_addLoco_145 rfl ?_
      refine g_callVv (na := 4) F 7 _ (c_X2_begin hj hin) hin rfl rfl lk_X1_79 rfl rfl (by decide +kernel) ⟨rfl, rfl, Nat.le_of_ble_eq_true rfl, Nat.le_of_ble_eq_true rfl, Nat.le_of_ble_eq_true rfl, Nat.le_of_ble_eq_true rfl, Nat.le_of_ble_eq_true rfl⟩ dX1_addLoco_147 (fun u_147 h_147 => ?_)
      subst h_147
      try dsimp only
      refine g_aload_n F 0 dX1_addLoco_150 rfl rfl ?_
      refine g_dup F dX1_addLoco_151 rfl ?_
      refine gf_0_3 F hk mFL_X1_29 dX1_addLoco_152 ?_
      refine g_iconst (v := 1) F dX1_addLoco_155 (by decide) ?_
      refine g_iadd F dX1_addLoco_156 ?_
      refine gp_0_3 F hk mFL_X1_29 dX1_addLoco_157 ?_
      refine g_aload_n F 0 dX1_addLoco_160 rfl rfl ?_
      refine gf_0_3 F hk mFL_X1_29 dX1_addLoco_161 ?_
      refine g_iret F hr hlk rfl dX1_addLoco_164 ?_
      refine Or.inr (Or.inr (Or.inr ⟨hb, hrk, hlt, ?_, R.add (I' := up3 (beginI I (8 * k + pm k n) a b c0 d) 0 k 3 (beginI I (8 * k + pm k n) a b c0 d 0 k 3 + 1)) hlt (fun r hr => ?_) (fun K i q hq => up3_n (fun e => hq ⟨e.1, e.2.1, e.2.2⟩)) (by rw [up3_s, hbe]; exact nI_1 n), ⟨fun K i q hq => ?_, fun k2 r hk2 => ?_⟩⟩))
      · show up3 (beginI I (8 * k + pm k n) a b c0 d) 0 k 3 (beginI I (8 * k + pm k n) a b c0 d 0 k 3 + 1) 0 k 3 = _
        rw [up3_s, hbe]; exact nI_1 n
      · unfold pmA
        rw [if_pos rfl, HP]
        show upP pm2 k j (pm k n) k r = _
        unfold upP
        by_cases c1 : r = j
        · rw [if_pos ⟨rfl, c1⟩, if_neg (by omega), if_pos c1]
        · rw [if_neg (fun e => c1 e.2), if_neg c1, hv r hr]
          by_cases c2 : r < j
          · rw [if_neg (by omega), if_pos c2]
          · rw [if_neg c2]
            by_cases c3 : r ≤ n
            · rw [if_pos (by omega), if_pos c3]
            · rw [if_neg (by omega), if_neg c3]
      · show up3 (beginI I (8 * k + pm k n) a b c0 d) 0 k 3 _ K i q = I K i q
        rw [up3_n (fun e => hq (Or.inl ⟨by omega, e.2.1⟩)), begin_out (fun e => hq (Or.inr ⟨e.1, by have := R.p8 (r := n) (by omega); omega⟩))]
      · show upP pm2 k j (pm k n) k2 r = _
        unfold upP
        rw [if_neg (fun e => hk2 e.1)]
        exact ho k2 r hk2
    · have n_90 := nx_lef (a := j) (b := 0) ej rfl (by omega) (by omega) c_90
      have e5 : pm2 k (j - 1) = pm k (j - 1) := by rw [hv _ (by omega), if_neg (by omega)]
      have hi7 : 8 * k + pm2 k (j - 1) < 88 := by rw [e5]; exact inL7 hk (R.p8 (by omega))
      have ea : I 7 (8 * k + pm2 k (j - 1)) 0 = σ (16 + 11 * (j - 1)) := by rw [e5]; exact R.lc (f := 0) (by omega) (by decide)
      refine g_aload_n F 0 dX1_addLoco_93 rfl rfl ?_
      refine gf_0_0 F hk mFL_X1_11 dX1_addLoco_94 ?_
      refine g_iload F 6 dX1_addLoco_97 rfl ?_
      refine g_iconst (v := 1) F dX1_addLoco_99 (by decide) ?_
      refine g_isub F dX1_addLoco_100 ?_
      refine ga_1 (j := (j - 1)) F hk (nx_sub ej rfl (by omega)) (by omega) dX1_addLoco_101 ?_
      refine gf_7_0 F hi7 mFL_X1_76 dX1_addLoco_102 ?_
      refine g_iload_n F 1 dX1_addLoco_105 rfl rfl ?_
      refine g_icmp_le F 131 dX1_addLoco_106 (by decide) (fun c_106 => ?_) (fun c_106 => ?_)
      · have HP : lposS σ a n = j := by
          obtain ⟨i, rfl⟩ : ∃ i, j = i + 1 := ⟨j - 1, by omega⟩
          rw [hip]
          show (if a < σ (16 + 11 * i) then lposS σ a i else i + 1) = i + 1
          rw [Nat.add_sub_cancel] at ea
          have c66 := c_106
          rw [Nat.add_sub_cancel, ea] at c66
          exact if_neg (Int32.not_lt.mpr c66)
        have hin : 8 * k + pm k n < 88 := inL7 hk (R.p8 (by omega))
        have hbe : ∀ (x1 x2 x3 x4 : Int32), beginI I (8 * k + pm k n) x1 x2 x3 x4 0 k 3 = nI n := fun _ _ _ _ => (begin_out (by omega)).trans R.cnt
        refine g_aload_n F 0 dX1_addLoco_131 rfl rfl ?_
        refine gf_0_0 F hk mFL_X1_11 dX1_addLoco_132 ?_
        refine g_iload F 6 dX1_addLoco_135 rfl ?_
        refine g_aload F 5 dX1_addLoco_137 rfl ?_
        refine gs_1 (j := j) F hk (R.p8 (by omega)) ej (by omega) dX1_addLoco_139 ?_
        refine g_aload F 5 dX1_addLoco_140 rfl ?_
        refine g_iload_n F 1 dX1_addLoco_142 rfl rfl ?_
        refine g_iload_n F 2 dX1_addLoco_143 rfl rfl ?_
        refine g_iload_n F 3 dX1_addLoco_144 rfl rfl ?_
        refine g_iload F 4 dX1_addLoco_145 rfl ?_
        refine g_callVv (na := 4) F 7 _ (c_X2_begin hj hin) hin rfl rfl lk_X1_79 rfl rfl (by decide +kernel) ⟨rfl, rfl, Nat.le_of_ble_eq_true rfl, Nat.le_of_ble_eq_true rfl, Nat.le_of_ble_eq_true rfl, Nat.le_of_ble_eq_true rfl, Nat.le_of_ble_eq_true rfl⟩ dX1_addLoco_147 (fun u_147 h_147 => ?_)
        subst h_147
        try dsimp only
        refine g_aload_n F 0 dX1_addLoco_150 rfl rfl ?_
        refine g_dup F dX1_addLoco_151 rfl ?_
        refine gf_0_3 F hk mFL_X1_29 dX1_addLoco_152 ?_
        refine g_iconst (v := 1) F dX1_addLoco_155 (by decide) ?_
        refine g_iadd F dX1_addLoco_156 ?_
        refine gp_0_3 F hk mFL_X1_29 dX1_addLoco_157 ?_
        refine g_aload_n F 0 dX1_addLoco_160 rfl rfl ?_
        refine gf_0_3 F hk mFL_X1_29 dX1_addLoco_161 ?_
        refine g_iret F hr hlk rfl dX1_addLoco_164 ?_
        refine Or.inr (Or.inr (Or.inr ⟨hb, hrk, hlt, ?_, R.add (I' := up3 (beginI I (8 * k + pm k n) a b c0 d) 0 k 3 (beginI I (8 * k + pm k n) a b c0 d 0 k 3 + 1)) hlt (fun r hr => ?_) (fun K i q hq => up3_n (fun e => hq ⟨e.1, e.2.1, e.2.2⟩)) (by rw [up3_s, hbe]; exact nI_1 n), ⟨fun K i q hq => ?_, fun k2 r hk2 => ?_⟩⟩))
        · show up3 (beginI I (8 * k + pm k n) a b c0 d) 0 k 3 (beginI I (8 * k + pm k n) a b c0 d 0 k 3 + 1) 0 k 3 = _
          rw [up3_s, hbe]; exact nI_1 n
        · unfold pmA
          rw [if_pos rfl, HP]
          show upP pm2 k j (pm k n) k r = _
          unfold upP
          by_cases c1 : r = j
          · rw [if_pos ⟨rfl, c1⟩, if_neg (by omega), if_pos c1]
          · rw [if_neg (fun e => c1 e.2), if_neg c1, hv r hr]
            by_cases c2 : r < j
            · rw [if_neg (by omega), if_pos c2]
            · rw [if_neg c2]
              by_cases c3 : r ≤ n
              · rw [if_pos (by omega), if_pos c3]
              · rw [if_neg (by omega), if_neg c3]
        · show up3 (beginI I (8 * k + pm k n) a b c0 d) 0 k 3 _ K i q = I K i q
          rw [up3_n (fun e => hq (Or.inl ⟨by omega, e.2.1⟩)), begin_out (fun e => hq (Or.inr ⟨e.1, by have := R.p8 (r := n) (by omega); omega⟩))]
        · show upP pm2 k j (pm k n) k2 r = _
          unfold upP
          rw [if_neg (fun e => hk2 e.1)]
          exact ho k2 r hk2
      · refine g_aload_n F 0 dX1_addLoco_109 rfl rfl ?_
        refine gf_0_0 F hk mFL_X1_11 dX1_addLoco_110 ?_
        refine g_iload F 6 dX1_addLoco_113 rfl ?_
        refine g_aload_n F 0 dX1_addLoco_115 rfl rfl ?_
        refine gf_0_0 F hk mFL_X1_11 dX1_addLoco_116 ?_
        refine g_iload F 6 dX1_addLoco_119 rfl ?_
        refine g_iconst (v := 1) F dX1_addLoco_121 (by decide) ?_
        refine g_isub F dX1_addLoco_122 ?_
        refine ga_1 (j := (j - 1)) F hk (nx_sub ej rfl (by omega)) (by omega) dX1_addLoco_123 ?_
        refine gs_1 (j := j) F hk (show pm2 k (j - 1) < 8 by rw [e5]; exact R.p8 (by omega)) ej (by omega) dX1_addLoco_124 ?_
        refine g_iincC (q := -1) (L' := [(6, _), (0, _), (1, _), (2, _), (3, _), (4, _), (5, _)]) F 6 dX1_addLoco_125 (by decide) rfl (by decide) rfl ?_
        refine g_goto F 88 dX1_addLoco_128 (by decide) ?_
        refine g_sub [1, 2, 3, 4, 5, 6, 0] rfl ?_
        refine ih (j - 1) (by omega) hb hrk hlt _ _ (nx_dec ej n_90) (by omega) ?_ (fun r hr => ?_) (fun k2 r hk2 => ?_)
        · rw [hip]
          obtain ⟨i, rfl⟩ : ∃ i, j = i + 1 := ⟨j - 1, by omega⟩
          rw [Nat.add_sub_cancel] at ea ⊢
          have c66 := c_106
          rw [Nat.add_sub_cancel, ea] at c66
          show (if a < σ (16 + 11 * i) then lposS σ a i else i + 1) = _
          exact if_pos (Int32.not_le.mp c66)
        · unfold upP
          by_cases c1 : r = j
          · rw [if_pos ⟨rfl, c1⟩, if_pos (by omega), e5, c1]
          · rw [if_neg (fun e => c1 e.2), hv r hr]
            by_cases c2 : j < r ∧ r ≤ n
            · rw [if_pos c2, if_pos (by omega)]
            · rw [if_neg c2, if_neg (by omega)]
        · unfold upP
          rw [if_neg (fun e => hk2 e.1)]
          exact ho k2 r hk2
  refine g_iload_n F 1 dX1_addLoco_0 rfl rfl ?_
  refine g_iconst (v := 1) F dX1_addLoco_1 (by decide) ?_
  refine g_bipush (v := 99) F dX1_addLoco_2 (by decide) ?_
  refine g_callIn (na := 3) F (c_X5_within hj) (gw mCO_yX5_within) F.2.2.1.1 mST_yX5_within mIN_RX5 rfl rfl (by decide +kernel) ⟨rfl, rfl, Nat.le_of_ble_eq_true rfl, Nat.le_of_ble_eq_true rfl, Nat.le_of_ble_eq_true rfl, Nat.le_of_ble_eq_true rfl, Nat.le_of_ble_eq_true rfl⟩ dX1_addLoco_4 (fun r_4 u_4 h_4 => ?_)
  obtain ⟨rfl, rfl⟩ := h_4
  try dsimp only
  refine g_if_eq F 41 dX1_addLoco_7 (by decide) (fun c_7 => ?_) (fun c_7 => ?_)
  · have N1 := bz_0.mp c_7
    refine g_bipush (v := -2) F dX1_addLoco_41 (by decide) ?_
    refine g_iret F hr hlk rfl dX1_addLoco_43 ?_
    refine Or.inl ⟨fun w => ?_, rfl, rfl⟩; first | exact N1 w.1 | exact N2 w.2.1 | exact N3 w.2.2.1 | exact N4 w.2.2.2
  · have P1 := bz_n.mp c_7
    refine g_iload_n F 2 dX1_addLoco_10 rfl rfl ?_
    refine g_iconst (v := 1) F dX1_addLoco_11 (by decide) ?_
    refine g_bipush (v := 20) F dX1_addLoco_12 (by decide) ?_
    refine g_callIn (na := 3) F (c_X5_within hj) (gw mCO_yX5_within) F.2.2.1.1 mST_yX5_within mIN_RX5 rfl rfl (by decide +kernel) ⟨rfl, rfl, Nat.le_of_ble_eq_true rfl, Nat.le_of_ble_eq_true rfl, Nat.le_of_ble_eq_true rfl, Nat.le_of_ble_eq_true rfl, Nat.le_of_ble_eq_true rfl⟩ dX1_addLoco_14 (fun r_14 u_14 h_14 => ?_)
    obtain ⟨rfl, rfl⟩ := h_14
    try dsimp only
    refine g_if_eq F 41 dX1_addLoco_17 (by decide) (fun c_17 => ?_) (fun c_17 => ?_)
    · have N2 := bz_0.mp c_17
      refine g_bipush (v := -2) F dX1_addLoco_41 (by decide) ?_
      refine g_iret F hr hlk rfl dX1_addLoco_43 ?_
      refine Or.inl ⟨fun w => ?_, rfl, rfl⟩; first | exact N1 w.1 | exact N2 w.2.1 | exact N3 w.2.2.1 | exact N4 w.2.2.2
    · have P2 := bz_n.mp c_17
      refine g_iload_n F 3 dX1_addLoco_20 rfl rfl ?_
      refine g_iconst (v := 0) F dX1_addLoco_21 (by decide) ?_
      refine g_iconst (v := 2) F dX1_addLoco_22 (by decide) ?_
      refine g_callIn (na := 3) F (c_X5_within hj) (gw mCO_yX5_within) F.2.2.1.1 mST_yX5_within mIN_RX5 rfl rfl (by decide +kernel) ⟨rfl, rfl, Nat.le_of_ble_eq_true rfl, Nat.le_of_ble_eq_true rfl, Nat.le_of_ble_eq_true rfl, Nat.le_of_ble_eq_true rfl, Nat.le_of_ble_eq_true rfl⟩ dX1_addLoco_23 (fun r_23 u_23 h_23 => ?_)
      obtain ⟨rfl, rfl⟩ := h_23
      try dsimp only
      refine g_if_eq F 41 dX1_addLoco_26 (by decide) (fun c_26 => ?_) (fun c_26 => ?_)
      · have N3 := bz_0.mp c_26
        refine g_bipush (v := -2) F dX1_addLoco_41 (by decide) ?_
        refine g_iret F hr hlk rfl dX1_addLoco_43 ?_
        refine Or.inl ⟨fun w => ?_, rfl, rfl⟩; first | exact N1 w.1 | exact N2 w.2.1 | exact N3 w.2.2.1 | exact N4 w.2.2.2
      · have P3 := bz_n.mp c_26
        refine g_iload F 4 dX1_addLoco_29 rfl ?_
        refine g_iconst (v := 0) F dX1_addLoco_31 (by decide) ?_
        refine g_sipush (v := 799) F dX1_addLoco_32 (by decide) ?_
        refine g_callIn (na := 3) F (c_X5_within hj) (gw mCO_yX5_within) F.2.2.1.1 mST_yX5_within mIN_RX5 rfl rfl (by decide +kernel) ⟨rfl, rfl, Nat.le_of_ble_eq_true rfl, Nat.le_of_ble_eq_true rfl, Nat.le_of_ble_eq_true rfl, Nat.le_of_ble_eq_true rfl, Nat.le_of_ble_eq_true rfl⟩ dX1_addLoco_35 (fun r_35 u_35 h_35 => ?_)
        obtain ⟨rfl, rfl⟩ := h_35
        try dsimp only
        refine g_if_ne F 44 dX1_addLoco_38 (by decide) (fun c_38 => ?_) (fun c_38 => ?_)
        · have P4 := bz_n.mp c_38
          refine g_aload_n F 0 dX1_addLoco_44 rfl rfl ?_
          refine g_iload_n F 1 dX1_addLoco_45 rfl rfl ?_
          refine g_callIv (na := 1) F 0 _ (c_X1_rankOf hj hk R) hk rfl rfl lk_X1_68 rfl rfl (by decide +kernel) ⟨rfl, rfl, Nat.le_of_ble_eq_true rfl, Nat.le_of_ble_eq_true rfl, Nat.le_of_ble_eq_true rfl, Nat.le_of_ble_eq_true rfl, Nat.le_of_ble_eq_true rfl⟩ dX1_addLoco_46 (fun r_46 u_46 h_46 => ?_)
          obtain ⟨rfl, rfl⟩ := h_46
          try dsimp only
          refine g_aload_n F 0 dX1_addLoco_49 rfl rfl ?_
          refine gf_0_3 F hk mFL_X1_29 dX1_addLoco_50 ?_
          refine g_icmp_ge F 59 dX1_addLoco_53 (by decide) (fun c_53 => ?_) (fun c_53 => ?_)
          · have n_53 := nx_get (a := (rkS σ a n)) (b := n) rfl R.cnt (by omega) (by omega) c_53
            refine g_aload_n F 0 dX1_addLoco_59 rfl rfl ?_
            refine gf_0_3 F hk mFL_X1_29 dX1_addLoco_60 ?_
            refine g_bipush (v := 8) F dX1_addLoco_63 (by decide) ?_
            refine g_icmp_lt F 71 dX1_addLoco_65 (by decide) (fun c_65 => ?_) (fun c_65 => ?_)
            · have n_65 := nx_ltt (a := n) (b := 8) R.cnt rfl (by omega) (by omega) c_65
              refine g_aload_n F 0 dX1_addLoco_71 rfl rfl ?_
              refine gf_0_0 F hk mFL_X1_11 dX1_addLoco_72 ?_
              refine g_aload_n F 0 dX1_addLoco_75 rfl rfl ?_
              refine gf_0_3 F hk mFL_X1_29 dX1_addLoco_76 ?_
              refine ga_1 (j := n) F hk R.cnt (by omega) dX1_addLoco_79 ?_
              refine g_astore (L' := [(5, _), (0, _), (1, _), (2, _), (3, _), (4, _)]) F dX1_addLoco_80 (by decide) rfl ?_
              refine g_aload_n F 1 dX1_addLoco_82 rfl rfl ?_
              refine gf_0_3 F hk mFL_X1_29 dX1_addLoco_83 ?_
              refine g_topi (fun x6_86 ex6_86 => ?_)
              refine g_istore (L' := [(6, _), (5, _), (0, _), (1, _), (2, _), (3, _), (4, _)]) F dX1_addLoco_86 (by decide) rfl ?_
              refine g_sub [2, 3, 4, 5, 6, 1, 0] rfl ?_
              exact LOOP n ⟨P1, P2, P3, P4⟩ (by omega) (by omega) _ _ (ex6_86.trans R.cnt) (Nat.le_refl _) rfl (fun r hr => by rw [if_neg (by omega)]) (fun _ _ _ => rfl)
            · have n_65 := nx_ltf (a := n) (b := 8) R.cnt rfl (by omega) (by omega) c_65
              refine g_bipush (v := -4) F dX1_addLoco_68 (by decide) ?_
              refine g_iret F hr hlk rfl dX1_addLoco_70 ?_
              exact Or.inr (Or.inr (Or.inl ⟨⟨P1, P2, P3, P4⟩, by omega, by omega, rfl, rfl⟩))
          · have n_53 := nx_gef (a := (rkS σ a n)) (b := n) rfl R.cnt (by omega) (by omega) c_53
            refine g_bipush (v := -5) F dX1_addLoco_56 (by decide) ?_
            refine g_iret F hr hlk rfl dX1_addLoco_58 ?_
            exact Or.inr (Or.inl ⟨⟨P1, P2, P3, P4⟩, n_53, rfl, rfl⟩)
        · have N4 := bz_0.mp c_38
          refine g_bipush (v := -2) F dX1_addLoco_41 (by decide) ?_
          refine g_iret F hr hlk rfl dX1_addLoco_43 ?_
          refine Or.inl ⟨fun w => ?_, rfl, rfl⟩; first | exact N1 w.1 | exact N2 w.2.1 | exact N3 w.2.2.1 | exact N4 w.2.2.2
set_option maxHeartbeats 4000000 in
set_option maxRecDepth 100000 in
theorem c_X1_removeLoco {l : Launch} {G : Gm} (hj : Aj G) {I : Ii} {pm : Pm} {k : Nat} (hk : k < 11) {n h : Nat} {σ : Sg} (R : Rp n h I pm k σ) {a : Int32} : CI l G yX1_removeLoco (wz yX1_removeLoco cX1_removeLoco 5 (some .int)) (rmL 1) [.ref (G.2.2 0 k), .int a] I pm (fun r u => (¬ rkS σ a n < n ∧ r = -1 ∧ u = (I, pm)) ∨ (rkS σ a n < n ∧ r = nI (n - 1) ∧ Rp (n - 1) h u.1 u.2 k (lifS n (rkS σ a n) σ) ∧ Fr k I pm u.1 u.2)) := by
  refine CI.walk hj (by decide +kernel) (by show _ ≤ 5; exact Nat.le_of_ble_eq_true rfl) ?_
  intro p e s m args below meth c F hr hlk
  have hn8 := R.n8
  obtain ⟨pr, hpr⟩ : ∃ q, q = rkS σ a n := ⟨_, rfl⟩
  have hprl : pr ≤ n := by rw [hpr]; exact rk_le σ a n
  have LOOP : ∀ j, j ≤ n → pr < n → pr < j → ∀ (pm2 : Pm) (xr xj : Int32), xr = nI pr → xj = nI j → (∀ r, r < 8 → pm2 k r = if pr ≤ r ∧ r + 1 < j then pm k (r + 1) else pm k r) → (∀ k2 r, k2 ≠ k → pm2 k2 r = pm k2 r) → GG p l e (rmL 1) s m args below meth c G (AA G) 5 0 0 (MQ below (va_Qi (fun (r : Int32) (u : Ii × Pm) => (¬ rkS σ a n < n ∧ r = -1 ∧ u = (I, pm)) ∨ (rkS σ a n < n ∧ r = nI (n - 1) ∧ Rp (n - 1) h u.1 u.2 k (lifS n (rkS σ a n) σ) ∧ Fr k I pm u.1 u.2)) (fun (u : Ii × Pm) t => Wd G u.1 u.2 t.heap) (AA G)) args s 0 0 (AA G)) I pm2 [(0, .ref (G.2.2 0 k)), (1, .int a), (2, .int xr), (3, .ref (G.2.2 7 (8 * k + pm k pr))), (4, .int xj)] 28 [] := by
    refine dn_ind ?_
    intro j hjl ih hpn hpj pm2 xr xj er ej hv ho
    refine g_iload F 4 dX1_removeLoco_28 rfl ?_
    refine g_aload_n F 0 dX1_removeLoco_30 rfl rfl ?_
    refine gf_0_3 F hk mFL_X1_29 dX1_removeLoco_31 ?_
    refine g_icmp_ge F 59 dX1_removeLoco_34 (by decide) (fun c_34 => ?_) (fun c_34 => ?_)
    · have n_34 := nx_get (a := j) (b := n) ej R.cnt (by omega) (by omega) c_34
      refine g_aload_n F 0 dX1_removeLoco_59 rfl rfl ?_
      refine g_dup F dX1_removeLoco_60 rfl ?_
      refine gf_0_3 F hk mFL_X1_29 dX1_removeLoco_61 ?_
      refine g_iconst (v := 1) F dX1_removeLoco_64 (by decide) ?_
      refine g_isub F dX1_removeLoco_65 ?_
      refine gp_0_3 F hk mFL_X1_29 dX1_removeLoco_66 ?_
      have e74 : up3 I 0 k 3 (I 0 k 3 - 1) 0 k 3 = nI (n - 1) := by rw [up3_s]; exact nx_sub R.cnt (b := 1) rfl (by omega)
      refine g_aload_n F 0 dX1_removeLoco_69 rfl rfl ?_
      refine gf_0_0 F hk mFL_X1_11 dX1_removeLoco_70 ?_
      refine g_aload_n F 0 dX1_removeLoco_73 rfl rfl ?_
      refine gf_0_3 F hk mFL_X1_29 dX1_removeLoco_74 ?_
      refine g_aload_n F 3 dX1_removeLoco_77 rfl rfl ?_
      refine gs_1 (j := (n - 1)) F hk (R.p8 (by omega)) e74 (by omega) dX1_removeLoco_78 ?_
      refine g_aload_n F 0 dX1_removeLoco_79 rfl rfl ?_
      refine gf_0_3 F hk mFL_X1_29 dX1_removeLoco_80 ?_
      refine g_iret F hr hlk rfl dX1_removeLoco_83 ?_
      have hjn : j = n := by omega
      subst hjn
      refine Or.inr ⟨by omega, e74, ?_, ⟨fun K i q hq => ?_, fun k2 r hk2 => ?_⟩⟩
      · rw [← hpr]
        refine R.lift (by omega) (fun r hr => ?_) (fun K i q hq => up3_n (fun e => hq ⟨e.1, e.2.1, e.2.2⟩)) e74
        unfold pmL
        rw [if_pos rfl]
        show upP pm2 k (j - 1) (pm k pr) k r = _
        unfold upP
        by_cases c1 : r = j - 1
        · rw [if_pos ⟨rfl, c1⟩, if_neg (by omega), if_neg (by omega), if_pos (by omega)]
        · rw [if_neg (fun e => c1 e.2), hv r hr]
          by_cases c2 : r < pr
          · rw [if_neg (by omega), if_pos c2]
          · rw [if_neg c2]
            by_cases c3 : r + 1 < j
            · rw [if_pos (by omega), if_pos c3]
            · rw [if_neg (by omega), if_neg c3, if_neg (by omega)]
      · show up3 I 0 k 3 _ K i q = I K i q
        rw [up3_n (fun e => hq (Or.inl ⟨by omega, e.2.1⟩))]
      · show upP pm2 k (j - 1) (pm k pr) k2 r = _
        unfold upP
        rw [if_neg (fun e => hk2 e.1)]
        exact ho k2 r hk2
    · have n_34 := nx_gef (a := j) (b := n) ej R.cnt (by omega) (by omega) c_34
      refine g_aload_n F 0 dX1_removeLoco_37 rfl rfl ?_
      refine gf_0_0 F hk mFL_X1_11 dX1_removeLoco_38 ?_
      refine g_iload F 4 dX1_removeLoco_41 rfl ?_
      refine g_iconst (v := 1) F dX1_removeLoco_43 (by decide) ?_
      refine g_isub F dX1_removeLoco_44 ?_
      refine g_aload_n F 0 dX1_removeLoco_45 rfl rfl ?_
      refine gf_0_0 F hk mFL_X1_11 dX1_removeLoco_46 ?_
      refine g_iload F 4 dX1_removeLoco_49 rfl ?_
      refine ga_1 (j := j) F hk ej (by omega) dX1_removeLoco_51 ?_
      refine gs_1 (j := (j - 1)) F hk (show pm2 k j < 8 by rw [hv j (by omega), if_neg (by omega)]; exact R.p8 (by omega)) (nx_sub ej rfl (by omega)) (by omega) dX1_removeLoco_52 ?_
      refine g_iincC (q := 1) (L' := [(4, _), (0, _), (1, _), (2, _), (3, _)]) F 4 dX1_removeLoco_53 (by decide) rfl (by decide) rfl ?_
      refine g_goto F 28 dX1_removeLoco_56 (by decide) ?_
      refine g_sub [1, 2, 3, 4, 0] rfl ?_
      refine ih (by omega) hpn (by omega) _ _ _ er (nx_add ej rfl) (fun r hr => ?_) (fun k2 r hk2 => ?_)
      · unfold upP
        by_cases c1 : r = j - 1
        · rw [if_pos ⟨rfl, c1⟩, if_pos (by omega), hv j (by omega), if_neg (by omega), c1, show j - 1 + 1 = j by omega]
        · rw [if_neg (fun e => c1 e.2), hv r hr]
          by_cases c2 : pr ≤ r ∧ r + 1 < j
          · rw [if_pos c2, if_pos (by omega)]
          · rw [if_neg c2, if_neg (by omega)]
      · unfold upP
        rw [if_neg (fun e => hk2 e.1)]
        exact ho k2 r hk2
  refine g_aload_n F 0 dX1_removeLoco_0 rfl rfl ?_
  refine g_iload_n F 1 dX1_removeLoco_1 rfl rfl ?_
  refine g_callIv (na := 1) F 0 _ (c_X1_rankOf hj hk R) hk rfl rfl lk_X1_68 rfl rfl (by decide +kernel) ⟨rfl, rfl, Nat.le_of_ble_eq_true rfl, Nat.le_of_ble_eq_true rfl, Nat.le_of_ble_eq_true rfl, Nat.le_of_ble_eq_true rfl, Nat.le_of_ble_eq_true rfl⟩ dX1_removeLoco_2 (fun r_2 u_2 h_2 => ?_)
  obtain ⟨rfl, rfl⟩ := h_2
  try dsimp only
  refine g_topi (fun x2_5 ex2_5 => ?_)
  refine g_istore_n (L' := [(2, _), (0, _), (1, _)]) F dX1_removeLoco_5 rfl (by decide) rfl ?_
  refine g_iload_n F 0 dX1_removeLoco_6 rfl rfl ?_
  refine g_aload_n F 1 dX1_removeLoco_7 rfl rfl ?_
  refine gf_0_3 F hk mFL_X1_29 dX1_removeLoco_8 ?_
  refine g_icmp_lt F 16 dX1_removeLoco_11 (by decide) (fun c_11 => ?_) (fun c_11 => ?_)
  · have n_11 := nx_ltt (a := pr) (b := n) (ex2_5.trans (by rw [hpr])) R.cnt (by omega) (by omega) c_11
    refine g_aload_n F 1 dX1_removeLoco_16 rfl rfl ?_
    refine gf_0_0 F hk mFL_X1_11 dX1_removeLoco_17 ?_
    refine g_iload_n F 0 dX1_removeLoco_20 rfl rfl ?_
    refine ga_1 (j := pr) F hk (ex2_5.trans (by rw [hpr])) (by omega) dX1_removeLoco_21 ?_
    refine g_astore_n (L' := [(3, _), (2, _), (0, _), (1, _)]) F dX1_removeLoco_22 rfl (by decide) rfl ?_
    refine g_iload_n F 1 dX1_removeLoco_23 rfl rfl ?_
    refine g_iconst (v := 1) F dX1_removeLoco_24 (by decide) ?_
    refine g_iadd F dX1_removeLoco_25 ?_
    refine g_topi (fun x4_26 ex4_26 => ?_)
    refine g_istore (L' := [(4, _), (3, _), (2, _), (0, _), (1, _)]) F dX1_removeLoco_26 (by decide) rfl ?_
    refine g_sub [3, 4, 2, 1, 0] rfl ?_
    exact LOOP (pr + 1) (by omega) (by omega) (by omega) _ _ _ (ex2_5.trans (by rw [hpr])) (ex4_26.trans (nx_add (ex2_5.trans (by rw [hpr])) rfl)) (fun r hr => by rw [if_neg (by omega)]) (fun _ _ _ => rfl)
  · have n_11 := nx_ltf (a := pr) (b := n) (ex2_5.trans (by rw [hpr])) R.cnt (by omega) (by omega) c_11
    refine g_iconst (v := -1) F dX1_removeLoco_14 (by decide) ?_
    refine g_iret F hr hlk rfl dX1_removeLoco_15 ?_
    exact Or.inl ⟨by omega, rfl, rfl⟩
end
section
/-! PART 16: numbers of a tick: the class's form and the reference's are one -/
theorem nx_xor (a b : Nat) : nI a ^^^ nI b = nI (a ^^^ b) := by
  apply Int32.toBitVec_inj.1
  show BitVec.ofNat 32 a ^^^ BitVec.ofNat 32 b = BitVec.ofNat 32 (a ^^^ b)
  apply BitVec.eq_of_getLsbD_eq
  intro i hi
  simp [hi]
theorem xor_sgn (x y : Int32) (hy : 0 ≤ y.toInt) : 0 ≤ x ^^^ y ↔ 0 ≤ x.toInt := by
  have h1 : (x ^^^ y).toBitVec.msb = (x.toBitVec.msb ^^ y.toBitVec.msb) := by
    show (x.toBitVec ^^^ y.toBitVec).msb = _
    exact BitVec.msb_xor
  have e : ∀ z : Int32, z.toBitVec.msb = decide (z.toInt < 0) := fun z => BitVec.msb_eq_toInt
  rw [e, e, e] at h1
  have hy2 : decide (y.toInt < 0) = false := decide_eq_false (by omega)
  rw [hy2, Bool.xor_false] at h1
  have h2 : (x ^^^ y).toInt < 0 ↔ x.toInt < 0 := by
    have := decide_eq_decide.mp h1
    exact this
  rw [i_le]
  show (0 : Int) ≤ _ ↔ _
  omega
theorem cvS_eq {c st : Int32} (h0 : 0 ≤ c.toInt) (h2 : c.toInt ≤ 2) : cvS c st = byC c st := by
  have e : c = nI c.toInt.toNat := nat_of h0
  obtain ⟨q, hq⟩ : ∃ q, q = c.toInt.toNat := ⟨_, rfl⟩
  rw [← hq] at e
  have : q = 0 ∨ q = 1 ∨ q = 2 := by omega
  unfold cvS byC
  rcases this with rfl | rfl | rfl
  · rw [e, if_neg (by decide), if_neg (by decide), if_pos (by decide)]
  · rw [e, if_pos (by decide), if_neg (by decide), if_pos (by decide)]
  · rw [e, if_neg (by decide), if_pos (by decide), if_neg (by decide), if_neg (by decide)]
theorem goal_eq {c st w : Int32} (h0 : 0 ≤ c.toInt) (h2 : c.toInt ≤ 2) : goalF c st w = dueC c st w := by
  unfold goalF dueC
  rw [cvS_eq h0 h2]
theorem by_bd {c st : Int32} (h0 : 0 ≤ c.toInt) (h2 : c.toInt ≤ 2) (s0 : 0 ≤ st.toInt) (s1 : st.toInt ≤ 28) : 0 ≤ (byC c st).toInt ∧ (byC c st).toInt ≤ 280 := by
  have e : c = nI c.toInt.toNat := nat_of h0
  have e2 : st = nI st.toInt.toNat := nat_of s0
  obtain ⟨q, hq⟩ : ∃ q, q = c.toInt.toNat := ⟨_, rfl⟩
  obtain ⟨t, ht⟩ : ∃ t, t = st.toInt.toNat := ⟨_, rfl⟩
  rw [← hq] at e
  rw [← ht] at e2
  have key : ∀ q, q < 3 → ∀ t, t < 29 → 0 ≤ (byC (nI q) (nI t)).toInt ∧ (byC (nI q) (nI t)).toInt ≤ 280 := by decide +kernel
  rw [e, e2]
  exact key q (by omega) t (by omega)
theorem due_bd {c st w : Int32} (h0 : 0 ≤ c.toInt) (h2 : c.toInt ≤ 2) (s0 : 0 ≤ st.toInt) (s1 : st.toInt ≤ 28) : -280 ≤ (dueC c st w).toInt ∧ (dueC c st w).toInt ≤ 280 := by
  have h := by_bd h0 h2 s0 s1
  unfold dueC
  split
  · omega
  · rw [Kit.i32_neg (by omega)]
    omega
theorem gain_bd {m : Int32} (h1 : 1 ≤ m.toInt) (h2 : m.toInt ≤ 20) : 3 ≤ (60 / m).toInt ∧ (60 / m).toInt ≤ 60 := by
  have e : m = nI m.toInt.toNat := nat_of (by omega)
  obtain ⟨q, hq⟩ : ∃ q, q = m.toInt.toNat := ⟨_, rfl⟩
  rw [← hq] at e
  have key : ∀ q, q < 21 → 1 ≤ q → 3 ≤ (60 / nI q).toInt ∧ (60 / nI q).toInt ≤ 60 := by decide +kernel
  rw [e]
  exact key q (by omega) (by omega)
theorem spd_eq {m c st w sp : Int32} (m1 : 1 ≤ m.toInt) (m2 : m.toInt ≤ 20) (c0 : 0 ≤ c.toInt) (c2 : c.toInt ≤ 2) (s0 : 0 ≤ st.toInt) (s1 : st.toInt ≤ 28) (p0 : -280 ≤ sp.toInt) (p1 : sp.toInt ≤ 280) : spdF m c st w sp = spdM m c st w sp ∧ -280 ≤ (spdM m c st w sp).toInt ∧ (spdM m c st w sp).toInt ≤ 280 := by
  have hd := due_bd (w := w) c0 c2 s0 s1
  have hg := gain_bd m1 m2
  have eg : gainF m = 60 / m := by
    unfold gainF
    rw [if_neg (fun q => by have := i_le.mp q; have e0 : (0 : Int32).toInt = 0 := rfl; omega)]
  unfold spdF spdM
  rw [eg, goal_eq c0 c2]
  obtain ⟨g, eg2⟩ : ∃ g, g = 60 / m := ⟨_, rfl⟩
  rw [← eg2] at hg ⊢
  obtain ⟨q, eq⟩ : ∃ q, q = dueC c st w - sp := ⟨_, rfl⟩
  have hq : q.toInt = (dueC c st w).toInt - sp.toInt := by rw [eq, Kit.i32_sub (by omega) (by omega)]
  rw [← eq]
  have hn : (-g).toInt = -g.toInt := Kit.i32_neg (by omega)
  have ha : (sp + g).toInt = sp.toInt + g.toInt := Kit.i32_add (by omega) (by omega)
  have hs : (sp - g).toInt = sp.toInt - g.toInt := Kit.i32_sub (by omega) (by omega)
  have ht : (sp + q).toInt = sp.toInt + q.toInt := Kit.i32_add (by omega) (by omega)
  have hs2 : (sp + -g).toInt = sp.toInt - g.toInt := by rw [Kit.i32_add (by omega) (by omega), hn]; omega
  by_cases c1 : g < q
  · have d1 := i_lt.mp c1
    have i1 : mnF g q = g := by unfold mnF; exact if_neg (fun z => by have := i_lt.mp z; omega)
    have i2 : mxF (-g) g = g := by unfold mxF; exact if_pos (i_lt.mpr (by omega))
    rw [i1, i2, if_pos c1]
    exact ⟨rfl, by omega, by omega⟩
  · have d1 : q.toInt ≤ g.toInt := by have := i_le.mp (Int32.not_lt.mp c1); exact this
    have i1 : mnF g q = q := by
      unfold mnF
      by_cases c3 : q < g
      · rw [if_pos c3]
      · rw [if_neg c3]
        have := i_le.mp (Int32.not_lt.mp c3)
        exact i_eq.mpr (by omega)
    rw [i1, if_neg c1]
    by_cases c2' : q < -g
    · have d2 := i_lt.mp c2'
      have i2 : mxF (-g) q = -g := by unfold mxF; exact if_neg (fun z => by have := i_lt.mp z; omega)
      rw [i2, if_pos c2']
      exact ⟨i_eq.mpr (by omega), by omega, by omega⟩
    · have d2 : (-g).toInt ≤ q.toInt := i_le.mp (Int32.not_lt.mp c2')
      have i2 : mxF (-g) q = q := by
        unfold mxF
        by_cases c4 : -g < q
        · rw [if_pos c4]
        · rw [if_neg c4]
          have := i_le.mp (Int32.not_lt.mp c4)
          exact i_eq.mpr (by omega)
      rw [i2, if_neg c2']
      exact ⟨rfl, by omega, by omega⟩
theorem div8000 {x : Int32} (h1 : -8000 < x.toInt) (h2 : x.toInt < 16000) : (x / 8000).toInt = if x.toInt < 8000 then 0 else 1 := by
  rw [Kit.i32_div (fun q => by have : (8000 : Int32).toInt = 8000 := rfl; omega)]
  show x.toInt.tdiv 8000 = _
  by_cases c0 : 0 ≤ x.toInt
  · rw [Int.tdiv_eq_ediv_of_nonneg c0]
    split <;> omega
  · rw [if_pos (by omega)]
    have e := Int.neg_tdiv (a := -x.toInt) (b := 8000)
    rw [Int.neg_neg] at e
    rw [e, Int.tdiv_eq_ediv_of_nonneg (by omega)]
    omega
theorem mod8000 {x : Int32} (h1 : -8000 < x.toInt) (h2 : x.toInt < 16000) : (x % 8000).toInt = if x.toInt < 8000 then x.toInt else x.toInt - 8000 := by
  rw [Kit.i32_rem]
  show x.toInt.tmod 8000 = _
  by_cases c0 : 0 ≤ x.toInt
  · rw [Int.tmod_eq_emod_of_nonneg c0]
    split <;> omega
  · rw [if_pos (by omega)]
    have e := Int.neg_tmod (a := -x.toInt) (b := 8000)
    rw [Int.neg_neg] at e
    rw [e, Int.tmod_eq_emod_of_nonneg (by omega)]
    omega
theorem fd_eq {x : Int32} (h1 : -8000 < x.toInt) (h2 : x.toInt < 16000) : fdF x 8000 = rndC x := by
  have hd := div8000 h1 h2
  have e0 : (0 : Int32).toInt = 0 := rfl
  have e8 : (8000 : Int32).toInt = 8000 := rfl
  unfold fdF rndC
  by_cases c0 : 0 ≤ x.toInt
  · rw [if_pos ((xor_sgn x 8000 (by decide)).mpr c0), if_neg (fun q => by have := i_lt.mp q; omega)]
    by_cases c1 : 8000 ≤ x
    · have := i_le.mp c1
      rw [if_pos c1]
      exact i_eq.mpr (by rw [hd, if_neg (by omega)]; rfl)
    · have := i_lt.mp (Int32.not_le.mp c1)
      rw [if_neg c1]
      exact i_eq.mpr (by rw [hd, if_pos (by omega)]; rfl)
  · have hz : x / 8000 = 0 := i_eq.mpr (by rw [hd, if_pos (by omega)]; rfl)
    rw [if_neg (fun q => c0 ((xor_sgn x 8000 (by decide)).mp q)), if_pos (i_lt.mpr (by omega)), hz]
    rw [if_neg (fun q => by rw [← q] at c0; exact c0 (by decide))]
    rfl
theorem fm_eq {x : Int32} (h1 : -8000 < x.toInt) (h2 : x.toInt < 16000) : fmF x 8000 = (x + 8000) % 8000 ∧ 0 ≤ (fmF x 8000).toInt ∧ (fmF x 8000).toInt < 8000 := by
  have hd := mod8000 h1 h2
  have e0 : (0 : Int32).toInt = 0 := rfl
  have e8 : (8000 : Int32).toInt = 8000 := rfl
  have ha : (x + 8000).toInt = x.toInt + 8000 := Kit.i32_add (by omega) (by omega)
  have hr : ((x + 8000) % 8000).toInt = (x.toInt + 8000) % 8000 := by rw [Kit.i32_rem_nonneg (by omega), ha]; rfl
  have key : (fmF x 8000).toInt = (x.toInt + 8000) % 8000 := by
    unfold fmF
    by_cases c0 : 0 ≤ x.toInt
    · rw [if_pos ((xor_sgn x 8000 (by decide)).mpr c0), hd]
      split <;> omega
    · have hz : ¬ x % 8000 = 0 := fun q => by rw [q] at hd; rw [if_pos (by omega)] at hd; omega
      rw [if_neg (fun q => c0 ((xor_sgn x 8000 (by decide)).mp q)), if_neg hz]
      rw [if_pos (by omega)] at hd
      rw [Kit.i32_add (by omega) (by omega), hd]
      omega
  exact ⟨i_eq.mpr (by rw [key, hr]), by omega, by omega⟩
/-- what a loco comes to be in a tick -/
theorem drv_at {n r f : Nat} {σ : Sg} (hr : r < n) (hf : f < 11) : drvS n σ (16 + 11 * r + f) = if f = 3 then (tenS σ r + 8000) % 8000 / 10 else if f = 4 then (tenS σ r + 8000) % 8000 % 10 else if f = 5 then spdS σ r else if f = 10 then σ (16 + 11 * r + f) + rndC (tenS σ r) else σ (16 + 11 * r + f) := by
  have q1 : (16 + 11 * r + f - 16) / 11 = r := by omega
  have q2 : (16 + 11 * r + f - 16) % 11 = f := by omega
  unfold drvS
  rw [if_pos (by omega), q1, q2]
theorem drv_out {n i : Nat} {σ : Sg} (h : i < 16 ∨ 16 + 11 * n ≤ i) : drvS n σ i = σ i := by
  unfold drvS
  rw [if_neg (by omega)]
theorem drv_succ {j : Nat} {σ : Sg} : drvS (j + 1) σ = upd (upd (upd (upd (drvS j σ) (16 + 11 * j + 5) (spdS σ j)) (16 + 11 * j + 10) (σ (16 + 11 * j + 10) + rndC (tenS σ j))) (16 + 11 * j + 3) ((tenS σ j + 8000) % 8000 / 10)) (16 + 11 * j + 4) ((tenS σ j + 8000) % 8000 % 10) := by
  funext i
  by_cases c0 : i < 16 + 11 * j
  · rw [upd_n (by omega), upd_n (by omega), upd_n (by omega), upd_n (by omega)]
    by_cases c1 : i < 16
    · rw [drv_out (Or.inl c1), drv_out (Or.inl c1)]
    · obtain ⟨r, f, hf, rfl⟩ : ∃ r f, f < 11 ∧ i = 16 + 11 * r + f := ⟨(i - 16) / 11, (i - 16) % 11, by omega, by omega⟩
      rw [drv_at (by omega) hf, drv_at (by omega) hf]
  · by_cases c1 : 16 + 11 * (j + 1) ≤ i
    · rw [upd_n (by omega), upd_n (by omega), upd_n (by omega), upd_n (by omega), drv_out (Or.inr c1), drv_out (Or.inr (by omega))]
    · obtain ⟨f, hf, rfl⟩ : ∃ f, f < 11 ∧ i = 16 + 11 * j + f := ⟨i - (16 + 11 * j), by omega, by omega⟩
      rw [drv_at (by omega) hf]
      by_cases f4 : f = 4
      · rw [f4, upd_s]
        simp
      · rw [upd_n (by omega), if_neg f4]
        by_cases f3 : f = 3
        · rw [f3, upd_s]
          simp
        · rw [upd_n (by omega), if_neg f3]
          by_cases f10 : f = 10
          · rw [f10, upd_s]
            simp
          · rw [upd_n (by omega), if_neg f10]
            by_cases f5 : f = 5
            · rw [f5, upd_s]
              simp
            · rw [upd_n (by omega), if_neg f5, drv_out (Or.inr (by omega))]
theorem spdS_bd {σ : Sg} {r : Nat} (h : LcOk σ r) : -280 ≤ (spdS σ r).toInt ∧ (spdS σ r).toInt ≤ 280 := by
  obtain ⟨l1, l2, l3, l4, l5, l6, l7⟩ := h
  unfold spdS
  split
  · exact ⟨by decide, by decide⟩
  · exact (spd_eq (w := σ (16 + 11 * r + 7)) l1.1 l1.2 l2.1 l2.2 l6.1 l6.2 l5.1 l5.2).2
theorem ten_bd {σ : Sg} {r : Nat} (h : LcOk σ r) : (tenS σ r).toInt = 10 * (σ (16 + 11 * r + 3)).toInt + (σ (16 + 11 * r + 4)).toInt + (spdS σ r).toInt ∧ -8000 < (tenS σ r).toInt ∧ (tenS σ r).toInt < 16000 := by
  have hs := spdS_bd h
  obtain ⟨l1, l2, l3, l4, l5, l6, l7⟩ := h
  have e10 : (10 : Int32).toInt = 10 := rfl
  have m1 : ((10 : Int32) * σ (16 + 11 * r + 3)).toInt = 10 * (σ (16 + 11 * r + 3)).toInt := by rw [Kit.i32_mul (by rw [e10]; omega) (by rw [e10]; omega), e10]
  have m2 : ((10 : Int32) * σ (16 + 11 * r + 3) + σ (16 + 11 * r + 4)).toInt = 10 * (σ (16 + 11 * r + 3)).toInt + (σ (16 + 11 * r + 4)).toInt := by rw [Kit.i32_add (by omega) (by omega), m1]
  have m3 : (tenS σ r).toInt = 10 * (σ (16 + 11 * r + 3)).toInt + (σ (16 + 11 * r + 4)).toInt + (spdS σ r).toInt := by
    unfold tenS
    rw [Kit.i32_add (by omega) (by omega), m2]
  exact ⟨m3, by omega, by omega⟩
theorem LcOk.drv {n r : Nat} {σ : Sg} (hr : r < n) (h : LcOk σ r) : LcOk (drvS n σ) r := by
  have hs := spdS_bd h
  have ht := ten_bd h
  have hm := fm_eq ht.2.1 ht.2.2
  obtain ⟨l1, l2, l3, l4, l5, l6, l7⟩ := h
  rw [hm.1] at hm
  have hm2 := hm.2
  obtain ⟨z, hz⟩ : ∃ z, z = (tenS σ r + 8000) % 8000 := ⟨_, rfl⟩
  rw [← hz] at hm2
  have e := nat_of hm2.1
  have d1 : z / 10 = nI (z.toInt.toNat / 10) := nx_div e (b := 10) rfl (by omega) (by decide) (by decide)
  have d2 : z % 10 = nI (z.toInt.toNat % 10) := nx_rem e (b := 10) rfl (by omega) (by decide) (by decide)
  unfold LcOk
  rw [drv_at hr (show 1 < 11 by decide), drv_at hr (show 2 < 11 by decide), drv_at hr (show 3 < 11 by decide), drv_at hr (show 4 < 11 by decide), drv_at hr (show 5 < 11 by decide), drv_at hr (show 6 < 11 by decide), drv_at hr (show 7 < 11 by decide), ← hz]
  simp +decide only [if_true, if_false]
  rw [d1, d2, nI_toInt (by omega), nI_toInt (by omega)]
  exact ⟨l1, l2, ⟨by omega, by omega⟩, ⟨by omega, by omega⟩, hs, l6, l7⟩
theorem Iv.drv {n h : Nat} {σ : Sg} (V : Iv n h σ) : Iv n h (drvS n σ) := by
  obtain ⟨v1, v2, v3, v4, v5, v6, v7, v8⟩ := V
  refine ⟨by rw [drv_out (by omega)]; exact v1, v2, by rw [drv_out (by omega)]; exact v3, v4, fun r hr => (v5 r hr).drv hr, fun b hb => by rw [drv_out (by omega)]; exact v6 b hb, by rw [drv_out (by omega)]; exact v7, fun j hj => ?_⟩
  rw [drv_out (by omega), drv_out (by omega)]
  exact v8 j hj
theorem sho_out {i : Nat} {σ : Sg} (h : i < 8 ∨ 16 ≤ i) : shoS σ i = σ i := by
  unfold shoS
  rw [if_neg (by omega)]
theorem sho_bd {σ : Sg} {b : Nat} (hb : b < 8) (h : 0 ≤ (σ (8 + b)).toInt ∧ (σ (8 + b)).toInt ≤ 99) : shoS σ (8 + b) = mxF 0 (σ (8 + b) - 1) ∧ 0 ≤ (shoS σ (8 + b)).toInt ∧ (shoS σ (8 + b)).toInt ≤ 99 := by
  have e0 : (0 : Int32).toInt = 0 := rfl
  have e1 : (1 : Int32).toInt = 1 := rfl
  have hs : (σ (8 + b) - 1).toInt = (σ (8 + b)).toInt - 1 := Kit.i32_sub (by omega) (by omega)
  have h0 : (σ (8 + b) - 0).toInt = (σ (8 + b)).toInt := by rw [Kit.i32_sub (by omega) (by omega)]; omega
  unfold shoS mxF
  rw [if_pos (by omega)]
  by_cases c0 : 0 < σ (8 + b)
  · have := i_lt.mp c0
    rw [if_pos c0]
    refine ⟨?_, by omega, by omega⟩
    by_cases c1 : 0 < σ (8 + b) - 1
    · rw [if_pos c1]
    · rw [if_neg c1]
      have d := i_le.mp (Int32.not_lt.mp c1)
      exact i_eq.mpr (by omega)
  · have d := i_le.mp (Int32.not_lt.mp c0)
    rw [if_neg c0]
    refine ⟨?_, by omega, by omega⟩
    rw [if_neg (fun q => by have := i_lt.mp q; omega)]
    exact i_eq.mpr (by omega)
theorem Iv.sho {n h : Nat} {σ : Sg} (V : Iv n h σ) : Iv n h (shoS σ) := by
  obtain ⟨v1, v2, v3, v4, v5, v6, v7, v8⟩ := V
  refine ⟨by rw [sho_out (by omega)]; exact v1, v2, by rw [sho_out (by omega)]; exact v3, v4, fun r hr => (v5 r hr).cong (fun f hf => sho_out (by omega)), fun b hb => (sho_bd hb (v6 b hb)).2, by rw [sho_out (by omega)]; exact v7, fun j hj => ?_⟩
  rw [sho_out (by omega), sho_out (by omega)]
  exact v8 j hj
theorem Iv.drop {n h : Nat} {σ : Sg} (V : Iv n h σ) (h1 : 1 ≤ h) : Iv n (h - 1) (dropS h σ) := by
  obtain ⟨v1, v2, v3, v4, v5, v6, v7, v8⟩ := V
  have lo : ∀ i, i < 104 → i ≠ 7 → dropS h σ i = σ i := fun i hi h7 => by unfold dropS; rw [if_neg h7, if_neg (by omega), if_neg (by omega)]
  have hi : ∀ j w, j + 1 < h → w < 3 → dropS h σ (104 + 3 * j + w) = σ (104 + 3 * (j + 1) + w) := by
    intro j w hj hw
    unfold dropS
    rw [if_neg (by omega), if_pos (by omega)]
    congr 1
    omega
  refine ⟨by rw [lo 6 (by decide) (by decide)]; exact v1, v2, by unfold dropS; rw [if_pos rfl], by omega, fun r hr => (v5 r hr).cong (fun f hf => lo _ (by omega) (by omega)), fun b hb => by rw [lo _ (by omega) (by omega)]; exact v6 b hb, by rw [lo _ (by decide) (by decide)]; exact v7, fun j hj => ?_⟩
  have a0 := hi j 0 (by omega) (by decide)
  have a1 := hi j 1 (by omega) (by decide)
  rw [show 104 + 3 * j + 1 = 105 + 3 * j by omega, show 104 + 3 * (j + 1) + 1 = 105 + 3 * (j + 1) by omega] at a1
  rw [Nat.add_zero, Nat.add_zero] at a0
  rw [a0, a1]
  exact v8 (j + 1) (by omega)
theorem chk_bd {σ : Sg} (h0 : 0 ≤ (σ 104).toInt ∧ (σ 104).toInt ≤ 99) (h1 : 0 ≤ (σ 105).toInt ∧ (σ 105).toInt ≤ 255) : 0 ≤ (chkS σ).toInt ∧ (chkS σ).toInt ≤ 255 := by
  have e0 := nat_of h0.1
  have e1 := nat_of h1.1
  have hx : (σ 104).toInt.toNat ^^^ (σ 105).toInt.toNat < 2 ^ 8 := Nat.xor_lt_two_pow (by omega) (by omega)
  have ex : σ 104 ^^^ σ 105 = nI ((σ 104).toInt.toNat ^^^ (σ 105).toInt.toNat) := by rw [← nx_xor, ← e0, ← e1]
  unfold chkS
  split
  · have e2 : ((σ 104 ^^^ σ 105) + 1) % 256 = nI ((((σ 104).toInt.toNat ^^^ (σ 105).toInt.toNat) + 1) % 256) := nx_rem (nx_add ex (b := 1) rfl) (b := 256) rfl (by omega) (by decide) (by decide)
    rw [e2, nI_toInt (by omega)]
    omega
  · rw [ex, nI_toInt (by omega)]
    omega
theorem Iv.spoil {n h : Nat} {σ : Sg} (V : Iv n h σ) (h1 : 1 ≤ h) : Iv n (h - 1) (spoilS σ h) := by
  have V1 := V.drop h1
  unfold spoilS
  split
  · exact V1.num (fun i hi => by rw [upd_n (by omega), upd_n (by omega)]) (by rw [upd_n (by omega), upd_n (by omega)])
  · exact V1
theorem Iv.send {n h : Nat} {σ : Sg} (V : Iv n h σ) : Iv n (h - 1) (sendS n h σ).1 := by
  unfold sendS
  split
  · rename_i e
    subst e
    exact V
  · rename_i e
    have V1 := V.spoil (by omega)
    have b := V.2.2.2.2.2.2.2 0 (by omega)
    exact V1.com b.2
theorem Iv.tick {n h : Nat} {σ : Sg} (V : Iv n h σ) : Iv n (h - 1) (tickS n h σ) := by
  have V1 := V.send.drv.sho
  unfold tickS bothS
  exact V1.num (fun i hi => by rw [upd_n (by omega), upd_n (by omega)]) (by rw [upd_n (by omega), upd_n (by omega)])
theorem Iv.it {n h : Nat} {σ : Sg} (V : Iv n h σ) : ∀ m, Iv n (h - m) (itS n h σ m).1 := by
  intro m
  induction m with
  | zero => exact V
  | succ m ih =>
    have := ih.tick
    rw [Nat.sub_sub] at this
    exact this
theorem age1 (t s : Int32) : t + 1 - s = t - s + 1 := by
  rw [Int32.sub_eq_add_neg, Int32.sub_eq_add_neg, Int32.add_assoc, Int32.add_comm 1, ← Int32.add_assoc]
def shoJ (j : Nat) (σ : Sg) : Sg := fun i => if 8 ≤ i ∧ i < 8 + j then σ i - (if 0 < σ i then 1 else 0) else σ i
theorem shoJ_0 {σ : Sg} : shoJ 0 σ = σ := by
  funext i
  unfold shoJ
  rw [if_neg (by omega)]
theorem shoJ_8 {σ : Sg} : shoJ 8 σ = shoS σ := rfl
theorem shoJ_at {j : Nat} {σ : Sg} : shoJ j σ (8 + j) = σ (8 + j) := by
  unfold shoJ
  rw [if_neg (by omega)]
theorem shoJ_succ {j : Nat} {σ : Sg} (hj : j < 8) : shoJ (j + 1) σ = upd (shoJ j σ) (8 + j) (shoS σ (8 + j)) := by
  funext i
  by_cases e : i = 8 + j
  · rw [e, upd_s]
    rw [show shoJ (j + 1) σ (8 + j) = σ (8 + j) - (if 0 < σ (8 + j) then 1 else 0) from if_pos (by omega), show shoS σ (8 + j) = σ (8 + j) - (if 0 < σ (8 + j) then 1 else 0) from if_pos (by omega)]
  · rw [upd_n e]
    unfold shoJ
    by_cases c : 8 ≤ i ∧ i < 8 + j
    · rw [if_pos (by omega), if_pos c]
    · rw [if_neg (by omega), if_neg c]
end
section
/-! PART 17: a tick -/
theorem drop_lo {h i : Nat} {σ : Sg} (hi : i < 104) (h7 : i ≠ 7) : dropS h σ i = σ i := by
  unfold dropS
  rw [if_neg h7, if_neg (by omega), if_neg (by omega)]
theorem Rp.roll {n h : Nat} {I : Ii} {pm : Pm} {k j : Nat} {σ : Sg} (R : Rp n h I pm k (drvS j σ)) (hj : j < n) (L : LcOk σ j) : Rp n h (rollI (up3 I 7 (8 * k + pm k j) 5 (spdS σ j)) (8 * k + pm k j)) pm k (drvS (j + 1) σ) := by
  have lo : ∀ f, f < 11 → drvS j σ (16 + 11 * j + f) = σ (16 + 11 * j + f) := fun f hf => drv_out (Or.inr (by omega))
  have e3 : I 7 (8 * k + pm k j) 3 = σ (16 + 11 * j + 3) := (R.lc (f := 3) hj (by decide)).trans (lo 3 (by decide))
  have e4 : I 7 (8 * k + pm k j) 4 = σ (16 + 11 * j + 4) := (R.lc (f := 4) hj (by decide)).trans (lo 4 (by decide))
  have e6 : I 7 (8 * k + pm k j) 6 = σ (16 + 11 * j + 10) := (R.lc (f := 10) hj (by decide)).trans (lo 10 (by decide))
  have ea : lcAt (up3 I 7 (8 * k + pm k j) 5 (spdS σ j)) (8 * k + pm k j) = tenS σ j := by
    unfold lcAt tenS
    rw [up3_s, up3_n (by omega), up3_n (by omega), e3, e4, Int32.mul_comm]
  have ht := ten_bd L
  unfold rollI
  rw [ea, fd_eq ht.2.1 ht.2.2, (fm_eq ht.2.1 ht.2.2).1, up3_n (I := I) (by omega), e6, drv_succ]
  exact (((R.loco hj (f := 5) (by decide) _).loco hj (f := 10) (by decide) _).loco hj (f := 3) (by decide) _).loco hj (f := 4) (by decide) _
theorem Fr.roll {I : Ii} {pm : Pm} {k j : Nat} {v : Int32} (hj : j < 8) : Fr k I pm (rollI (up3 I 7 (8 * k + j) 5 v) (8 * k + j)) pm := by
  have e := inL_7 (k := k) hj
  unfold rollI
  exact (((Fr.up e).tr (Fr.up e)).tr (Fr.up e)).tr (Fr.up e)
set_option maxHeartbeats 4000000 in
set_option maxRecDepth 100000 in
theorem c_X1_sendFirst {l : Launch} {G : Gm} (hj : Aj G) {I : Ii} {pm : Pm} {k : Nat} (hk : k < 11) {n h : Nat} {σ : Sg} (R : Rp n h I pm k σ) (V : Iv n h σ) : CI l G yX1_sendFirst (wz yX1_sendFirst cX1_sendFirst 4 (some .int)) (rmL 3) [.ref (G.2.2 0 k)] I pm (fun r u => r = (sendS n h σ).2 ∧ Rp n (h - 1) u.1 u.2 k (sendS n h σ).1 ∧ Fr k I pm u.1 u.2 ∧ u.2 = pm) := by
  have hh := R.h20
  refine CI.walk hj (by decide +kernel) (by show _ ≤ 4; exact Nat.le_of_ble_eq_true rfl) ?_
  intro p e s m args below meth c F hr hlk
  refine g_aload_n F 0 dX1_sendFirst_0 rfl rfl ?_
  refine gf_0_1 F hk mFL_X1_20 dX1_sendFirst_1 ?_
  refine gf_2_3 F hk mFL_X1_120 dX1_sendFirst_4 ?_
  refine g_iconst (v := 1) F dX1_sendFirst_7 (by decide) ?_
  refine g_icmp_ge F 13 dX1_sendFirst_8 (by decide) (fun c_8 => ?_) (fun c_8 => ?_)
  · have n_8 := nx_get (a := h) (b := 1) R.hel rfl (by omega) (by omega) c_8
    refine g_aload_n F 0 dX1_sendFirst_13 rfl rfl ?_
    refine gf_0_1 F hk mFL_X1_20 dX1_sendFirst_14 ?_
    refine gf_2_0 F hk mFL_X1_123 dX1_sendFirst_17 ?_
    refine g_iconst (v := 0) F dX1_sendFirst_20 (by decide) ?_
    refine ga_3 (j := 0) F hk rfl (by omega) dX1_sendFirst_21 ?_
    refine g_topi (fun x1_22 ex1_22 => ?_)
    refine g_istore_n (L' := [(1, _), (0, _)]) F dX1_sendFirst_22 rfl (by decide) rfl ?_
    refine g_aload_n F 1 dX1_sendFirst_23 rfl rfl ?_
    refine gf_0_1 F hk mFL_X1_20 dX1_sendFirst_24 ?_
    refine gf_2_1 F hk mFL_X1_126 dX1_sendFirst_27 ?_
    refine g_iconst (v := 0) F dX1_sendFirst_30 (by decide) ?_
    refine ga_4 (j := 0) F hk rfl (by omega) dX1_sendFirst_31 ?_
    refine g_topi (fun x2_32 ex2_32 => ?_)
    refine g_istore_n (L' := [(2, _), (1, _), (0, _)]) F dX1_sendFirst_32 rfl (by decide) rfl ?_
    refine g_iload_n F 1 dX1_sendFirst_33 rfl rfl ?_
    refine g_iload_n F 0 dX1_sendFirst_34 rfl rfl ?_
    refine g_ixor F dX1_sendFirst_35 ?_
    refine g_topi (fun x3_36 ex3_36 => ?_)
    refine g_istore_n (L' := [(3, _), (2, _), (1, _), (0, _)]) F dX1_sendFirst_36 rfl (by decide) rfl ?_
    have hb : (0 ≤ (σ 104).toInt ∧ (σ 104).toInt ≤ 99) ∧ 0 ≤ (σ 105).toInt ∧ (σ 105).toInt ≤ 255 := V.2.2.2.2.2.2.2 0 (by omega)
    have rw0 := R.row (j := 0) (by omega)
    have e1 : x1_22 = σ 104 := ex1_22.trans rw0.1
    have e2 : x2_32 = σ 105 := ex2_32.trans rw0.2.1
    have e3 : x3_36 = σ 104 ^^^ σ 105 := by rw [ex3_36, e1, e2]
    have hcb := chk_bd hb.1 hb.2
    have HB12 : (0 ≤ x1_22 ∧ x1_22 ≤ 255) ∧ (0 ≤ x2_32 ∧ x2_32 ≤ 255) := by
      rw [e1, e2]
      have q0 := hb.1
      have q1 := hb.2
      exact ⟨⟨i_le.mpr q0.1, i_le.mpr (by have : (255 : Int32).toInt = 255 := rfl; omega)⟩, ⟨i_le.mpr q1.1, i_le.mpr (by have : (255 : Int32).toInt = 255 := rfl; omega)⟩⟩
    refine g_aload_n F 3 dX1_sendFirst_37 rfl rfl ?_
    refine gf_0_1 F hk mFL_X1_20 dX1_sendFirst_38 ?_
    refine g_callVv (na := 0) F 2 _ (c_X4_dropFirst hj hk R n_8) hk rfl rfl lk_X1_129 rfl rfl (by decide +kernel) ⟨rfl, rfl, Nat.le_of_ble_eq_true rfl, Nat.le_of_ble_eq_true rfl, Nat.le_of_ble_eq_true rfl, Nat.le_of_ble_eq_true rfl, Nat.le_of_ble_eq_true rfl⟩ dX1_sendFirst_41 (fun u_41 h_41 => ?_)
    obtain ⟨Rd, ue, uo⟩ := h_41
    obtain ⟨I3, pm3⟩ := u_41
    dsimp only at Rd ue uo
    have ue2 := ue.symm
    subst ue2
    dsimp only
    have en : I3 0 k 5 = σ 1 := Rd.1.2.2.1.trans (drop_lo (by decide) (by decide))
    have eg : I3 0 k 4 - I3 0 k 6 = σ 2 := Rd.1.2.2.2.1.trans (drop_lo (by decide) (by decide))
    have Fd : Fr k I pm I3 pm := Fr.rows uo
    refine g_aload_n F 3 dX1_sendFirst_44 rfl rfl ?_
    refine gf_0_5 F hk mFL_X1_49 dX1_sendFirst_45 ?_
    refine g_if_le F 93 dX1_sendFirst_48 (by decide) (fun c_48 => ?_) (fun c_48 => ?_)
    · have CC : ¬ (0 < σ 1 ∧ σ 1 ≤ σ 2) := fun q => Int32.not_lt.mpr c_48 (by rw [en]; exact q.1)
      have HC : x3_36 = chkS σ := by rw [e3]; unfold chkS; rw [if_neg CC]
      have HB3 : 0 ≤ x3_36 ∧ x3_36 ≤ 255 := by rw [HC]; exact ⟨i_le.mpr hcb.1, i_le.mpr hcb.2⟩
      have RS : Rp n (h - 1) I3 pm k (spoilS σ h) := by unfold spoilS; rw [if_neg CC]; exact Rd
      refine g_aload_n F 3 dX1_sendFirst_93 rfl rfl ?_
      refine g_iload_n F 2 dX1_sendFirst_94 rfl rfl ?_
      refine g_iload_n F 1 dX1_sendFirst_95 rfl rfl ?_
      refine g_iload_n F 0 dX1_sendFirst_96 rfl rfl ?_
      refine g_callIv (na := 3) F 0 _ (c_X1_takeFrame hj hk RS (V.spoil n_8)) hk rfl rfl lk_X1_132 rfl rfl (by decide +kernel) ⟨rfl, rfl, Nat.le_of_ble_eq_true rfl, Nat.le_of_ble_eq_true rfl, Nat.le_of_ble_eq_true rfl, Nat.le_of_ble_eq_true rfl, Nat.le_of_ble_eq_true rfl⟩ dX1_sendFirst_97 (fun r_97 u_97 h_97 => ?_)
      rcases h_97 with ⟨N, -, -⟩ | ⟨-, hr9, Ru, Fu, up⟩
      · exact absurd ⟨HB12.1, HB12.2, HB3⟩ N
      refine g_pop F dX1_sendFirst_100 rfl ?_
      refine g_iconst (v := 1) F dX1_sendFirst_101 (by decide) ?_
      refine g_iret F hr hlk rfl dX1_sendFirst_102 ?_
      have hne : ¬ h = 0 := by omega
      rw [e1, e2, HC] at Ru
      unfold sendS
      rw [if_neg hne]
      first
      | exact ⟨rfl, Ru, Fd.tr Fu, up⟩
      | exact ⟨rfl, Ru, ((Fd.tr (Fr.up (inL_0 (by decide)))).tr (Fr.up (inL_0 (by decide)))).tr Fu, up⟩
    · refine g_aload_n F 3 dX1_sendFirst_51 rfl rfl ?_
      refine gf_0_4 F hk mFL_X1_46 dX1_sendFirst_52 ?_
      refine g_aload_n F 3 dX1_sendFirst_55 rfl rfl ?_
      refine gf_0_6 F hk mFL_X1_52 dX1_sendFirst_56 ?_
      refine g_isub F dX1_sendFirst_59 ?_
      refine g_aload_n F 3 dX1_sendFirst_60 rfl rfl ?_
      refine gf_0_5 F hk mFL_X1_49 dX1_sendFirst_61 ?_
      refine g_icmp_lt F 93 dX1_sendFirst_64 (by decide) (fun c_64 => ?_) (fun c_64 => ?_)
      · have CC : ¬ (0 < σ 1 ∧ σ 1 ≤ σ 2) := fun q => Int32.not_le.mpr c_64 (by rw [en, eg]; exact q.2)
        have HC : x3_36 = chkS σ := by rw [e3]; unfold chkS; rw [if_neg CC]
        have HB3 : 0 ≤ x3_36 ∧ x3_36 ≤ 255 := by rw [HC]; exact ⟨i_le.mpr hcb.1, i_le.mpr hcb.2⟩
        have RS : Rp n (h - 1) I3 pm k (spoilS σ h) := by unfold spoilS; rw [if_neg CC]; exact Rd
        refine g_aload_n F 3 dX1_sendFirst_93 rfl rfl ?_
        refine g_iload_n F 2 dX1_sendFirst_94 rfl rfl ?_
        refine g_iload_n F 1 dX1_sendFirst_95 rfl rfl ?_
        refine g_iload_n F 0 dX1_sendFirst_96 rfl rfl ?_
        refine g_callIv (na := 3) F 0 _ (c_X1_takeFrame hj hk RS (V.spoil n_8)) hk rfl rfl lk_X1_132 rfl rfl (by decide +kernel) ⟨rfl, rfl, Nat.le_of_ble_eq_true rfl, Nat.le_of_ble_eq_true rfl, Nat.le_of_ble_eq_true rfl, Nat.le_of_ble_eq_true rfl, Nat.le_of_ble_eq_true rfl⟩ dX1_sendFirst_97 (fun r_97 u_97 h_97 => ?_)
        rcases h_97 with ⟨N, -, -⟩ | ⟨-, hr9, Ru, Fu, up⟩
        · exact absurd ⟨HB12.1, HB12.2, HB3⟩ N
        refine g_pop F dX1_sendFirst_100 rfl ?_
        refine g_iconst (v := 1) F dX1_sendFirst_101 (by decide) ?_
        refine g_iret F hr hlk rfl dX1_sendFirst_102 ?_
        have hne : ¬ h = 0 := by omega
        rw [e1, e2, HC] at Ru
        unfold sendS
        rw [if_neg hne]
        first
        | exact ⟨rfl, Ru, Fd.tr Fu, up⟩
        | exact ⟨rfl, Ru, ((Fd.tr (Fr.up (inL_0 (by decide)))).tr (Fr.up (inL_0 (by decide)))).tr Fu, up⟩
      · have CC : 0 < σ 1 ∧ σ 1 ≤ σ 2 := ⟨by rw [← en]; exact Int32.not_le.mp c_48, by rw [← en, ← eg]; exact Int32.not_lt.mp c_64⟩
        have RS : Rp n (h - 1) (up3 (up3 I3 0 k 6 (I3 0 k 4)) 0 k 9 (I3 0 k 9 + 1)) pm k (spoilS σ h) := by
          unfold spoilS
          rw [if_pos CC]
          have e9 : I3 0 k 9 = σ 5 := Rd.1.2.2.2.2.2.2.1.trans (drop_lo (by decide) (by decide))
          exact Rd.num (fun K i j hK => by rw [up3_k hK, up3_k hK]) (fun i hi => by rw [upd_n (by omega), upd_n (by omega)]) (by simp [up3, upd]; exact Rd.1.1) (by simp [up3, upd]; exact Rd.1.2.1) (by simp [up3, upd]; exact Rd.1.2.2.1) (by simp [up3, upd]) (by simp [up3, upd]; exact Rd.1.2.2.2.2.1) (by simp [up3, upd]; exact Rd.1.2.2.2.2.2.1) (by simp [up3, upd]; exact e9)
        refine g_iload_n F 0 dX1_sendFirst_67 rfl rfl ?_
        refine g_iconst (v := 1) F dX1_sendFirst_68 (by decide) ?_
        refine g_iadd F dX1_sendFirst_69 ?_
        refine g_sipush (v := 256) F dX1_sendFirst_70 (by decide) ?_
        refine g_irem F dX1_sendFirst_73 (by decide) ?_
        refine g_topi (fun x3_74 ex3_74 => ?_)
        refine g_istore_n (L' := [(3, _), (2, _), (1, _), (0, _)]) F dX1_sendFirst_74 rfl (by decide) rfl ?_
        have HC : x3_74 = chkS σ := by rw [ex3_74, e3]; unfold chkS; rw [if_pos CC]
        have HB3 : 0 ≤ x3_74 ∧ x3_74 ≤ 255 := by rw [HC]; exact ⟨i_le.mpr hcb.1, i_le.mpr hcb.2⟩
        refine g_aload_n F 3 dX1_sendFirst_75 rfl rfl ?_
        refine g_aload_n F 3 dX1_sendFirst_76 rfl rfl ?_
        refine gf_0_4 F hk mFL_X1_46 dX1_sendFirst_77 ?_
        refine gp_0_6 F hk mFL_X1_52 dX1_sendFirst_80 ?_
        refine g_aload_n F 3 dX1_sendFirst_83 rfl rfl ?_
        refine g_dup F dX1_sendFirst_84 rfl ?_
        refine gf_0_9 F hk mFL_X1_61 dX1_sendFirst_85 ?_
        refine g_eqi (y := I3 0 k 9) (by simp [up3]) ?_
        refine g_iconst (v := 1) F dX1_sendFirst_88 (by decide) ?_
        refine g_iadd F dX1_sendFirst_89 ?_
        refine gp_0_9 F hk mFL_X1_61 dX1_sendFirst_90 ?_
        refine g_aload_n F 3 dX1_sendFirst_93 rfl rfl ?_
        refine g_iload_n F 2 dX1_sendFirst_94 rfl rfl ?_
        refine g_iload_n F 1 dX1_sendFirst_95 rfl rfl ?_
        refine g_iload_n F 0 dX1_sendFirst_96 rfl rfl ?_
        refine g_callIv (na := 3) F 0 _ (c_X1_takeFrame hj hk RS (V.spoil n_8)) hk rfl rfl lk_X1_132 rfl rfl (by decide +kernel) ⟨rfl, rfl, Nat.le_of_ble_eq_true rfl, Nat.le_of_ble_eq_true rfl, Nat.le_of_ble_eq_true rfl, Nat.le_of_ble_eq_true rfl, Nat.le_of_ble_eq_true rfl⟩ dX1_sendFirst_97 (fun r_97 u_97 h_97 => ?_)
        rcases h_97 with ⟨N, -, -⟩ | ⟨-, hr9, Ru, Fu, up⟩
        · exact absurd ⟨HB12.1, HB12.2, HB3⟩ N
        refine g_pop F dX1_sendFirst_100 rfl ?_
        refine g_iconst (v := 1) F dX1_sendFirst_101 (by decide) ?_
        refine g_iret F hr hlk rfl dX1_sendFirst_102 ?_
        have hne : ¬ h = 0 := by omega
        rw [e1, e2, HC] at Ru
        unfold sendS
        rw [if_neg hne]
        first
        | exact ⟨rfl, Ru, Fd.tr Fu, up⟩
        | exact ⟨rfl, Ru, ((Fd.tr (Fr.up (inL_0 (by decide)))).tr (Fr.up (inL_0 (by decide)))).tr Fu, up⟩
  · have n_8 := nx_gef (a := h) (b := 1) R.hel rfl (by omega) (by omega) c_8
    refine g_iconst (v := 0) F dX1_sendFirst_11 (by decide) ?_
    refine g_iret F hr hlk rfl dX1_sendFirst_12 ?_
    have h0 : h = 0 := by omega
    subst h0
    exact ⟨rfl, R, Fr.rf, rfl⟩
set_option maxHeartbeats 4000000 in
set_option maxRecDepth 100000 in
theorem c_X1_tick {l : Launch} {G : Gm} (hj : Aj G) {I : Ii} {pm : Pm} {k : Nat} (hk : k < 11) {n h : Nat} {σ : Sg} (R : Rp n h I pm k σ) (V : Iv n h σ) : CI l G yX1_tick (wz yX1_tick cX1_tick 4 (some .int)) (rmL 4) [.ref (G.2.2 0 k)] I pm (fun r u => r = (sendS n h σ).2 ∧ Rp n (h - 1) u.1 u.2 k (tickS n h σ) ∧ Fr k I pm u.1 u.2 ∧ u.2 = pm) := by
  refine CI.walk hj (by decide +kernel) (by show _ ≤ 4; exact Nat.le_of_ble_eq_true rfl) ?_
  intro p e s m args below meth c F hr hlk
  have hn8 := R.n8
  have V1 := V.send
  have VD := V1.drv
  obtain ⟨σ1, hσ1⟩ : ∃ q, q = (sendS n h σ).1 := ⟨_, rfl⟩
  rw [← hσ1] at V1 VD
  have LOOP2 : ∀ j, j ≤ 8 → ∀ (I2 : Ii) (xs xj : Int32), xj = nI j → xs = (sendS n h σ).2 → Rp n (h - 1) I2 pm k (shoJ j (drvS n σ1)) → Fr k I pm I2 pm → GG p l e (rmL 4) s m args below meth c G (AA G) 4 0 0 (MQ below (va_Qi (fun (r : Int32) (u : Ii × Pm) => r = (sendS n h σ).2 ∧ Rp n (h - 1) u.1 u.2 k (tickS n h σ) ∧ Fr k I pm u.1 u.2 ∧ u.2 = pm) (fun (u : Ii × Pm) t => Wd G u.1 u.2 t.heap) (AA G)) args s 0 0 (AA G)) I2 pm [(0, .ref (G.2.2 0 k)), (1, .int xs), (2, .int xj)] 57 [] := by
    refine dn_ind ?_
    intro j hjl ih I2 xs xj ej es R2 F2
    refine g_iload_n F 2 dX1_tick_57 rfl rfl ?_
    refine g_bipush (v := 8) F dX1_tick_58 (by decide) ?_
    refine g_icmp_ge F 87 dX1_tick_60 (by decide) (fun c_60 => ?_) (fun c_60 => ?_)
    · have n_60 := nx_get (a := j) (b := 8) ej rfl (by omega) (by omega) c_60
      refine g_aload_n F 0 dX1_tick_87 rfl rfl ?_
      refine g_dup F dX1_tick_88 rfl ?_
      refine gf_0_4 F hk mFL_X1_46 dX1_tick_89 ?_
      refine g_iconst (v := 1) F dX1_tick_92 (by decide) ?_
      refine g_iadd F dX1_tick_93 ?_
      refine gp_0_4 F hk mFL_X1_46 dX1_tick_94 ?_
      refine g_iload_n F 1 dX1_tick_97 rfl rfl ?_
      refine g_iret F hr hlk rfl dX1_tick_98 ?_
      have hj8 : j = 8 := by omega
      subst hj8
      rw [shoJ_8] at R2
      refine ⟨es, ?_, F2.tr (Fr.up (inL_0 (by decide))), rfl⟩
      unfold tickS bothS
      rw [← hσ1]
      exact R2.num (fun K i j hK => up3_k hK) (fun i hi => by rw [upd_n (by omega), upd_n (by omega)]) (by simp [up3, upd]; exact R2.1.1) (by simp [up3, upd]; exact R2.1.2.1) (by simp [up3, upd]; exact R2.1.2.2.1) (by simp only [up3, upd]; simp; rw [age1, R2.1.2.2.2.1]) (by simp [up3, upd]; exact R2.1.2.2.2.2.1) (by simp [up3, upd]; exact R2.1.2.2.2.2.2.1) (by simp [up3, upd]; exact R2.1.2.2.2.2.2.2.1)
    · have n_60 := nx_gef (a := j) (b := 8) ej rfl (by omega) (by omega) c_60
      refine g_aload_n F 0 dX1_tick_63 rfl rfl ?_
      refine gf_0_2 F hk mFL_X1_24 dX1_tick_64 ?_
      refine g_iload_n F 2 dX1_tick_67 rfl rfl ?_
      refine g_iconst (v := 0) F dX1_tick_68 (by decide) ?_
      refine g_aload_n F 0 dX1_tick_69 rfl rfl ?_
      refine gf_0_2 F hk mFL_X1_24 dX1_tick_70 ?_
      refine g_iload_n F 2 dX1_tick_73 rfl rfl ?_
      refine ga_6 (j := j) F hk ej (by omega) dX1_tick_74 ?_
      refine g_iconst (v := 1) F dX1_tick_75 (by decide) ?_
      refine g_isub F dX1_tick_76 ?_
      refine g_mmax F mML_X1_114 mST_LMmax mIN_java_lang_Math mCO_LMmax ⟨Nat.le_of_ble_eq_true rfl, Nat.le_of_ble_eq_true rfl, Nat.le_of_ble_eq_true rfl, Nat.le_of_ble_eq_true rfl⟩ dX1_tick_77 ?_
      refine gs_6 (j := j) F hk ej (by omega) dX1_tick_80 ?_
      refine g_iincC (q := 1) (L' := [(2, _), (0, _), (1, _)]) F 2 dX1_tick_81 (by decide) rfl (by decide) rfl ?_
      refine g_goto F 57 dX1_tick_84 (by decide) ?_
      refine g_sub [1, 2, 0] rfl ?_
      have eb : I2 6 k j = drvS n σ1 (8 + j) := (R2.sh (by omega)).trans shoJ_at
      have hb := sho_bd (σ := drvS n σ1) (b := j) (by omega) (VD.2.2.2.2.2.1 j (by omega))
      refine ih (by omega) _ _ _ (nx_add ej rfl) es ?_ (F2.tr (Fr.up (inL_0 (by decide))))
      rw [shoJ_succ (by omega), hb.1, eb]
      exact R2.short (by omega) _
  have LOOP1 : ∀ j, j ≤ n → ∀ (I2 : Ii) (xs xj : Int32), xj = nI j → xs = (sendS n h σ).2 → Rp n (h - 1) I2 pm k (drvS j σ1) → Fr k I pm I2 pm → GG p l e (rmL 4) s m args below meth c G (AA G) 4 0 0 (MQ below (va_Qi (fun (r : Int32) (u : Ii × Pm) => r = (sendS n h σ).2 ∧ Rp n (h - 1) u.1 u.2 k (tickS n h σ) ∧ Fr k I pm u.1 u.2 ∧ u.2 = pm) (fun (u : Ii × Pm) t => Wd G u.1 u.2 t.heap) (AA G)) args s 0 0 (AA G)) I2 pm [(0, .ref (G.2.2 0 k)), (1, .int xs), (2, .int xj)] 7 [] := by
    refine dn_ind ?_
    intro j hjl ih I2 xs xj ej es R2 F2
    refine g_iload_n F 2 dX1_tick_7 rfl rfl ?_
    refine g_aload_n F 0 dX1_tick_8 rfl rfl ?_
    refine gf_0_3 F hk mFL_X1_29 dX1_tick_9 ?_
    refine g_icmp_ge F 55 dX1_tick_12 (by decide) (fun c_12 => ?_) (fun c_12 => ?_)
    · have n_12 := nx_get (a := j) (b := n) ej R2.cnt (by omega) (by omega) c_12
      refine g_iconst (v := 0) F dX1_tick_55 (by decide) ?_
      refine g_istore_n (L' := [(2, _), (0, _), (1, _)]) F dX1_tick_56 rfl (by decide) rfl ?_
      refine g_sub [1, 2, 0] rfl ?_
      have hjn : j = n := by omega
      subst hjn
      exact LOOP2 0 (by decide) _ _ _ (rfl) es (by rw [shoJ_0]; exact R2) F2
    · have n_12 := nx_gef (a := j) (b := n) ej R2.cnt (by omega) (by omega) c_12
      have hi7 : 8 * k + pm k j < 88 := inL7 hk (R2.p8 (by omega))
      have L1 := V1.2.2.2.2.1 j (by omega)
      have lo : ∀ f, f < 11 → drvS j σ1 (16 + 11 * j + f) = σ1 (16 + 11 * j + f) := fun f hf => drv_out (Or.inr (by omega))
      have LL : LcOk (drvS j σ1) j := L1.cong lo
      have ebk : blkS (drvS j σ1) j = blkS σ1 j := by unfold blkS; rw [lo 3 (by decide)]
      have esh : drvS j σ1 (8 + blkS (drvS j σ1) j) = σ1 (8 + blkS σ1 j) := by rw [ebk]; exact drv_out (Or.inl (by have := blk_lt L1; omega))
      refine g_aload_n F 0 dX1_tick_15 rfl rfl ?_
      refine gf_0_0 F hk mFL_X1_11 dX1_tick_16 ?_
      refine g_iload_n F 2 dX1_tick_19 rfl rfl ?_
      refine ga_1 (j := j) F hk ej (by omega) dX1_tick_20 ?_
      refine g_astore_n (L' := [(3, _), (0, _), (1, _), (2, _)]) F dX1_tick_21 rfl (by decide) rfl ?_
      refine g_aload_n F 1 dX1_tick_22 rfl rfl ?_
      refine g_aload_n F 0 dX1_tick_23 rfl rfl ?_
      refine g_callIv (na := 0) F 7 _ (c_X2_blockNumber hj hi7) hi7 rfl rfl lk_X1_87 rfl rfl (by decide +kernel) ⟨rfl, rfl, Nat.le_of_ble_eq_true rfl, Nat.le_of_ble_eq_true rfl, Nat.le_of_ble_eq_true rfl, Nat.le_of_ble_eq_true rfl, Nat.le_of_ble_eq_true rfl⟩ dX1_tick_24 (fun r_24 u_24 h_24 => ?_)
      obtain ⟨rfl, rfl⟩ := h_24
      try dsimp only
      refine g_callIv (na := 1) F 0 _ (c_X1_isShorted hj hk (blk_lt LL) (R2.blk (by omega) LL)) hk rfl rfl lk_X1_91 rfl rfl (by decide +kernel) ⟨rfl, rfl, Nat.le_of_ble_eq_true rfl, Nat.le_of_ble_eq_true rfl, Nat.le_of_ble_eq_true rfl, Nat.le_of_ble_eq_true rfl, Nat.le_of_ble_eq_true rfl⟩ dX1_tick_27 (fun r_27 u_27 h_27 => ?_)
      obtain ⟨rfl, rfl⟩ := h_27
      try dsimp only
      rw [R2.sh (blk_lt LL)]
      refine g_if_eq F 41 dX1_tick_30 (by decide) (fun c_30 => ?_) (fun c_30 => ?_)
      · have c30 : ¬ 0 < σ1 (8 + blkS σ1 j) := by rw [← esh]; exact bz_0.mp c_30
        have hsp : spdS σ1 j = spdF (I2 7 (8 * k + pm k j) 1) (I2 7 (8 * k + pm k j) 2) (I2 7 (8 * k + pm k j) 7) (I2 7 (8 * k + pm k j) 8) (I2 7 (8 * k + pm k j) 5) := by
          have g1 : I2 7 (8 * k + pm k j) 1 = σ1 (16 + 11 * j + 1) := (R2.lc (f := 1) (by omega) (by decide)).trans (lo 1 (by decide))
          have g2 : I2 7 (8 * k + pm k j) 2 = σ1 (16 + 11 * j + 2) := (R2.lc (f := 2) (by omega) (by decide)).trans (lo 2 (by decide))
          have g5 : I2 7 (8 * k + pm k j) 5 = σ1 (16 + 11 * j + 5) := (R2.lc (f := 5) (by omega) (by decide)).trans (lo 5 (by decide))
          have g7 : I2 7 (8 * k + pm k j) 7 = σ1 (16 + 11 * j + 6) := (R2.lc (f := 6) (by omega) (by decide)).trans (lo 6 (by decide))
          have g8 : I2 7 (8 * k + pm k j) 8 = σ1 (16 + 11 * j + 7) := (R2.lc (f := 7) (by omega) (by decide)).trans (lo 7 (by decide))
          rw [g1, g2, g5, g7, g8]
          unfold spdS
          rw [if_neg c30]
          obtain ⟨l1, l2, l3, l4, l5, l6, l7⟩ := L1
          exact (spd_eq l1.1 l1.2 l2.1 l2.2 l6.1 l6.2 l5.1 l5.2).1.symm
        refine g_aload_n F 0 dX1_tick_41 rfl rfl ?_
        refine g_callVv (na := 0) F 7 _ (c_X2_changeSpeed hj hi7) hi7 rfl rfl lk_X1_108 rfl rfl (by decide +kernel) ⟨rfl, rfl, Nat.le_of_ble_eq_true rfl, Nat.le_of_ble_eq_true rfl, Nat.le_of_ble_eq_true rfl, Nat.le_of_ble_eq_true rfl, Nat.le_of_ble_eq_true rfl⟩ dX1_tick_42 (fun u_42 h_42 => ?_)
        subst h_42
        try dsimp only
        refine g_I (I' := up3 I2 7 (8 * k + pm k j) 5 (spdS σ1 j)) (by rw [hsp]) ?_
        refine g_aload_n F 0 dX1_tick_45 rfl rfl ?_
        refine g_callVv (na := 0) F 7 _ (c_X2_roll hj hi7) hi7 rfl rfl lk_X1_111 rfl rfl (by decide +kernel) ⟨rfl, rfl, Nat.le_of_ble_eq_true rfl, Nat.le_of_ble_eq_true rfl, Nat.le_of_ble_eq_true rfl, Nat.le_of_ble_eq_true rfl, Nat.le_of_ble_eq_true rfl⟩ dX1_tick_46 (fun u_46 h_46 => ?_)
        subst h_46
        try dsimp only
        refine g_iincC (q := 1) (L' := [(2, _), (3, _), (0, _), (1, _)]) F 3 dX1_tick_49 (by decide) rfl (by decide) rfl ?_
        refine g_goto F 7 dX1_tick_52 (by decide) ?_
        refine g_sub [2, 3, 0] rfl ?_
        exact ih (by omega) _ _ _ (nx_add ej rfl) es (R2.roll (by omega) L1) (F2.tr (Fr.roll (R2.p8 (by omega))))
      · have c30 : 0 < σ1 (8 + blkS σ1 j) := by rw [← esh]; exact bz_n.mp c_30
        have hsp : spdS σ1 j = 0 := by unfold spdS; rw [if_pos c30]
        refine g_aload_n F 0 dX1_tick_33 rfl rfl ?_
        refine g_iconst (v := 0) F dX1_tick_34 (by decide) ?_
        refine gp_7_5 F hi7 mFL_X1_105 dX1_tick_35 ?_
        refine g_goto F 45 dX1_tick_38 (by decide) ?_
        refine g_I (I' := up3 I2 7 (8 * k + pm k j) 5 (spdS σ1 j)) (by rw [hsp]) ?_
        refine g_aload_n F 0 dX1_tick_45 rfl rfl ?_
        refine g_callVv (na := 0) F 7 _ (c_X2_roll hj hi7) hi7 rfl rfl lk_X1_111 rfl rfl (by decide +kernel) ⟨rfl, rfl, Nat.le_of_ble_eq_true rfl, Nat.le_of_ble_eq_true rfl, Nat.le_of_ble_eq_true rfl, Nat.le_of_ble_eq_true rfl, Nat.le_of_ble_eq_true rfl⟩ dX1_tick_46 (fun u_46 h_46 => ?_)
        subst h_46
        try dsimp only
        refine g_iincC (q := 1) (L' := [(2, _), (3, _), (0, _), (1, _)]) F 3 dX1_tick_49 (by decide) rfl (by decide) rfl ?_
        refine g_goto F 7 dX1_tick_52 (by decide) ?_
        refine g_sub [2, 3, 0] rfl ?_
        exact ih (by omega) _ _ _ (nx_add ej rfl) es (R2.roll (by omega) L1) (F2.tr (Fr.roll (R2.p8 (by omega))))
  refine g_aload_n F 0 dX1_tick_0 rfl rfl ?_
  refine g_callIv (na := 0) F 0 _ (c_X1_sendFirst hj hk R V) hk rfl rfl lk_X1_102 rfl rfl (by decide +kernel) ⟨rfl, rfl, Nat.le_of_ble_eq_true rfl, Nat.le_of_ble_eq_true rfl, Nat.le_of_ble_eq_true rfl, Nat.le_of_ble_eq_true rfl, Nat.le_of_ble_eq_true rfl⟩ dX1_tick_1 (fun r_1 u_1 h_1 => ?_)
  obtain ⟨hr1, Ru, Fu, up⟩ := h_1
  obtain ⟨I1, pm1⟩ := u_1
  dsimp only at Ru Fu up
  have up2 := up.symm
  subst up2
  dsimp only
  refine g_topi (fun x1_4 ex1_4 => ?_)
  refine g_istore_n (L' := [(1, _), (0, _)]) F dX1_tick_4 rfl (by decide) rfl ?_
  refine g_iconst (v := 0) F dX1_tick_5 (by decide) ?_
  refine g_istore_n (L' := [(2, _), (1, _), (0, _)]) F dX1_tick_6 rfl (by decide) rfl ?_
  refine g_sub [2, 1, 0] rfl ?_
  have ed : drvS 0 σ1 = (sendS n h σ).1 := by
    rw [← hσ1]
    funext i
    exact drv_out (by omega)
  exact LOOP1 0 (Nat.zero_le _) _ _ _ rfl (ex1_4.trans hr1) (by rw [ed]; exact Ru) Fu
set_option maxHeartbeats 4000000 in
set_option maxRecDepth 100000 in
theorem c_X1_takeTicks {l : Launch} {G : Gm} (hj : Aj G) {I : Ii} {pm : Pm} {k : Nat} (hk : k < 11) {n h : Nat} {σ : Sg} (R : Rp n h I pm k σ) (V : Iv n h σ) {x : Int32} : CI l G yX1_takeTicks (wz yX1_takeTicks cX1_takeTicks 4 (some .int)) (rmL 5) [.ref (G.2.2 0 k), .int x] I pm (fun r u => (¬ (1 ≤ x ∧ x ≤ 99) ∧ r = -2 ∧ u = (I, pm)) ∨ ((1 ≤ x ∧ x ≤ 99) ∧ 99999 < σ 0 + x ∧ r = -5 ∧ u = (I, pm)) ∨ ((1 ≤ x ∧ x ≤ 99) ∧ ¬ 99999 < σ 0 + x ∧ r = (itS n h σ x.toInt.toNat).2 ∧ Rp n (h - x.toInt.toNat) u.1 u.2 k (itS n h σ x.toInt.toNat).1 ∧ Fr k I pm u.1 u.2)) := by
  refine CI.walk hj (by decide +kernel) (by show _ ≤ 4; exact Nat.le_of_ble_eq_true rfl) ?_
  intro p e s m args below meth c F hr hlk
  have LOOP : ∀ j, j ≤ x.toInt.toNat → (1 ≤ x ∧ x ≤ 99) → ¬ 99999 < σ 0 + x → x = nI x.toInt.toNat → x.toInt.toNat ≤ 99 → ∀ (I2 : Ii) (pm2 : Pm) (xs xj : Int32), xj = nI j → xs = (itS n h σ j).2 → Rp n (h - j) I2 pm2 k (itS n h σ j).1 → Fr k I pm I2 pm2 → GG p l e (rmL 5) s m args below meth c G (AA G) 4 0 0 (MQ below (va_Qi (fun (r : Int32) (u : Ii × Pm) => (¬ (1 ≤ x ∧ x ≤ 99) ∧ r = -2 ∧ u = (I, pm)) ∨ ((1 ≤ x ∧ x ≤ 99) ∧ 99999 < σ 0 + x ∧ r = -5 ∧ u = (I, pm)) ∨ ((1 ≤ x ∧ x ≤ 99) ∧ ¬ 99999 < σ 0 + x ∧ r = (itS n h σ x.toInt.toNat).2 ∧ Rp n (h - x.toInt.toNat) u.1 u.2 k (itS n h σ x.toInt.toNat).1 ∧ Fr k I pm u.1 u.2)) (fun (u : Ii × Pm) t => Wd G u.1 u.2 t.heap) (AA G)) args s 0 0 (AA G)) I2 pm2 [(0, .ref (G.2.2 0 k)), (1, .int x), (2, .int xs), (3, .int xj)] 31 [] := by
    refine dn_ind ?_
    intro j hjl ih hb hc ex hx99 I2 pm2 xs xj ej es R2 F2
    refine g_iload_n F 3 dX1_takeTicks_31 rfl rfl ?_
    refine g_iload_n F 1 dX1_takeTicks_32 rfl rfl ?_
    refine g_icmp_ge F 49 dX1_takeTicks_33 (by decide) (fun c_33 => ?_) (fun c_33 => ?_)
    · have n_33 := nx_get (a := j) (b := x.toInt.toNat) ej ex (by omega) (by omega) c_33
      refine g_iload_n F 2 dX1_takeTicks_49 rfl rfl ?_
      refine g_iret F hr hlk rfl dX1_takeTicks_50 ?_
      have e : j = x.toInt.toNat := by omega
      rw [← e]
      exact Or.inr (Or.inr ⟨hb, hc, es, R2, F2⟩)
    · have n_33 := nx_gef (a := j) (b := x.toInt.toNat) ej ex (by omega) (by omega) c_33
      refine g_iload_n F 2 dX1_takeTicks_36 rfl rfl ?_
      refine g_aload_n F 0 dX1_takeTicks_37 rfl rfl ?_
      refine g_callIv (na := 0) F 0 _ (c_X1_tick hj hk R2 (V.it j)) hk rfl rfl lk_X1_99 rfl rfl (by decide +kernel) ⟨rfl, rfl, Nat.le_of_ble_eq_true rfl, Nat.le_of_ble_eq_true rfl, Nat.le_of_ble_eq_true rfl, Nat.le_of_ble_eq_true rfl, Nat.le_of_ble_eq_true rfl⟩ dX1_takeTicks_38 (fun r_38 u_38 h_38 => ?_)
      obtain ⟨hr1, Ru, Fu, -⟩ := h_38
      obtain ⟨I3, pm3⟩ := u_38
      dsimp only at Ru Fu
      dsimp only
      refine g_iadd F dX1_takeTicks_41 ?_
      refine g_topi (fun x2_42 ex2_42 => ?_)
      refine g_istore_n (L' := [(2, _), (0, _), (1, _), (3, _)]) F dX1_takeTicks_42 rfl (by decide) rfl ?_
      refine g_iincC (q := 1) (L' := [(3, _), (2, _), (0, _), (1, _)]) F 3 dX1_takeTicks_43 (by decide) rfl (by decide) rfl ?_
      refine g_goto F 31 dX1_takeTicks_46 (by decide) ?_
      refine g_sub [2, 3, 1, 0] rfl ?_
      exact ih (by omega) hb hc ex hx99 _ _ _ _ (nx_add ej rfl) (by rw [ex2_42, es, hr1]; rfl) (by rw [Nat.sub_sub] at Ru; exact Ru) (F2.tr Fu)
  refine g_iload_n F 1 dX1_takeTicks_0 rfl rfl ?_
  refine g_iconst (v := 1) F dX1_takeTicks_1 (by decide) ?_
  refine g_bipush (v := 99) F dX1_takeTicks_2 (by decide) ?_
  refine g_callIn (na := 3) F (c_X5_within hj) (gw mCO_yX5_within) F.2.2.1.1 mST_yX5_within mIN_RX5 rfl rfl (by decide +kernel) ⟨rfl, rfl, Nat.le_of_ble_eq_true rfl, Nat.le_of_ble_eq_true rfl, Nat.le_of_ble_eq_true rfl, Nat.le_of_ble_eq_true rfl, Nat.le_of_ble_eq_true rfl⟩ dX1_takeTicks_4 (fun r_4 u_4 h_4 => ?_)
  obtain ⟨rfl, rfl⟩ := h_4
  try dsimp only
  refine g_if_ne F 13 dX1_takeTicks_7 (by decide) (fun c_7 => ?_) (fun c_7 => ?_)
  · have P1 := bz_n.mp c_7
    refine g_aload_n F 0 dX1_takeTicks_13 rfl rfl ?_
    refine gf_0_4 F hk mFL_X1_46 dX1_takeTicks_14 ?_
    refine g_iload_n F 1 dX1_takeTicks_17 rfl rfl ?_
    refine g_iadd F dX1_takeTicks_18 ?_
    refine g_ldc F mCN_X1_98 dX1_takeTicks_19 ?_
    refine g_icmp_le F 27 dX1_takeTicks_21 (by decide) (fun c_21 => ?_) (fun c_21 => ?_)
    · rw [R.1.2.1] at c_21
      refine g_iconst (v := 0) F dX1_takeTicks_27 (by decide) ?_
      refine g_istore_n (L' := [(2, _), (0, _), (1, _)]) F dX1_takeTicks_28 rfl (by decide) rfl ?_
      refine g_iconst (v := 0) F dX1_takeTicks_29 (by decide) ?_
      refine g_istore_n (L' := [(3, _), (2, _), (0, _), (1, _)]) F dX1_takeTicks_30 rfl (by decide) rfl ?_
      refine g_sub [2, 3, 1, 0] rfl ?_
      have hx := rng (x := x) (M := 99) (m := 99) rfl (Int32.le_trans (by decide) P1.1) P1.2
      exact LOOP 0 (Nat.zero_le _) P1 (Int32.not_lt.mpr c_21) hx.2 hx.1 _ _ _ _ rfl rfl R Fr.rf
    · rw [R.1.2.1] at c_21
      refine g_bipush (v := -5) F dX1_takeTicks_24 (by decide) ?_
      refine g_iret F hr hlk rfl dX1_takeTicks_26 ?_
      exact Or.inr (Or.inl ⟨P1, Int32.not_le.mp c_21, rfl, rfl⟩)
  · have N1 := bz_0.mp c_7
    refine g_bipush (v := -2) F dX1_takeTicks_10 (by decide) ?_
    refine g_iret F hr hlk rfl dX1_takeTicks_12 ?_
    exact Or.inl ⟨N1, rfl, rfl⟩
end
section
/-! PART 18: what the class holds, and its history -/
theorem Rp.cong {n h : Nat} {I I' : Ii} {pm pm' : Pm} {k : Nat} {σ : Sg} (R : Rp n h I pm k σ) (u : ∀ K i c, inL k K i → I' K i c = I K i c) (up : ∀ r, pm' k r = pm k r) : Rp n h I' pm' k σ := by
  obtain ⟨⟨a1, a2, a3, a4, a5, a6, a7, a8⟩, b, c, d, e1, e2, e3, e4, e5, e6⟩ := R
  have u0 : ∀ K j, K ≤ 6 → I' K k j = I K k j := fun K j hK => u K k j (inL_0 hK)
  refine ⟨⟨?_, ?_, ?_, ?_, ?_, ?_, ?_, ?_⟩, fun b' hb' => ?_, fun r' f' hr' hf' => ?_, fun j hj => ?_, fun r hr => by rw [up]; exact e1 r hr, fun r r' hr hr' hq => e2 r r' hr hr' (by rw [← up, ← up]; exact hq), e3, e4, e5, e6⟩
  · rw [u0 _ _ (by decide)]; exact a1
  · rw [u0 _ _ (by decide)]; exact a2
  · rw [u0 _ _ (by decide)]; exact a3
  · rw [u0 _ _ (by decide), u0 _ _ (by decide)]; exact a4
  · rw [u0 _ _ (by decide)]; exact a5
  · rw [u0 _ _ (by decide)]; exact a6
  · rw [u0 _ _ (by decide)]; exact a7
  · rw [u0 _ _ (by decide)]; exact a8
  · rw [u0 _ _ (by decide)]; exact b b' hb'
  · rw [up, u _ _ _ (inL_7 (e1 r' (by omega)))]
    exact c r' f' hr' hf'
  · rw [u0 _ _ (by decide), u0 _ _ (by decide), u0 _ _ (by decide)]; exact d j hj
def RpS (I : Ii) (pm : Pm) (k : Nat) (σ : Sg) : Prop := ∃ n h, Rp n h I pm k σ ∧ Iv n h σ
theorem RpS.cong {I I' : Ii} {pm pm' : Pm} {k : Nat} {σ : Sg} (R : RpS I pm k σ) (u : ∀ K i c, inL k K i → I' K i c = I K i c) (up : ∀ r, pm' k r = pm k r) : RpS I' pm' k σ := by
  obtain ⟨n, h, R, V⟩ := R
  exact ⟨n, h, R.cong u up, V⟩
theorem RpS.keep {I I' : Ii} {pm pm' : Pm} {k k2 : Nat} {σ : Sg} (R : RpS I pm k2 σ) (F : Fr k I pm I' pm') (hne : k2 ≠ k) : RpS I' pm' k2 σ := by
  obtain ⟨n, h, R, V⟩ := R
  exact ⟨n, h, R.keep F hne, V⟩
theorem inL_le {k K i : Nat} (h : inL k K i) : K ≤ 7 := h.elim (fun e => by omega) (fun e => by omega)
/-- the slots, the pad, the rows' places -/
def CO (I : Ii) (pm : Pm) (sv : Nat → Int32) (sl : Nat → Sg) (pl : Nat) (pad : Sg) : Prop := (∀ i, i < 2 → I 12 0 i = sv i ∧ (sv i = 0 ∨ sv i = 1) ∧ (sv i = 1 → RpS I pm (2 + i) (sl i))) ∧ I 13 0 1 = nI pl ∧ pl ≤ 80 ∧ (∀ i, i < pl → I 14 0 i = pad i) ∧ ∀ k, k < 11 → Pw pm k
def CR (I : Ii) (pm : Pm) (σ : Sg) (hn : Nat) (hist : Nat → Sg) (sv : Nat → Int32) (sl : Nat → Sg) (pl : Nat) (pad : Sg) : Prop := RpS I pm 0 σ ∧ (∃ a, a < 7 ∧ I 9 0 1 = nI a ∧ ∀ i, i < hn → RpS I pm (4 + (a + i) % 7) (hist i)) ∧ I 9 0 2 = nI hn ∧ hn ≤ 6 ∧ CO I pm sv sl pl pad
/-- a draft of σ0 stands behind the history -/
def DR (I : Ii) (pm : Pm) (σ0 σ : Sg) (hn : Nat) (hist : Nat → Sg) (sv : Nat → Int32) (sl : Nat → Sg) (pl : Nat) (pad : Sg) : Prop := RpS I pm 0 σ ∧ (∃ a, a < 7 ∧ I 9 0 1 = nI a ∧ (∀ i, i < hn → RpS I pm (4 + (a + i) % 7) (hist i)) ∧ RpS I pm (4 + (a + hn) % 7) σ0) ∧ I 9 0 2 = nI hn ∧ hn ≤ 6 ∧ CO I pm sv sl pl pad
def FC (I I' : Ii) : Prop := ∀ K i c, 16 ≤ K → I' K i c = I K i c
theorem FC.rf {I : Ii} : FC I I := fun _ _ _ _ => rfl
theorem FC.tr {I I1 I2 : Ii} (h1 : FC I I1) (h2 : FC I1 I2) : FC I I2 := fun K i c h => (h2 K i c h).trans (h1 K i c h)
theorem FC.fr {k : Nat} {I I' : Ii} {pm pm' : Pm} (F : Fr k I pm I' pm') : FC I I' := fun K i c h => F.1 K i c (fun q => by have := inL_le q; omega)
theorem FC.up {I : Ii} {K i j : Nat} {v : Int32} (h : K < 16) : FC I (up3 I K i j v) := fun K' i' c h' => up3_k (by omega)
theorem CO.keep {I I' : Ii} {pm pm' : Pm} {sv : Nat → Int32} {sl : Nat → Sg} {pl : Nat} {pad : Sg} {k : Nat} (C : CO I pm sv sl pl pad) (F : Fr k I pm I' pm') (hk : k ≠ 2 ∧ k ≠ 3) (hw : Pw pm' k) : CO I' pm' sv sl pl pad := by
  obtain ⟨c1, c2, c3, c4, c5⟩ := C
  have o : ∀ K i c, 7 < K → I' K i c = I K i c := fun K i c h => F.1 K i c (fun q => by have := inL_le q; omega)
  refine ⟨fun i hi => ⟨by rw [o _ _ _ (by decide)]; exact (c1 i hi).1, (c1 i hi).2.1, fun q => ((c1 i hi).2.2 q).keep F (by omega)⟩, by rw [o _ _ _ (by decide)]; exact c2, c3, fun i hi => by rw [o _ _ _ (by decide)]; exact c4 i hi, fun k' hk' => ?_⟩
  by_cases e : k' = k
  · rw [e]; exact hw
  · have := c5 k' hk'
    exact ⟨fun r hr => by rw [F.2 k' r e]; exact this.1 r hr, fun r r' hr hr' q => this.2 r r' hr hr' (by rw [← F.2 k' r e, ← F.2 k' r' e]; exact q)⟩
theorem CO.oth {I I' : Ii} {pm : Pm} {sv : Nat → Int32} {sl : Nat → Sg} {pl : Nat} {pad : Sg} (C : CO I pm sv sl pl pad) (o : ∀ K i c, K ≠ 9 → I' K i c = I K i c) : CO I' pm sv sl pl pad := by
  obtain ⟨c1, c2, c3, c4, c5⟩ := C
  exact ⟨fun i hi => ⟨by rw [o _ _ _ (by decide)]; exact (c1 i hi).1, (c1 i hi).2.1, fun q => ((c1 i hi).2.2 q).cong (fun K i c h => o K i c (by have := inL_le h; omega)) (fun _ => rfl)⟩, by rw [o _ _ _ (by decide)]; exact c2, c3, fun i hi => by rw [o _ _ _ (by decide)]; exact c4 i hi, c5⟩
theorem RpS.pw {I : Ii} {pm : Pm} {k : Nat} {σ : Sg} (R : RpS I pm k σ) : Pw pm k := by
  obtain ⟨n, h, R, -⟩ := R
  exact R.pw
/-- a draft behind a state -/
theorem CR.draft {I I' : Ii} {pm pm' : Pm} {σ : Sg} {hn : Nat} {hist : Nat → Sg} {sv : Nat → Int32} {sl : Nat → Sg} {pl : Nat} {pad : Sg} {a : Nat} (R0 : RpS I pm 0 σ) (ha : a < 7) (ea : I 9 0 1 = nI a) (hh : ∀ i, i < hn → RpS I pm (4 + (a + i) % 7) (hist i)) (en : I 9 0 2 = nI hn) (h6 : hn ≤ 6) (C : CO I pm sv sl pl pad) (F : Fr (4 + (a + hn) % 7) I pm I' pm') (R1 : RpS I' pm' (4 + (a + hn) % 7) σ) : DR I' pm' σ σ hn hist sv sl pl pad := by
  have o : ∀ K i c, 7 < K → I' K i c = I K i c := fun K i c h => F.1 K i c (fun q => by have := inL_le q; omega)
  exact ⟨R0.keep F (by omega), ⟨a, ha, by rw [o _ _ _ (by decide)]; exact ea, fun i hi => (hh i hi).keep F (by omega), R1⟩, by rw [o _ _ _ (by decide)]; exact en, h6, C.keep F (by omega) R1.pw⟩
theorem DR.op {I I' : Ii} {pm pm' : Pm} {σ0 σ σ' : Sg} {hn : Nat} {hist : Nat → Sg} {sv : Nat → Int32} {sl : Nat → Sg} {pl : Nat} {pad : Sg} (D : DR I pm σ0 σ hn hist sv sl pl pad) (F : Fr 0 I pm I' pm') (R1 : RpS I' pm' 0 σ') : DR I' pm' σ0 σ' hn hist sv sl pl pad := by
  obtain ⟨d1, ⟨a, ha, ea, hh, hd⟩, en, h6, C⟩ := D
  have o : ∀ K i c, 7 < K → I' K i c = I K i c := fun K i c h => F.1 K i c (fun q => by have := inL_le q; omega)
  exact ⟨R1, ⟨a, ha, by rw [o _ _ _ (by decide)]; exact ea, fun i hi => (hh i hi).keep F (by omega), hd.keep F (by omega)⟩, by rw [o _ _ _ (by decide)]; exact en, h6, C.keep F (by omega) R1.pw⟩
theorem DR.cr {I : Ii} {pm : Pm} {σ0 σ : Sg} {hn : Nat} {hist : Nat → Sg} {sv : Nat → Int32} {sl : Nat → Sg} {pl : Nat} {pad : Sg} (D : DR I pm σ0 σ hn hist sv sl pl pad) : CR I pm σ hn hist sv sl pl pad := by
  obtain ⟨d1, ⟨a, ha, ea, hh, hd⟩, en, h6, C⟩ := D
  exact ⟨d1, ⟨a, ha, ea, hh⟩, en, h6, C⟩
def pushN (hn : Nat) : Nat := if hn < 6 then hn + 1 else 6
def pushH (hn : Nat) (hist : Nat → Sg) (σ : Sg) : Nat → Sg := if hn < 6 then fun i => if i = hn then σ else hist i else fun i => if i = 5 then σ else hist (i + 1)
theorem DR.kept1 {I : Ii} {pm : Pm} {σ0 σ : Sg} {hn : Nat} {hist : Nat → Sg} {sv : Nat → Int32} {sl : Nat → Sg} {pl : Nat} {pad : Sg} (D : DR I pm σ0 σ hn hist sv sl pl pad) (h : hn < 6) : CR (up3 I 9 0 2 (I 9 0 2 + 1)) pm σ (pushN hn) (pushH hn hist σ0) sv sl pl pad := by
  obtain ⟨R0, ⟨a, ha, ea, hh, hd⟩, en, h6, CC⟩ := D
  have oc : ∀ (k : Nat) (s : Sg), RpS I pm k s → RpS (up3 I 9 0 2 (I 9 0 2 + 1)) pm k s := fun k s q => q.cong (fun K i c hL => up3_k (by have := inL_le hL; omega)) (fun _ => rfl)
  unfold pushN pushH
  rw [if_pos h, if_pos h]
  refine ⟨oc _ _ R0, ⟨a, ha, (up3_n (by decide)).trans ea, fun i hi => ?_⟩, ?_, by omega, CC.oth (fun K i c hK => up3_k hK)⟩
  · by_cases e : i = hn
    · simp only [if_pos e]
      rw [e]
      exact oc _ _ hd
    · simp only [if_neg e]
      exact oc _ _ (hh i (by omega))
  · rw [up3_s, en]
    exact nI_1 hn
theorem DR.kept2 {I : Ii} {pm : Pm} {σ0 σ : Sg} {hn : Nat} {hist : Nat → Sg} {sv : Nat → Int32} {sl : Nat → Sg} {pl : Nat} {pad : Sg} (D : DR I pm σ0 σ hn hist sv sl pl pad) (h : hn = 6) {b : Nat} (eb : I 9 0 1 = nI b) : CR (up3 I 9 0 1 ((I 9 0 1 + 1) % 7)) pm σ (pushN hn) (pushH hn hist σ0) sv sl pl pad := by
  subst h
  obtain ⟨R0, ⟨a, ha, ea, hh, hd⟩, en, h6, CC⟩ := D
  have oc : ∀ (k : Nat) (s : Sg), RpS I pm k s → RpS (up3 I 9 0 1 ((I 9 0 1 + 1) % 7)) pm k s := fun k s q => q.cong (fun K i c hL => up3_k (by have := inL_le hL; omega)) (fun _ => rfl)
  unfold pushN pushH
  rw [if_neg (by decide), if_neg (by decide)]
  refine ⟨oc _ _ R0, ⟨(a + 1) % 7, by omega, ?_, fun i hi => ?_⟩, (up3_n (by decide)).trans en, by decide, CC.oth (fun K i c hK => up3_k hK)⟩
  · rw [up3_s]
    exact nx_rem (nx_add ea (b := 1) rfl) (b := 7) rfl (by omega) (by decide) (by decide)
  · show RpS _ _ _ (if i = 5 then σ0 else hist (i + 1))
    by_cases e : i = 5
    · rw [if_pos e, e, show 4 + ((a + 1) % 7 + 5) % 7 = 4 + (a + 6) % 7 by omega]
      exact oc _ _ hd
    · rw [if_neg e, show 4 + ((a + 1) % 7 + i) % 7 = 4 + (a + (i + 1)) % 7 by omega]
      exact oc _ _ (hh (i + 1) (by omega))
set_option maxHeartbeats 4000000 in
set_option maxRecDepth 100000 in
theorem c_X0_draft {l : Launch} {G : Gm} (hj : Aj G) {I : Ii} {pm : Pm} {σ : Sg} {hn : Nat} {hist : Nat → Sg} {sv : Nat → Int32} {sl : Nat → Sg} {pl : Nat} {pad : Sg} (C : CR I pm σ hn hist sv sl pl pad) : CV l G yX0_draft (wz yX0_draft cX0_draft 2 none) (rmL 3) [.ref (G.2.2 9 0), .ref (G.2.2 0 0)] I pm (fun u => DR u.1 u.2 σ σ hn hist sv sl pl pad ∧ FC I u.1) := by
  obtain ⟨R0, ⟨a, ha, ea, hh⟩, en, h6, CC⟩ := C
  obtain ⟨n, h, R, V⟩ := id R0
  refine CV.walk hj (by decide +kernel) (by show _ ≤ 2; exact Nat.le_of_ble_eq_true rfl) ?_
  intro p e s m args below meth c F hr hlk
  refine g_aload_n F 0 dX0_draft_0 rfl rfl ?_
  refine gf_9_0 F (by decide) mFL_X0_11 dX0_draft_1 ?_
  refine g_aload_n F 0 dX0_draft_4 rfl rfl ?_
  refine gf_9_1 F (by decide) mFL_X0_18 dX0_draft_5 ?_
  refine g_aload_n F 0 dX0_draft_8 rfl rfl ?_
  refine gf_9_2 F (by decide) mFL_X0_22 dX0_draft_9 ?_
  refine g_iadd F dX0_draft_12 ?_
  refine g_bipush (v := 7) F dX0_draft_13 (by decide) ?_
  refine g_irem F dX0_draft_15 (by decide) ?_
  refine ga_10 (j := ((a + hn) % 7)) F (nx_rem (nx_add ea en) (b := 7) rfl (by omega) (by decide) (by decide)) (by omega) dX0_draft_16 ?_
  refine g_aload_n F 1 dX0_draft_17 rfl rfl ?_
  refine g_callVv (na := 1) F 0 _ (c_X1_copyFrom hj (by omega) (by decide) (by omega) R (CC.2.2.2.2 _ (by omega))) (show 4 + (a + hn) % 7 < 11 by omega) rfl rfl lk_X0_25 rfl rfl (by decide +kernel) ⟨rfl, rfl, Nat.le_of_ble_eq_true rfl, Nat.le_of_ble_eq_true rfl, Nat.le_of_ble_eq_true rfl, Nat.le_of_ble_eq_true rfl, Nat.le_of_ble_eq_true rfl⟩ dX0_draft_18 (fun u_18 h_18 => ?_)
  obtain ⟨Ru, Fu, ue⟩ := h_18
  refine g_vret F hr hlk dX0_draft_21 ?_
  exact ⟨CR.draft R0 ha ea hh en h6 CC Fu ⟨n, h, Ru, V⟩, FC.fr Fu⟩
set_option maxHeartbeats 4000000 in
set_option maxRecDepth 100000 in
theorem c_X0_kept {l : Launch} {G : Gm} (hj : Aj G) {I : Ii} {pm : Pm} {σ0 : Sg} {σ : Sg} {hn : Nat} {hist : Nat → Sg} {sv : Nat → Int32} {sl : Nat → Sg} {pl : Nat} {pad : Sg} (D : DR I pm σ0 σ hn hist sv sl pl pad) {x : Int32} : CI l G yX0_kept (wz yX0_kept cX0_kept 2 (some .int)) (rmL 0) [.ref (G.2.2 9 0), .int x] I pm (fun r u => r = x ∧ ((x < 0 ∧ CR u.1 u.2 σ hn hist sv sl pl pad) ∨ (¬ x < 0 ∧ CR u.1 u.2 σ (pushN hn) (pushH hn hist σ0) sv sl pl pad)) ∧ FC I u.1) := by
  obtain ⟨R0, ⟨a, ha, ea, hh, hd⟩, en, h6, CC⟩ := id D
  refine CI.walk hj (by decide +kernel) (by show _ ≤ 2; exact Nat.le_of_ble_eq_true rfl) ?_
  intro p e s m args below meth c F hr hlk
  refine g_iload_n F 1 dX0_kept_0 rfl rfl ?_
  refine g_if_ge F 6 dX0_kept_1 (by decide) (fun c_1 => ?_) (fun c_1 => ?_)
  · refine g_aload_n F 0 dX0_kept_6 rfl rfl ?_
    refine gf_9_2 F (by decide) mFL_X0_22 dX0_kept_7 ?_
    refine g_bipush (v := 6) F dX0_kept_10 (by decide) ?_
    refine g_icmp_ge F 28 dX0_kept_12 (by decide) (fun c_12 => ?_) (fun c_12 => ?_)
    · have n_12 := nx_get (a := hn) (b := 6) en rfl (by omega) (by omega) c_12
      have FIN := D.kept2 (by omega) ea
      refine g_aload_n F 0 dX0_kept_28 rfl rfl ?_
      refine g_aload_n F 0 dX0_kept_29 rfl rfl ?_
      refine gf_9_1 F (by decide) mFL_X0_18 dX0_kept_30 ?_
      refine g_iconst (v := 1) F dX0_kept_33 (by decide) ?_
      refine g_iadd F dX0_kept_34 ?_
      refine g_bipush (v := 7) F dX0_kept_35 (by decide) ?_
      refine g_irem F dX0_kept_37 (by decide) ?_
      refine gp_9_1 F (by decide) mFL_X0_18 dX0_kept_38 ?_
      refine g_iload_n F 1 dX0_kept_41 rfl rfl ?_
      refine g_iret F hr hlk rfl dX0_kept_42 ?_
      exact ⟨rfl, Or.inr ⟨Int32.not_lt.mpr c_1, FIN⟩, FC.up (by decide)⟩
    · have n_12 := nx_gef (a := hn) (b := 6) en rfl (by omega) (by omega) c_12
      have FIN := D.kept1 n_12
      refine g_aload_n F 0 dX0_kept_15 rfl rfl ?_
      refine g_dup F dX0_kept_16 rfl ?_
      refine gf_9_2 F (by decide) mFL_X0_22 dX0_kept_17 ?_
      refine g_iconst (v := 1) F dX0_kept_20 (by decide) ?_
      refine g_iadd F dX0_kept_21 ?_
      refine gp_9_2 F (by decide) mFL_X0_22 dX0_kept_22 ?_
      refine g_goto F 41 dX0_kept_25 (by decide) ?_
      refine g_iload_n F 1 dX0_kept_41 rfl rfl ?_
      refine g_iret F hr hlk rfl dX0_kept_42 ?_
      exact ⟨rfl, Or.inr ⟨Int32.not_lt.mpr c_1, FIN⟩, FC.up (by decide)⟩
  · refine g_iload_n F 1 dX0_kept_4 rfl rfl ?_
    refine g_iret F hr hlk rfl dX0_kept_5 ?_
    exact ⟨rfl, Or.inl ⟨Int32.not_le.mp c_1, D.cr⟩, FC.rf⟩
set_option maxHeartbeats 4000000 in
set_option maxRecDepth 100000 in
theorem c_X0_takeBack {l : Launch} {G : Gm} (hj : Aj G) {I : Ii} {pm : Pm} {σ : Sg} {hn : Nat} {hist : Nat → Sg} {sv : Nat → Int32} {sl : Nat → Sg} {pl : Nat} {pad : Sg} (C : CR I pm σ hn hist sv sl pl pad) : CI l G yX0_takeBack (wz yX0_takeBack cX0_takeBack 2 (some .int)) (rmL 3) [.ref (G.2.2 9 0), .ref (G.2.2 0 0)] I pm (fun r u => (hn = 0 ∧ r = -5 ∧ u = (I, pm)) ∨ (0 < hn ∧ r = nI (hn - 1) ∧ CR u.1 u.2 (hist (hn - 1)) (hn - 1) hist sv sl pl pad ∧ FC I u.1)) := by
  obtain ⟨R0, ⟨a, ha, ea, hh⟩, en, h6, CC⟩ := id C
  refine CI.walk hj (by decide +kernel) (by show _ ≤ 2; exact Nat.le_of_ble_eq_true rfl) ?_
  intro p e s m args below meth c F hr hlk
  refine g_aload_n F 0 dX0_takeBack_0 rfl rfl ?_
  refine gf_9_2 F (by decide) mFL_X0_22 dX0_takeBack_1 ?_
  refine g_iconst (v := 1) F dX0_takeBack_4 (by decide) ?_
  refine g_icmp_ge F 11 dX0_takeBack_5 (by decide) (fun c_5 => ?_) (fun c_5 => ?_)
  · have n_5 := nx_get (a := hn) (b := 1) en rfl (by omega) (by omega) c_5
    refine g_aload_n F 0 dX0_takeBack_11 rfl rfl ?_
    refine g_dup F dX0_takeBack_12 rfl ?_
    refine gf_9_2 F (by decide) mFL_X0_22 dX0_takeBack_13 ?_
    refine g_iconst (v := 1) F dX0_takeBack_16 (by decide) ?_
    refine g_isub F dX0_takeBack_17 ?_
    refine gp_9_2 F (by decide) mFL_X0_22 dX0_takeBack_18 ?_
    have en1 : up3 I 9 0 2 (I 9 0 2 - 1) 9 0 2 = nI (hn - 1) := by rw [up3_s]; exact nx_sub en (b := 1) rfl (by omega)
    have ea1 : up3 I 9 0 2 (I 9 0 2 - 1) 9 0 1 = nI a := by rw [up3_n (by decide)]; exact ea
    have oc : ∀ (k : Nat) (s : Sg), RpS I pm k s → RpS (up3 I 9 0 2 (I 9 0 2 - 1)) pm k s := fun k s q => q.cong (fun K i c hL => up3_k (by have := inL_le hL; omega)) (fun _ => rfl)
    obtain ⟨n, h, R, V⟩ := oc _ _ (hh (hn - 1) (by omega))
    have CC1 := CC.oth (I' := up3 I 9 0 2 (I 9 0 2 - 1)) (fun K i c hK => up3_k hK)
    refine g_aload_n F 1 dX0_takeBack_21 rfl rfl ?_
    refine g_aload_n F 0 dX0_takeBack_22 rfl rfl ?_
    refine gf_9_0 F (by decide) mFL_X0_11 dX0_takeBack_23 ?_
    refine g_aload_n F 0 dX0_takeBack_26 rfl rfl ?_
    refine gf_9_1 F (by decide) mFL_X0_18 dX0_takeBack_27 ?_
    refine g_aload_n F 0 dX0_takeBack_30 rfl rfl ?_
    refine gf_9_2 F (by decide) mFL_X0_22 dX0_takeBack_31 ?_
    refine g_iadd F dX0_takeBack_34 ?_
    refine g_bipush (v := 7) F dX0_takeBack_35 (by decide) ?_
    refine g_irem F dX0_takeBack_37 (by decide) ?_
    refine ga_10 (j := ((a + (hn - 1)) % 7)) F (nx_rem (nx_add ea1 en1) (b := 7) rfl (by omega) (by decide) (by decide)) (by omega) dX0_takeBack_38 ?_
    refine g_callVv (na := 1) F 0 _ (c_X1_copyFrom hj (by decide) (by omega) (by omega) R (CC1.2.2.2.2 _ (by decide))) (by decide) rfl rfl lk_X0_25 rfl rfl (by decide +kernel) ⟨rfl, rfl, Nat.le_of_ble_eq_true rfl, Nat.le_of_ble_eq_true rfl, Nat.le_of_ble_eq_true rfl, Nat.le_of_ble_eq_true rfl, Nat.le_of_ble_eq_true rfl⟩ dX0_takeBack_39 (fun u_39 h_39 => ?_)
    obtain ⟨Ru, Fu, ue⟩ := h_39
    have o : ∀ K i c, 7 < K → u_39.1 K i c = up3 I 9 0 2 (I 9 0 2 - 1) K i c := fun K i c h => Fu.1 K i c (fun q => by have := inL_le q; omega)
    refine g_aload_n F 0 dX0_takeBack_42 rfl rfl ?_
    refine gf_9_2 F (by decide) mFL_X0_22 dX0_takeBack_43 ?_
    refine g_iret F hr hlk rfl dX0_takeBack_46 ?_
    have R1 : RpS u_39.1 u_39.2 0 (hist (hn - 1)) := ⟨n, h, Ru, V⟩
    have e9 : u_39.1 9 0 2 = nI (hn - 1) := (o 9 0 2 (by decide)).trans en1
    exact Or.inr ⟨by omega, e9, ⟨R1, ⟨a, ha, (o 9 0 1 (by decide)).trans ea1, fun i hi => (oc _ _ (hh i (by omega))).keep Fu (by omega)⟩, e9, by omega, CC1.keep Fu (by decide) R1.pw⟩, (FC.up (by decide)).tr (FC.fr Fu)⟩
  · have n_5 := nx_gef (a := hn) (b := 1) en rfl (by omega) (by omega) c_5
    refine g_bipush (v := -5) F dX0_takeBack_8 (by decide) ?_
    refine g_iret F hr hlk rfl dX0_takeBack_10 ?_
    exact Or.inl ⟨by omega, rfl, rfl⟩
end
section
/-! PART 19: what each change answers and does, of the row s alone -/
def nof (σ : Sg) : Nat := (σ 6).toInt.toNat
def hof (σ : Sg) : Nat := (σ 7).toInt.toNat
theorem Iv.nofe {n h : Nat} {σ : Sg} (V : Iv n h σ) : nof σ = n := by
  unfold nof
  rw [V.1, nI_toInt (by have := V.2.1; omega)]
  rfl
theorem Iv.hofe {n h : Nat} {σ : Sg} (V : Iv n h σ) : hof σ = h := by
  unfold hof
  rw [V.2.2.1, nI_toInt (by have := V.2.2.2.1; omega)]
  rfl
def okL (a b c d : Int32) : Prop := (1 ≤ a ∧ a ≤ 99) ∧ (1 ≤ b ∧ b ≤ 20) ∧ (0 ≤ c ∧ c ≤ 2) ∧ (0 ≤ d ∧ d ≤ 799)
def okO (a d t : Int32) : Prop := (0 ≤ a ∧ a ≤ 99) ∧ (0 ≤ d ∧ d ≤ 255) ∧ (0 ≤ t ∧ t ≤ 3)
def okF (a d c : Int32) : Prop := (0 ≤ a ∧ a ≤ 255) ∧ (0 ≤ d ∧ d ≤ 255) ∧ (0 ≤ c ∧ c ≤ 255)
/-- an answer, and the state behind it: below 0 nothing changes -/
def locoR (a b c d : Int32) (σ : Sg) (q : Int32 × Sg) : Prop := (¬ okL a b c d ∧ q = (-2, σ)) ∨ (okL a b c d ∧ rkS σ a (nof σ) < nof σ ∧ q = (-5, σ)) ∨ (okL a b c d ∧ ¬ rkS σ a (nof σ) < nof σ ∧ nof σ = 8 ∧ q = (-4, σ)) ∨ (okL a b c d ∧ ¬ rkS σ a (nof σ) < nof σ ∧ nof σ < 8 ∧ q = (nI (nof σ + 1), addS (nof σ) a b c d σ))
def liftR (a : Int32) (σ : Sg) (q : Int32 × Sg) : Prop := (¬ rkS σ a (nof σ) < nof σ ∧ q = (-1, σ)) ∨ (rkS σ a (nof σ) < nof σ ∧ q = (nI (nof σ - 1), lifS (nof σ) (rkS σ a (nof σ)) σ))
def noiseR (x : Int32) (σ : Sg) (q : Int32 × Sg) : Prop := (¬ (0 ≤ x ∧ x ≤ 9) ∧ q = (-2, σ)) ∨ ((0 ≤ x ∧ x ≤ 9) ∧ q = (σ 1, upd σ 1 x))
def ordR (a d t : Int32) (σ : Sg) (q : Int32 × Sg) : Prop := (¬ okO a d t ∧ q = (-2, σ)) ∨ (okO a d t ∧ hof σ = 20 ∧ q = (-4, σ)) ∨ (okO a d t ∧ hof σ < 20 ∧ q = (nI (hof σ + 1), ordS (hof σ) a d t σ))
def frmR (a d c : Int32) (σ : Sg) (q : Int32 × Sg) : Prop := (¬ okF a d c ∧ q = (-2, σ)) ∨ (okF a d c ∧ q = ((comS (nof σ) a d c σ).2, (comS (nof σ) a d c σ).1))
def shoR (b t : Int32) (σ : Sg) (q : Int32 × Sg) : Prop := (¬ (0 ≤ b ∧ b ≤ 7) ∧ q = (-1, σ)) ∨ ((0 ≤ b ∧ b ≤ 7) ∧ ¬ (0 ≤ t ∧ t ≤ 99) ∧ q = (-2, σ)) ∨ ((0 ≤ b ∧ b ≤ 7) ∧ (0 ≤ t ∧ t ≤ 99) ∧ q = (σ (8 + b.toInt.toNat), upd σ (8 + b.toInt.toNat) t))
def pasR (x : Int32) (σ : Sg) (q : Int32 × Sg) : Prop := (¬ (1 ≤ x ∧ x ≤ 99) ∧ q = (-2, σ)) ∨ ((1 ≤ x ∧ x ≤ 99) ∧ 99999 < σ 0 + x ∧ q = (-5, σ)) ∨ ((1 ≤ x ∧ x ≤ 99) ∧ ¬ 99999 < σ 0 + x ∧ q = ((itS (nof σ) (hof σ) σ x.toInt.toNat).2, (itS (nof σ) (hof σ) σ x.toInt.toNat).1))
theorem Iv.add {n h : Nat} {σ : Sg} {a b c d : Int32} (V : Iv n h σ) (hn : n < 8) (hb : okL a b c d) : Iv (n + 1) h (addS n a b c d σ) := by
  obtain ⟨v1, v2, v3, v4, v5, v6, v7, v8⟩ := V
  have hp := lposS_le σ a n
  have lo : ∀ i, (i < 16 ∨ 104 ≤ i) → i ≠ 6 → addS n a b c d σ i = σ i := fun i hi h6 => by unfold addS; rw [if_neg h6, if_neg (by omega)]
  have at' : ∀ r f, r < n + 1 → f < 11 → addS n a b c d σ (16 + 11 * r + f) = if r < lposS σ a n then σ (16 + 11 * r + f) else if r = lposS σ a n then newF a b c d f else σ (16 + 11 * (r - 1) + f) := by
    intro r f hr hf
    unfold addS
    rw [if_neg (by omega), if_pos (by omega), show (16 + 11 * r + f - 16) / 11 = r by omega, show (16 + 11 * r + f - 16) % 11 = f by omega]
    by_cases c1 : r < lposS σ a n
    · rw [if_pos c1, if_pos c1]
    · rw [if_neg c1, if_neg c1]
      by_cases c2 : r = lposS σ a n
      · rw [if_pos c2, if_pos c2]
      · rw [if_neg c2, if_neg c2]
        congr 1
        omega
  refine ⟨by unfold addS; rw [if_pos rfl], by omega, by rw [lo 7 (by decide) (by decide)]; exact v3, v4, fun r hr => ?_, fun b' hb' => by rw [lo _ (by omega) (by omega)]; exact v6 b' hb', by rw [lo _ (by decide) (by decide)]; exact v7, fun j hj => by rw [lo _ (by omega) (by omega), lo _ (by omega) (by omega)]; exact v8 j hj⟩
  unfold LcOk
  rw [at' r 1 hr (by decide), at' r 2 hr (by decide), at' r 3 hr (by decide), at' r 4 hr (by decide), at' r 5 hr (by decide), at' r 6 hr (by decide), at' r 7 hr (by decide)]
  by_cases c1 : r < lposS σ a n
  · simp only [if_pos c1]
    exact v5 r (by omega)
  · simp only [if_neg c1]
    by_cases c2 : r = lposS σ a n
    · simp only [if_pos c2]
      obtain ⟨h1, h2, h3, h4⟩ := hb
      refine ⟨⟨i_le.mp h2.1, i_le.mp h2.2⟩, ⟨i_le.mp h3.1, i_le.mp h3.2⟩, ⟨i_le.mp h4.1, ?_⟩, ⟨(show (0 : Int) ≤ (0 : Int32).toInt by decide), (show (0 : Int32).toInt ≤ 9 by decide)⟩, ⟨(show (-280 : Int) ≤ (0 : Int32).toInt by decide), (show (0 : Int32).toInt ≤ 280 by decide)⟩, ⟨(show (0 : Int) ≤ (0 : Int32).toInt by decide), (show (0 : Int32).toInt ≤ 28 by decide)⟩, (show (0 : Int) ≤ (1 : Int32).toInt by decide), (show (1 : Int32).toInt ≤ 1 by decide)⟩
      have q6 := i_le.mp h4.2
      have e799 : (799 : Int32).toInt = 799 := rfl
      show d.toInt < 800
      omega
    · simp only [if_neg c2]
      exact v5 (r - 1) (by omega)
theorem Iv.lift {n h p : Nat} {σ : Sg} (V : Iv n h σ) (hp : p < n) : Iv (n - 1) h (lifS n p σ) := by
  obtain ⟨v1, v2, v3, v4, v5, v6, v7, v8⟩ := V
  have lo : ∀ i, (i < 16 ∨ 104 ≤ i) → i ≠ 6 → lifS n p σ i = σ i := fun i hi h6 => by unfold lifS; rw [if_neg h6, if_neg (by omega), if_neg (by omega)]
  refine ⟨by unfold lifS; rw [if_pos rfl], by omega, by rw [lo 7 (by decide) (by decide)]; exact v3, v4, fun r hr => ?_, fun b' hb' => by rw [lo _ (by omega) (by omega)]; exact v6 b' hb', by rw [lo _ (by decide) (by decide)]; exact v7, fun j hj => by rw [lo _ (by omega) (by omega), lo _ (by omega) (by omega)]; exact v8 j hj⟩
  by_cases c1 : r < p
  · exact (v5 r (by omega)).cong (fun f hf => by unfold lifS; rw [if_neg (by omega), if_neg (by omega), if_neg (by omega)])
  · have key : ∀ f, f < 11 → lifS n p σ (16 + 11 * r + f) = σ (16 + 11 * (r + 1) + f) := fun f hf => by
      unfold lifS
      rw [if_neg (by omega), if_pos (by omega)]
      congr 1
      omega
    have L := v5 (r + 1) (by omega)
    unfold LcOk at L ⊢
    rw [key 1 (by decide), key 2 (by decide), key 3 (by decide), key 4 (by decide), key 5 (by decide), key 6 (by decide), key 7 (by decide)]
    exact L
theorem Iv.ord {n h : Nat} {σ : Sg} {a d t : Int32} (V : Iv n h σ) (hh : h < 20) (hb : okO a d t) : Iv n (h + 1) (ordS h a d t σ) := by
  obtain ⟨v1, v2, v3, v4, v5, v6, v7, v8⟩ := V
  have hp := iposS_le σ t h
  have lo : ∀ i, i < 104 → i ≠ 7 → ordS h a d t σ i = σ i := fun i hi h7 => by unfold ordS; rw [if_neg h7, if_neg (by omega)]
  refine ⟨by rw [lo 6 (by decide) (by decide)]; exact v1, v2, by unfold ordS; rw [if_pos rfl], by omega, fun r hr => (v5 r hr).cong (fun f hf => lo _ (by omega) (by omega)), fun b hb => by rw [lo _ (by omega) (by omega)]; exact v6 b hb, by rw [lo _ (by decide) (by decide)]; exact v7, fun j hj => ?_⟩
  have o0 := ord_at (a := a) (d := d) (t := t) (σ := σ) hj (show 0 < 3 by decide)
  have o1 := ord_at (a := a) (d := d) (t := t) (σ := σ) hj (show 1 < 3 by decide)
  rw [show 104 + 3 * j + 1 = 105 + 3 * j by omega] at o1
  rw [Nat.add_zero] at o0
  rw [o0, o1]
  obtain ⟨h1, h2, h3⟩ := hb
  by_cases c1 : j < iposS σ t h
  · simp only [if_pos c1]
    exact v8 j (by omega)
  · simp only [if_neg c1]
    by_cases c2 : j = iposS σ t h
    · simp only [if_pos c2]
      exact ⟨⟨i_le.mp h1.1, i_le.mp h1.2⟩, i_le.mp h2.1, i_le.mp h2.2⟩
    · simp only [if_neg c2]
      have := v8 (j - 1) (by omega)
      rw [show 104 + 3 * j - 3 = 104 + 3 * (j - 1) by omega, show 105 + 3 * j - 3 = 105 + 3 * (j - 1) by omega]
      exact this
theorem Iv.noise {n h : Nat} {σ : Sg} {x : Int32} (V : Iv n h σ) (hx : 0 ≤ x ∧ x ≤ 9) : Iv n h (upd σ 1 x) := by
  obtain ⟨v1, v2, v3, v4, v5, v6, v7, v8⟩ := V
  refine ⟨by rw [upd_n (by decide)]; exact v1, v2, by rw [upd_n (by decide)]; exact v3, v4, fun r hr => (v5 r hr).cong (fun f hf => upd_n (by omega)), fun b hb => by rw [upd_n (by omega)]; exact v6 b hb, by rw [upd_s]; exact ⟨i_le.mp hx.1, i_le.mp hx.2⟩, fun j hj => by rw [upd_n (by omega), upd_n (by omega)]; exact v8 j hj⟩
theorem Iv.short {n h b : Nat} {σ : Sg} {x : Int32} (V : Iv n h σ) (hb : b < 8) (hx : 0 ≤ x ∧ x ≤ 99) : Iv n h (upd σ (8 + b) x) := by
  obtain ⟨v1, v2, v3, v4, v5, v6, v7, v8⟩ := V
  refine ⟨by rw [upd_n (by omega)]; exact v1, v2, by rw [upd_n (by omega)]; exact v3, v4, fun r hr => (v5 r hr).cong (fun f hf => upd_n (by omega)), fun b' hb' => ?_, by rw [upd_n (by omega)]; exact v7, fun j hj => by rw [upd_n (by omega), upd_n (by omega)]; exact v8 j hj⟩
  by_cases e : b' = b
  · rw [e, upd_s]
    exact ⟨i_le.mp hx.1, i_le.mp hx.2⟩
  · rw [upd_n (by omega)]
    exact v6 b' hb'
theorem cml_cnt {a d : Int32} {σ : Sg} : ∀ j, ∃ m, m ≤ j ∧ (cmL a d j (σ, 0)).2 = nI m := by
  intro j
  induction j with
  | zero => exact ⟨0, Nat.le_refl _, rfl⟩
  | succ j ih =>
    obtain ⟨m, hm, e⟩ := ih
    show ∃ m, m ≤ j + 1 ∧ (cmStep a d j (cmL a d j (σ, 0))).2 = nI m
    unfold cmStep
    split
    · exact ⟨m + 1, by omega, by show _ + 1 = _; rw [e]; exact nI_1 m⟩
    · exact ⟨m, by omega, e⟩
theorem com_cnt (n : Nat) (a d c : Int32) (σ : Sg) : ∃ m, m ≤ n ∧ (comS n a d c σ).2 = nI m := by
  unfold comS
  split
  · exact cml_cnt n
  · exact ⟨0, Nat.zero_le _, rfl⟩
theorem send_cnt (n h : Nat) (σ : Sg) : ∃ m, m ≤ 1 ∧ (sendS n h σ).2 = nI m := by
  unfold sendS
  split
  · exact ⟨0, by decide, rfl⟩
  · exact ⟨1, by decide, rfl⟩
theorem it_cnt (n h : Nat) (σ : Sg) : ∀ j, ∃ m, m ≤ j ∧ (itS n h σ j).2 = nI m := by
  intro j
  induction j with
  | zero => exact ⟨0, Nat.le_refl _, rfl⟩
  | succ j ih =>
    obtain ⟨m, hm, e⟩ := ih
    obtain ⟨m2, hm2, e2⟩ := send_cnt n (h - j) (itS n h σ j).1
    exact ⟨m + m2, by omega, by show _ + _ = _; rw [e, e2]; exact nI_add m m2⟩
theorem nneg {m : Nat} (h : m < 2 ^ 31) : ¬ nI m < 0 := nI_pos h
theorem nneg_i {x : Int32} (h : 0 ≤ x.toInt) : ¬ x < 0 := Int32.not_lt.mpr (i_le.mpr h)
/-- an answer below 0: nothing; else the bounds stay -/
theorem locoR.ok {a b c d : Int32} {σ : Sg} {q : Int32 × Sg} {n h : Nat} (V : Iv n h σ) (H : locoR a b c d σ q) : (q.1 < 0 ∧ q.2 = σ) ∨ (¬ q.1 < 0 ∧ Iv (nof q.2) (hof q.2) q.2) := by
  have hn := V.nofe
  rcases H with ⟨-, rfl⟩ | ⟨-, -, rfl⟩ | ⟨-, -, -, rfl⟩ | ⟨hb, -, h8, rfl⟩
  · exact Or.inl ⟨(show (-2 : Int32) < 0 by decide), rfl⟩
  · exact Or.inl ⟨(show (-5 : Int32) < 0 by decide), rfl⟩
  · exact Or.inl ⟨(show (-4 : Int32) < 0 by decide), rfl⟩
  · have V2 := V.add (by omega) hb
    rw [← hn] at V2
    exact Or.inr ⟨nneg (by omega), by show Iv (nof _) (hof _) _; rw [V2.nofe, V2.hofe]; exact V2⟩
theorem liftR.ok {a : Int32} {σ : Sg} {q : Int32 × Sg} {n h : Nat} (V : Iv n h σ) (H : liftR a σ q) : (q.1 < 0 ∧ q.2 = σ) ∨ (¬ q.1 < 0 ∧ Iv (nof q.2) (hof q.2) q.2) := by
  have hn := V.nofe
  have h8 := V.2.1
  rcases H with ⟨-, rfl⟩ | ⟨hb, rfl⟩
  · exact Or.inl ⟨(show (-1 : Int32) < 0 by decide), rfl⟩
  · have V2 := V.lift (p := rkS σ a (nof σ)) (by omega)
    rw [← hn] at V2
    exact Or.inr ⟨nneg (by omega), by show Iv (nof _) (hof _) _; rw [V2.nofe, V2.hofe]; exact V2⟩
theorem noiseR.ok {x : Int32} {σ : Sg} {q : Int32 × Sg} {n h : Nat} (V : Iv n h σ) (H : noiseR x σ q) : (q.1 < 0 ∧ q.2 = σ) ∨ (¬ q.1 < 0 ∧ Iv (nof q.2) (hof q.2) q.2) := by
  rcases H with ⟨-, rfl⟩ | ⟨hb, rfl⟩
  · exact Or.inl ⟨(show (-2 : Int32) < 0 by decide), rfl⟩
  · have V2 := V.noise hb
    exact Or.inr ⟨nneg_i V.2.2.2.2.2.2.1.1, by show Iv (nof _) (hof _) _; rw [V2.nofe, V2.hofe]; exact V2⟩
theorem ordR.ok {a d t : Int32} {σ : Sg} {q : Int32 × Sg} {n h : Nat} (V : Iv n h σ) (H : ordR a d t σ q) : (q.1 < 0 ∧ q.2 = σ) ∨ (¬ q.1 < 0 ∧ Iv (nof q.2) (hof q.2) q.2) := by
  have hh := V.hofe
  rcases H with ⟨-, rfl⟩ | ⟨-, -, rfl⟩ | ⟨hb, h8, rfl⟩
  · exact Or.inl ⟨(show (-2 : Int32) < 0 by decide), rfl⟩
  · exact Or.inl ⟨(show (-4 : Int32) < 0 by decide), rfl⟩
  · have V2 := V.ord (by omega) hb
    rw [← hh] at V2
    exact Or.inr ⟨nneg (by omega), by show Iv (nof _) (hof _) _; rw [V2.nofe, V2.hofe]; exact V2⟩
theorem frmR.ok {a d c : Int32} {σ : Sg} {q : Int32 × Sg} {n h : Nat} (V : Iv n h σ) (H : frmR a d c σ q) : (q.1 < 0 ∧ q.2 = σ) ∨ (¬ q.1 < 0 ∧ Iv (nof q.2) (hof q.2) q.2) := by
  have hn := V.nofe
  have h8 := V.2.1
  rcases H with ⟨-, rfl⟩ | ⟨hb, rfl⟩
  · exact Or.inl ⟨(show (-2 : Int32) < 0 by decide), rfl⟩
  · have V2 := V.com (a := a) (c := c) (d := d) ⟨i_le.mp hb.2.1.1, i_le.mp hb.2.1.2⟩
    obtain ⟨m, hm, e⟩ := com_cnt (nof σ) a d c σ
    rw [← hn] at V2
    exact Or.inr ⟨by show ¬ (comS _ _ _ _ _).2 < 0; rw [e]; exact nneg (by omega), by show Iv (nof _) (hof _) _; rw [V2.nofe, V2.hofe]; exact V2⟩
theorem shoR.ok {b t : Int32} {σ : Sg} {q : Int32 × Sg} {n h : Nat} (V : Iv n h σ) (H : shoR b t σ q) : (q.1 < 0 ∧ q.2 = σ) ∨ (¬ q.1 < 0 ∧ Iv (nof q.2) (hof q.2) q.2) := by
  rcases H with ⟨-, rfl⟩ | ⟨-, -, rfl⟩ | ⟨hb, ht, rfl⟩
  · exact Or.inl ⟨(show (-1 : Int32) < 0 by decide), rfl⟩
  · exact Or.inl ⟨(show (-2 : Int32) < 0 by decide), rfl⟩
  · have hr := rng (M := 7) (m := 7) rfl hb.1 hb.2
    have V2 := V.short (b := b.toInt.toNat) (by omega) ht
    exact Or.inr ⟨nneg_i (V.2.2.2.2.2.1 b.toInt.toNat (by omega)).1, by show Iv (nof _) (hof _) _; rw [V2.nofe, V2.hofe]; exact V2⟩
theorem pasR.ok {x : Int32} {σ : Sg} {q : Int32 × Sg} {n h : Nat} (V : Iv n h σ) (H : pasR x σ q) : (q.1 < 0 ∧ q.2 = σ) ∨ (¬ q.1 < 0 ∧ Iv (nof q.2) (hof q.2) q.2) := by
  have hn := V.nofe
  have hh := V.hofe
  rcases H with ⟨-, rfl⟩ | ⟨-, -, rfl⟩ | ⟨hb, ht, rfl⟩
  · exact Or.inl ⟨(show (-2 : Int32) < 0 by decide), rfl⟩
  · exact Or.inl ⟨(show (-5 : Int32) < 0 by decide), rfl⟩
  · have hr := rng (x := x) (M := 99) (m := 99) rfl (Int32.le_trans (by decide) hb.1) hb.2
    have V2 := V.it x.toInt.toNat
    obtain ⟨m, hm, e⟩ := it_cnt (nof σ) (hof σ) σ x.toInt.toNat
    rw [← hn, ← hh] at V2
    exact Or.inr ⟨by show ¬ (itS _ _ _ _).2 < 0; rw [e]; exact nneg (by omega), by show Iv (nof _) (hof _) _; rw [V2.nofe, V2.hofe]; exact V2⟩
end
section
/-! PART 20: the class's changes -/
def CHG (I : Ii) (u : Ii × Pm) (r : Int32) (q : Int32 × Sg) (σ : Sg) (hn : Nat) (hist : Nat → Sg) (sv : Nat → Int32) (sl : Nat → Sg) (pl : Nat) (pad : Sg) : Prop := r = q.1 ∧ ((q.1 < 0 ∧ CR u.1 u.2 σ hn hist sv sl pl pad) ∨ (¬ q.1 < 0 ∧ CR u.1 u.2 q.2 (pushN hn) (pushH hn hist σ) sv sl pl pad)) ∧ FC I u.1
/-- behind the work, ahead of 'kept' -/
def OPD (I : Ii) (u : Ii × Pm) (q : Int32 × Sg) (σ : Sg) (hn : Nat) (hist : Nat → Sg) (sv : Nat → Int32) (sl : Nat → Sg) (pl : Nat) (pad : Sg) : Prop := (∃ s, DR u.1 u.2 σ s hn hist sv sl pl pad ∧ (q.1 < 0 → s = σ) ∧ (¬ q.1 < 0 → s = q.2)) ∧ FC I u.1
theorem OPD.err {I : Ii} {pm : Pm} {u : Ii × Pm} {q : Int32 × Sg} {σ : Sg} {hn : Nat} {hist : Nat → Sg} {sv : Nat → Int32} {sl : Nat → Sg} {pl : Nat} {pad : Sg} (D : DR I pm σ σ hn hist sv sl pl pad) (hu : u = (I, pm)) (hq : q.1 < 0) : OPD I u q σ hn hist sv sl pl pad := by
  subst hu
  exact ⟨⟨σ, D, fun _ => rfl, fun h => absurd hq h⟩, FC.rf⟩
theorem OPD.ok {I : Ii} {pm : Pm} {u : Ii × Pm} {q : Int32 × Sg} {σ : Sg} {hn : Nat} {hist : Nat → Sg} {sv : Nat → Int32} {sl : Nat → Sg} {pl : Nat} {pad : Sg} (D : DR I pm σ σ hn hist sv sl pl pad) (F : Fr 0 I pm u.1 u.2) (R : RpS u.1 u.2 0 q.2) (hq : ¬ q.1 < 0) : OPD I u q σ hn hist sv sl pl pad :=
  ⟨⟨q.2, D.op F R, fun h => absurd h hq, fun _ => rfl⟩, FC.fr F⟩
theorem CHG.fin {I I1 : Ii} {u1 u : Ii × Pm} {x r : Int32} {q : Int32 × Sg} {σ : Sg} {hn : Nat} {hist : Nat → Sg} {sv : Nat → Int32} {sl : Nat → Sg} {pl : Nat} {pad : Sg} {s : Sg} (hx : x = q.1) (h1 : q.1 < 0 → s = σ) (h2 : ¬ q.1 < 0 → s = q.2) (f1 : FC I I1) (f2 : FC I1 u1.1) (H : r = x ∧ ((x < 0 ∧ CR u.1 u.2 s hn hist sv sl pl pad) ∨ (¬ x < 0 ∧ CR u.1 u.2 s (pushN hn) (pushH hn hist σ) sv sl pl pad)) ∧ FC u1.1 u.1) : CHG I u r q σ hn hist sv sl pl pad := by
  obtain ⟨rfl, H, f3⟩ := H
  subst hx
  refine ⟨rfl, ?_, (f1.tr f2).tr f3⟩
  rcases H with ⟨h, C⟩ | ⟨h, C⟩
  · exact Or.inl ⟨h, by rw [h1 h] at C; exact C⟩
  · exact Or.inr ⟨h, by rw [h2 h] at C; exact C⟩
theorem rps {I : Ii} {pm : Pm} {k n h n' h' : Nat} {σ : Sg} (R : Rp n h I pm k σ) (V : Iv n' h' σ) : RpS I pm k σ := by
  have e1 : n = n' := (nI_eq (by have := R.n8; omega) (by have := V.2.1; omega)).mp (R.2.2.2.2.2.2.1.symm.trans V.1)
  have e2 : h = h' := (nI_eq (by have := R.h20; omega) (by have := V.2.2.2.1; omega)).mp (R.2.2.2.2.2.2.2.2.1.symm.trans V.2.2.1)
  subst e1 e2
  exact ⟨_, _, R, V⟩

set_option maxHeartbeats 4000000 in
set_option maxRecDepth 100000 in
theorem c_X5_loco {l : Launch} {G : Gm} (hj : Aj G) {I : Ii} {pm : Pm} {a b c0 d : Int32} {σ : Sg} {hn : Nat} {hist : Nat → Sg} {sv : Nat → Int32} {sl : Nat → Sg} {pl : Nat} {pad : Sg} (C : CR I pm σ hn hist sv sl pl pad) : CI l G yX5_loco (wz yX5_loco cX5_loco 5 (some .int)) (rmL 4) [.ref (G.2.2 8 0), .int a, .int b, .int c0, .int d] I pm (fun r u => ∃ q, locoR a b c0 d σ q ∧ CHG I u r q σ hn hist sv sl pl pad) := by
  refine CI.walk hj (by decide +kernel) (by show _ ≤ 5; exact Nat.le_of_ble_eq_true rfl) ?_
  intro p e s m args below meth c F hr hlk
  refine g_aload_n F 0 dX5_loco_0 rfl rfl ?_
  refine gf_8_2 F (by decide) mFL_X5_22 dX5_loco_1 ?_
  refine g_aload_n F 0 dX5_loco_4 rfl rfl ?_
  refine gf_8_0 F (by decide) mFL_X5_12 dX5_loco_5 ?_
  refine g_callVv (na := 1) F 9 _ (c_X0_draft hj C) (by decide) rfl rfl lk_X5_41 rfl rfl (by decide +kernel) ⟨rfl, rfl, Nat.le_of_ble_eq_true rfl, Nat.le_of_ble_eq_true rfl, Nat.le_of_ble_eq_true rfl, Nat.le_of_ble_eq_true rfl, Nat.le_of_ble_eq_true rfl⟩ dX5_loco_8 (fun u_8 h_8 => ?_)
  obtain ⟨D, f1⟩ := h_8
  obtain ⟨n, h, R, V⟩ := id D.1
  have hn8 := V.2.1
  have hh20 := V.2.2.2.1
  refine g_aload_n F 0 dX5_loco_11 rfl rfl ?_
  refine gf_8_2 F (by decide) mFL_X5_22 dX5_loco_12 ?_
  refine g_aload_n F 0 dX5_loco_15 rfl rfl ?_
  refine gf_8_0 F (by decide) mFL_X5_12 dX5_loco_16 ?_
  refine g_iload_n F 1 dX5_loco_19 rfl rfl ?_
  refine g_iload_n F 2 dX5_loco_20 rfl rfl ?_
  refine g_iload_n F 3 dX5_loco_21 rfl rfl ?_
  refine g_iload F 4 dX5_loco_22 rfl ?_
  refine g_callIv (na := 4) F 0 _ (c_X1_addLoco hj (by decide) R) (by decide) rfl rfl lk_X5_45 rfl rfl (by decide +kernel) ⟨rfl, rfl, Nat.le_of_ble_eq_true rfl, Nat.le_of_ble_eq_true rfl, Nat.le_of_ble_eq_true rfl, Nat.le_of_ble_eq_true rfl, Nat.le_of_ble_eq_true rfl⟩ dX5_loco_24 (fun r_24 u_24 h_24 => ?_)
  obtain ⟨q, hq, hrq, QD⟩ : ∃ q, locoR a b c0 d σ q ∧ r_24 = q.1 ∧ OPD u_8.1 u_24 q σ hn hist sv sl pl pad := by
    rcases h_24 with ⟨hb, rfl, hu⟩ | ⟨hb, hrk, rfl, hu⟩ | ⟨hb, hrk, h8, rfl, hu⟩ | ⟨hb, hrk, h8, rfl, Ru, Fu⟩
    · exact ⟨(-2, σ), Or.inl ⟨hb, rfl⟩, rfl, OPD.err D hu (show (-2 : Int32) < 0 by decide)⟩
    · exact ⟨(-5, σ), Or.inr (Or.inl ⟨hb, by rw [V.nofe]; exact hrk, rfl⟩), rfl, OPD.err D hu (show (-5 : Int32) < 0 by decide)⟩
    · exact ⟨(-4, σ), Or.inr (Or.inr (Or.inl ⟨hb, by rw [V.nofe]; exact hrk, by rw [V.nofe]; exact h8, rfl⟩)), rfl, OPD.err D hu (show (-4 : Int32) < 0 by decide)⟩
    · exact ⟨(nI (n + 1), addS n a b c0 d σ), Or.inr (Or.inr (Or.inr ⟨hb, by rw [V.nofe]; exact hrk, by rw [V.nofe]; exact h8, by rw [V.nofe]⟩)), rfl, OPD.ok D Fu (rps Ru (V.add h8 hb)) (nneg (by omega))⟩
  obtain ⟨⟨s2, D2, hs1, hs2⟩, f2⟩ := QD
  refine g_callIv (na := 1) F 9 _ (c_X0_kept hj D2) (by decide) rfl rfl lk_X5_49 rfl rfl (by decide +kernel) ⟨rfl, rfl, Nat.le_of_ble_eq_true rfl, Nat.le_of_ble_eq_true rfl, Nat.le_of_ble_eq_true rfl, Nat.le_of_ble_eq_true rfl, Nat.le_of_ble_eq_true rfl⟩ dX5_loco_27 (fun r_27 u_27 h_27 => ?_)
  skip
  refine g_iret F hr hlk rfl dX5_loco_30 ?_
  exact ⟨q, hq, CHG.fin hrq hs1 hs2 f1 f2 h_27⟩
set_option maxHeartbeats 4000000 in
set_option maxRecDepth 100000 in
theorem c_X5_lift {l : Launch} {G : Gm} (hj : Aj G) {I : Ii} {pm : Pm} {a : Int32} {σ : Sg} {hn : Nat} {hist : Nat → Sg} {sv : Nat → Int32} {sl : Nat → Sg} {pl : Nat} {pad : Sg} (C : CR I pm σ hn hist sv sl pl pad) : CI l G yX5_lift (wz yX5_lift cX5_lift 2 (some .int)) (rmL 4) [.ref (G.2.2 8 0), .int a] I pm (fun r u => ∃ q, liftR a σ q ∧ CHG I u r q σ hn hist sv sl pl pad) := by
  refine CI.walk hj (by decide +kernel) (by show _ ≤ 2; exact Nat.le_of_ble_eq_true rfl) ?_
  intro p e s m args below meth c F hr hlk
  refine g_aload_n F 0 dX5_lift_0 rfl rfl ?_
  refine gf_8_2 F (by decide) mFL_X5_22 dX5_lift_1 ?_
  refine g_aload_n F 0 dX5_lift_4 rfl rfl ?_
  refine gf_8_0 F (by decide) mFL_X5_12 dX5_lift_5 ?_
  refine g_callVv (na := 1) F 9 _ (c_X0_draft hj C) (by decide) rfl rfl lk_X5_41 rfl rfl (by decide +kernel) ⟨rfl, rfl, Nat.le_of_ble_eq_true rfl, Nat.le_of_ble_eq_true rfl, Nat.le_of_ble_eq_true rfl, Nat.le_of_ble_eq_true rfl, Nat.le_of_ble_eq_true rfl⟩ dX5_lift_8 (fun u_8 h_8 => ?_)
  obtain ⟨D, f1⟩ := h_8
  obtain ⟨n, h, R, V⟩ := id D.1
  have hn8 := V.2.1
  have hh20 := V.2.2.2.1
  refine g_aload_n F 0 dX5_lift_11 rfl rfl ?_
  refine gf_8_2 F (by decide) mFL_X5_22 dX5_lift_12 ?_
  refine g_aload_n F 0 dX5_lift_15 rfl rfl ?_
  refine gf_8_0 F (by decide) mFL_X5_12 dX5_lift_16 ?_
  refine g_iload_n F 1 dX5_lift_19 rfl rfl ?_
  refine g_callIv (na := 1) F 0 _ (c_X1_removeLoco hj (by decide) R) (by decide) rfl rfl lk_X5_53 rfl rfl (by decide +kernel) ⟨rfl, rfl, Nat.le_of_ble_eq_true rfl, Nat.le_of_ble_eq_true rfl, Nat.le_of_ble_eq_true rfl, Nat.le_of_ble_eq_true rfl, Nat.le_of_ble_eq_true rfl⟩ dX5_lift_20 (fun r_20 u_20 h_20 => ?_)
  obtain ⟨q, hq, hrq, QD⟩ : ∃ q, liftR a σ q ∧ r_20 = q.1 ∧ OPD u_8.1 u_20 q σ hn hist sv sl pl pad := by
    rcases h_20 with ⟨hb, rfl, hu⟩ | ⟨hb, rfl, Ru, Fu⟩
    · exact ⟨(-1, σ), Or.inl ⟨by rw [V.nofe]; exact hb, rfl⟩, rfl, OPD.err D hu (show (-1 : Int32) < 0 by decide)⟩
    · exact ⟨(nI (n - 1), lifS n (rkS σ a n) σ), Or.inr ⟨by rw [V.nofe]; exact hb, by rw [V.nofe]⟩, rfl, OPD.ok D Fu (rps Ru (V.lift hb)) (nneg (by omega))⟩
  obtain ⟨⟨s2, D2, hs1, hs2⟩, f2⟩ := QD
  refine g_callIv (na := 1) F 9 _ (c_X0_kept hj D2) (by decide) rfl rfl lk_X5_49 rfl rfl (by decide +kernel) ⟨rfl, rfl, Nat.le_of_ble_eq_true rfl, Nat.le_of_ble_eq_true rfl, Nat.le_of_ble_eq_true rfl, Nat.le_of_ble_eq_true rfl, Nat.le_of_ble_eq_true rfl⟩ dX5_lift_23 (fun r_23 u_23 h_23 => ?_)
  skip
  refine g_iret F hr hlk rfl dX5_lift_26 ?_
  exact ⟨q, hq, CHG.fin hrq hs1 hs2 f1 f2 h_23⟩
set_option maxHeartbeats 4000000 in
set_option maxRecDepth 100000 in
theorem c_X5_noise {l : Launch} {G : Gm} (hj : Aj G) {I : Ii} {pm : Pm} {x : Int32} {σ : Sg} {hn : Nat} {hist : Nat → Sg} {sv : Nat → Int32} {sl : Nat → Sg} {pl : Nat} {pad : Sg} (C : CR I pm σ hn hist sv sl pl pad) : CI l G yX5_noise (wz yX5_noise cX5_noise 2 (some .int)) (rmL 4) [.ref (G.2.2 8 0), .int x] I pm (fun r u => ∃ q, noiseR x σ q ∧ CHG I u r q σ hn hist sv sl pl pad) := by
  refine CI.walk hj (by decide +kernel) (by show _ ≤ 2; exact Nat.le_of_ble_eq_true rfl) ?_
  intro p e s m args below meth c F hr hlk
  refine g_aload_n F 0 dX5_noise_0 rfl rfl ?_
  refine gf_8_2 F (by decide) mFL_X5_22 dX5_noise_1 ?_
  refine g_aload_n F 0 dX5_noise_4 rfl rfl ?_
  refine gf_8_0 F (by decide) mFL_X5_12 dX5_noise_5 ?_
  refine g_callVv (na := 1) F 9 _ (c_X0_draft hj C) (by decide) rfl rfl lk_X5_41 rfl rfl (by decide +kernel) ⟨rfl, rfl, Nat.le_of_ble_eq_true rfl, Nat.le_of_ble_eq_true rfl, Nat.le_of_ble_eq_true rfl, Nat.le_of_ble_eq_true rfl, Nat.le_of_ble_eq_true rfl⟩ dX5_noise_8 (fun u_8 h_8 => ?_)
  obtain ⟨D, f1⟩ := h_8
  obtain ⟨n, h, R, V⟩ := id D.1
  have hn8 := V.2.1
  have hh20 := V.2.2.2.1
  refine g_aload_n F 0 dX5_noise_11 rfl rfl ?_
  refine gf_8_2 F (by decide) mFL_X5_22 dX5_noise_12 ?_
  refine g_aload_n F 0 dX5_noise_15 rfl rfl ?_
  refine gf_8_0 F (by decide) mFL_X5_12 dX5_noise_16 ?_
  refine g_iload_n F 1 dX5_noise_19 rfl rfl ?_
  refine g_callIv (na := 1) F 0 _ (c_X1_changeNoise hj (by decide) R) (by decide) rfl rfl lk_X5_56 rfl rfl (by decide +kernel) ⟨rfl, rfl, Nat.le_of_ble_eq_true rfl, Nat.le_of_ble_eq_true rfl, Nat.le_of_ble_eq_true rfl, Nat.le_of_ble_eq_true rfl, Nat.le_of_ble_eq_true rfl⟩ dX5_noise_20 (fun r_20 u_20 h_20 => ?_)
  obtain ⟨q, hq, hrq, QD⟩ : ∃ q, noiseR x σ q ∧ r_20 = q.1 ∧ OPD u_8.1 u_20 q σ hn hist sv sl pl pad := by
    rcases h_20 with ⟨hb, rfl, hu⟩ | ⟨hb, rfl, Ru, Fu⟩
    · exact ⟨(-2, σ), Or.inl ⟨hb, rfl⟩, rfl, OPD.err D hu (show (-2 : Int32) < 0 by decide)⟩
    · exact ⟨(σ 1, upd σ 1 x), Or.inr ⟨hb, rfl⟩, rfl, OPD.ok D Fu (rps Ru (V.noise hb)) (nneg_i V.2.2.2.2.2.2.1.1)⟩
  obtain ⟨⟨s2, D2, hs1, hs2⟩, f2⟩ := QD
  refine g_callIv (na := 1) F 9 _ (c_X0_kept hj D2) (by decide) rfl rfl lk_X5_49 rfl rfl (by decide +kernel) ⟨rfl, rfl, Nat.le_of_ble_eq_true rfl, Nat.le_of_ble_eq_true rfl, Nat.le_of_ble_eq_true rfl, Nat.le_of_ble_eq_true rfl, Nat.le_of_ble_eq_true rfl⟩ dX5_noise_23 (fun r_23 u_23 h_23 => ?_)
  skip
  refine g_iret F hr hlk rfl dX5_noise_26 ?_
  exact ⟨q, hq, CHG.fin hrq hs1 hs2 f1 f2 h_23⟩
set_option maxHeartbeats 4000000 in
set_option maxRecDepth 100000 in
theorem c_X5_order {l : Launch} {G : Gm} (hj : Aj G) {I : Ii} {pm : Pm} {a d t : Int32} {σ : Sg} {hn : Nat} {hist : Nat → Sg} {sv : Nat → Int32} {sl : Nat → Sg} {pl : Nat} {pad : Sg} (C : CR I pm σ hn hist sv sl pl pad) : CI l G yX5_order (wz yX5_order cX5_order 4 (some .int)) (rmL 4) [.ref (G.2.2 8 0), .int a, .int d, .int t] I pm (fun r u => ∃ q, ordR a d t σ q ∧ CHG I u r q σ hn hist sv sl pl pad) := by
  refine CI.walk hj (by decide +kernel) (by show _ ≤ 4; exact Nat.le_of_ble_eq_true rfl) ?_
  intro p e s m args below meth c F hr hlk
  refine g_aload_n F 0 dX5_order_0 rfl rfl ?_
  refine gf_8_2 F (by decide) mFL_X5_22 dX5_order_1 ?_
  refine g_aload_n F 0 dX5_order_4 rfl rfl ?_
  refine gf_8_0 F (by decide) mFL_X5_12 dX5_order_5 ?_
  refine g_callVv (na := 1) F 9 _ (c_X0_draft hj C) (by decide) rfl rfl lk_X5_41 rfl rfl (by decide +kernel) ⟨rfl, rfl, Nat.le_of_ble_eq_true rfl, Nat.le_of_ble_eq_true rfl, Nat.le_of_ble_eq_true rfl, Nat.le_of_ble_eq_true rfl, Nat.le_of_ble_eq_true rfl⟩ dX5_order_8 (fun u_8 h_8 => ?_)
  obtain ⟨D, f1⟩ := h_8
  obtain ⟨n, h, R, V⟩ := id D.1
  have hn8 := V.2.1
  have hh20 := V.2.2.2.1
  refine g_aload_n F 0 dX5_order_11 rfl rfl ?_
  refine gf_8_2 F (by decide) mFL_X5_22 dX5_order_12 ?_
  refine g_aload_n F 0 dX5_order_15 rfl rfl ?_
  refine gf_8_0 F (by decide) mFL_X5_12 dX5_order_16 ?_
  refine gf_0_1 F (by decide) mFL_X5_59 dX5_order_19 ?_
  refine g_iload_n F 1 dX5_order_22 rfl rfl ?_
  refine g_iload_n F 2 dX5_order_23 rfl rfl ?_
  refine g_iload_n F 3 dX5_order_24 rfl rfl ?_
  refine g_callIv (na := 3) F 2 _ (c_X4_take hj (by decide) R) (by decide) rfl rfl lk_X5_63 rfl rfl (by decide +kernel) ⟨rfl, rfl, Nat.le_of_ble_eq_true rfl, Nat.le_of_ble_eq_true rfl, Nat.le_of_ble_eq_true rfl, Nat.le_of_ble_eq_true rfl, Nat.le_of_ble_eq_true rfl⟩ dX5_order_25 (fun r_25 u_25 h_25 => ?_)
  obtain ⟨q, hq, hrq, QD⟩ : ∃ q, ordR a d t σ q ∧ r_25 = q.1 ∧ OPD u_8.1 u_25 q σ hn hist sv sl pl pad := by
    rcases h_25 with ⟨hb, rfl, hu⟩ | ⟨hb, h20, rfl, hu⟩ | ⟨hb, h20, rfl, Ru, up, uo⟩
    · exact ⟨(-2, σ), Or.inl ⟨hb, rfl⟩, rfl, OPD.err D hu (show (-2 : Int32) < 0 by decide)⟩
    · exact ⟨(-4, σ), Or.inr (Or.inl ⟨hb, by rw [V.hofe]; exact h20, rfl⟩), rfl, OPD.err D hu (show (-4 : Int32) < 0 by decide)⟩
    · exact ⟨(nI (h + 1), ordS h a d t σ), Or.inr (Or.inr ⟨hb, by rw [V.hofe]; exact h20, by rw [V.hofe]⟩), rfl, OPD.ok D (by rw [up]; exact Fr.rows uo) (by rw [up]; exact rps Ru (V.ord h20 hb)) (nneg (by omega))⟩
  obtain ⟨⟨s2, D2, hs1, hs2⟩, f2⟩ := QD
  refine g_callIv (na := 1) F 9 _ (c_X0_kept hj D2) (by decide) rfl rfl lk_X5_49 rfl rfl (by decide +kernel) ⟨rfl, rfl, Nat.le_of_ble_eq_true rfl, Nat.le_of_ble_eq_true rfl, Nat.le_of_ble_eq_true rfl, Nat.le_of_ble_eq_true rfl, Nat.le_of_ble_eq_true rfl⟩ dX5_order_28 (fun r_28 u_28 h_28 => ?_)
  skip
  refine g_iret F hr hlk rfl dX5_order_31 ?_
  exact ⟨q, hq, CHG.fin hrq hs1 hs2 f1 f2 h_28⟩
set_option maxHeartbeats 4000000 in
set_option maxRecDepth 100000 in
theorem c_X5_frame {l : Launch} {G : Gm} (hj : Aj G) {I : Ii} {pm : Pm} {a d c0 : Int32} {σ : Sg} {hn : Nat} {hist : Nat → Sg} {sv : Nat → Int32} {sl : Nat → Sg} {pl : Nat} {pad : Sg} (C : CR I pm σ hn hist sv sl pl pad) : CI l G yX5_frame (wz yX5_frame cX5_frame 4 (some .int)) (rmL 4) [.ref (G.2.2 8 0), .int a, .int d, .int c0] I pm (fun r u => ∃ q, frmR a d c0 σ q ∧ CHG I u r q σ hn hist sv sl pl pad) := by
  refine CI.walk hj (by decide +kernel) (by show _ ≤ 4; exact Nat.le_of_ble_eq_true rfl) ?_
  intro p e s m args below meth c F hr hlk
  refine g_aload_n F 0 dX5_frame_0 rfl rfl ?_
  refine gf_8_2 F (by decide) mFL_X5_22 dX5_frame_1 ?_
  refine g_aload_n F 0 dX5_frame_4 rfl rfl ?_
  refine gf_8_0 F (by decide) mFL_X5_12 dX5_frame_5 ?_
  refine g_callVv (na := 1) F 9 _ (c_X0_draft hj C) (by decide) rfl rfl lk_X5_41 rfl rfl (by decide +kernel) ⟨rfl, rfl, Nat.le_of_ble_eq_true rfl, Nat.le_of_ble_eq_true rfl, Nat.le_of_ble_eq_true rfl, Nat.le_of_ble_eq_true rfl, Nat.le_of_ble_eq_true rfl⟩ dX5_frame_8 (fun u_8 h_8 => ?_)
  obtain ⟨D, f1⟩ := h_8
  obtain ⟨n, h, R, V⟩ := id D.1
  have hn8 := V.2.1
  have hh20 := V.2.2.2.1
  refine g_aload_n F 0 dX5_frame_11 rfl rfl ?_
  refine gf_8_2 F (by decide) mFL_X5_22 dX5_frame_12 ?_
  refine g_aload_n F 0 dX5_frame_15 rfl rfl ?_
  refine gf_8_0 F (by decide) mFL_X5_12 dX5_frame_16 ?_
  refine g_iload_n F 1 dX5_frame_19 rfl rfl ?_
  refine g_iload_n F 2 dX5_frame_20 rfl rfl ?_
  refine g_iload_n F 3 dX5_frame_21 rfl rfl ?_
  refine g_callIv (na := 3) F 0 _ (c_X1_takeFrame hj (by decide) R V) (by decide) rfl rfl lk_X5_69 rfl rfl (by decide +kernel) ⟨rfl, rfl, Nat.le_of_ble_eq_true rfl, Nat.le_of_ble_eq_true rfl, Nat.le_of_ble_eq_true rfl, Nat.le_of_ble_eq_true rfl, Nat.le_of_ble_eq_true rfl⟩ dX5_frame_22 (fun r_22 u_22 h_22 => ?_)
  obtain ⟨q, hq, hrq, QD⟩ : ∃ q, frmR a d c0 σ q ∧ r_22 = q.1 ∧ OPD u_8.1 u_22 q σ hn hist sv sl pl pad := by
    rcases h_22 with ⟨hb, rfl, hu⟩ | ⟨hb, rfl, Ru, Fu, up⟩
    · exact ⟨(-2, σ), Or.inl ⟨hb, rfl⟩, rfl, OPD.err D hu (show (-2 : Int32) < 0 by decide)⟩
    · exact ⟨((comS n a d c0 σ).2, (comS n a d c0 σ).1), Or.inr ⟨hb, by rw [V.nofe]⟩, rfl, OPD.ok D Fu (rps Ru (V.com ⟨i_le.mp hb.2.1.1, i_le.mp hb.2.1.2⟩)) (by obtain ⟨m, hm, e⟩ := com_cnt n a d c0 σ; show ¬ (comS _ _ _ _ _).2 < 0; rw [e]; exact nneg (by omega))⟩
  obtain ⟨⟨s2, D2, hs1, hs2⟩, f2⟩ := QD
  refine g_callIv (na := 1) F 9 _ (c_X0_kept hj D2) (by decide) rfl rfl lk_X5_49 rfl rfl (by decide +kernel) ⟨rfl, rfl, Nat.le_of_ble_eq_true rfl, Nat.le_of_ble_eq_true rfl, Nat.le_of_ble_eq_true rfl, Nat.le_of_ble_eq_true rfl, Nat.le_of_ble_eq_true rfl⟩ dX5_frame_25 (fun r_25 u_25 h_25 => ?_)
  skip
  refine g_iret F hr hlk rfl dX5_frame_28 ?_
  exact ⟨q, hq, CHG.fin hrq hs1 hs2 f1 f2 h_25⟩
set_option maxHeartbeats 4000000 in
set_option maxRecDepth 100000 in
theorem c_X5_shorts {l : Launch} {G : Gm} (hj : Aj G) {I : Ii} {pm : Pm} {b t : Int32} {σ : Sg} {hn : Nat} {hist : Nat → Sg} {sv : Nat → Int32} {sl : Nat → Sg} {pl : Nat} {pad : Sg} (C : CR I pm σ hn hist sv sl pl pad) : CI l G yX5_shorts (wz yX5_shorts cX5_shorts 3 (some .int)) (rmL 4) [.ref (G.2.2 8 0), .int b, .int t] I pm (fun r u => ∃ q, shoR b t σ q ∧ CHG I u r q σ hn hist sv sl pl pad) := by
  refine CI.walk hj (by decide +kernel) (by show _ ≤ 3; exact Nat.le_of_ble_eq_true rfl) ?_
  intro p e s m args below meth c F hr hlk
  refine g_aload_n F 0 dX5_shorts_0 rfl rfl ?_
  refine gf_8_2 F (by decide) mFL_X5_22 dX5_shorts_1 ?_
  refine g_aload_n F 0 dX5_shorts_4 rfl rfl ?_
  refine gf_8_0 F (by decide) mFL_X5_12 dX5_shorts_5 ?_
  refine g_callVv (na := 1) F 9 _ (c_X0_draft hj C) (by decide) rfl rfl lk_X5_41 rfl rfl (by decide +kernel) ⟨rfl, rfl, Nat.le_of_ble_eq_true rfl, Nat.le_of_ble_eq_true rfl, Nat.le_of_ble_eq_true rfl, Nat.le_of_ble_eq_true rfl, Nat.le_of_ble_eq_true rfl⟩ dX5_shorts_8 (fun u_8 h_8 => ?_)
  obtain ⟨D, f1⟩ := h_8
  obtain ⟨n, h, R, V⟩ := id D.1
  have hn8 := V.2.1
  have hh20 := V.2.2.2.1
  refine g_aload_n F 0 dX5_shorts_11 rfl rfl ?_
  refine gf_8_2 F (by decide) mFL_X5_22 dX5_shorts_12 ?_
  refine g_aload_n F 0 dX5_shorts_15 rfl rfl ?_
  refine gf_8_0 F (by decide) mFL_X5_12 dX5_shorts_16 ?_
  refine g_iload_n F 1 dX5_shorts_19 rfl rfl ?_
  refine g_iload_n F 2 dX5_shorts_20 rfl rfl ?_
  refine g_callIv (na := 2) F 0 _ (c_X1_changeShort hj (by decide) R) (by decide) rfl rfl lk_X5_72 rfl rfl (by decide +kernel) ⟨rfl, rfl, Nat.le_of_ble_eq_true rfl, Nat.le_of_ble_eq_true rfl, Nat.le_of_ble_eq_true rfl, Nat.le_of_ble_eq_true rfl, Nat.le_of_ble_eq_true rfl⟩ dX5_shorts_21 (fun r_21 u_21 h_21 => ?_)
  obtain ⟨q, hq, hrq, QD⟩ : ∃ q, shoR b t σ q ∧ r_21 = q.1 ∧ OPD u_8.1 u_21 q σ hn hist sv sl pl pad := by
    rcases h_21 with ⟨hb, rfl, hu⟩ | ⟨hb, ht, rfl, hu⟩ | ⟨hb, ht, rfl, Ru, Fu⟩
    · exact ⟨(-1, σ), Or.inl ⟨hb, rfl⟩, rfl, OPD.err D hu (show (-1 : Int32) < 0 by decide)⟩
    · exact ⟨(-2, σ), Or.inr (Or.inl ⟨hb, ht, rfl⟩), rfl, OPD.err D hu (show (-2 : Int32) < 0 by decide)⟩
    · exact ⟨(σ (8 + b.toInt.toNat), upd σ (8 + b.toInt.toNat) t), Or.inr (Or.inr ⟨hb, ht, rfl⟩), rfl, OPD.ok D Fu (rps Ru (V.short (by have := rng (M := 7) (m := 7) rfl hb.1 hb.2; omega) ht)) (nneg_i (V.2.2.2.2.2.1 _ (by have := rng (M := 7) (m := 7) rfl hb.1 hb.2; omega)).1)⟩
  obtain ⟨⟨s2, D2, hs1, hs2⟩, f2⟩ := QD
  refine g_callIv (na := 1) F 9 _ (c_X0_kept hj D2) (by decide) rfl rfl lk_X5_49 rfl rfl (by decide +kernel) ⟨rfl, rfl, Nat.le_of_ble_eq_true rfl, Nat.le_of_ble_eq_true rfl, Nat.le_of_ble_eq_true rfl, Nat.le_of_ble_eq_true rfl, Nat.le_of_ble_eq_true rfl⟩ dX5_shorts_24 (fun r_24 u_24 h_24 => ?_)
  skip
  refine g_iret F hr hlk rfl dX5_shorts_27 ?_
  exact ⟨q, hq, CHG.fin hrq hs1 hs2 f1 f2 h_24⟩
set_option maxHeartbeats 4000000 in
set_option maxRecDepth 100000 in
theorem c_X5_pass {l : Launch} {G : Gm} (hj : Aj G) {I : Ii} {pm : Pm} {x : Int32} {σ : Sg} {hn : Nat} {hist : Nat → Sg} {sv : Nat → Int32} {sl : Nat → Sg} {pl : Nat} {pad : Sg} (C : CR I pm σ hn hist sv sl pl pad) : CI l G yX5_pass (wz yX5_pass cX5_pass 2 (some .int)) (rmL 6) [.ref (G.2.2 8 0), .int x] I pm (fun r u => ∃ q, pasR x σ q ∧ CHG I u r q σ hn hist sv sl pl pad) := by
  refine CI.walk hj (by decide +kernel) (by show _ ≤ 2; exact Nat.le_of_ble_eq_true rfl) ?_
  intro p e s m args below meth c F hr hlk
  refine g_aload_n F 0 dX5_pass_0 rfl rfl ?_
  refine gf_8_2 F (by decide) mFL_X5_22 dX5_pass_1 ?_
  refine g_aload_n F 0 dX5_pass_4 rfl rfl ?_
  refine gf_8_0 F (by decide) mFL_X5_12 dX5_pass_5 ?_
  refine g_callVv (na := 1) F 9 _ (c_X0_draft hj C) (by decide) rfl rfl lk_X5_41 rfl rfl (by decide +kernel) ⟨rfl, rfl, Nat.le_of_ble_eq_true rfl, Nat.le_of_ble_eq_true rfl, Nat.le_of_ble_eq_true rfl, Nat.le_of_ble_eq_true rfl, Nat.le_of_ble_eq_true rfl⟩ dX5_pass_8 (fun u_8 h_8 => ?_)
  obtain ⟨D, f1⟩ := h_8
  obtain ⟨n, h, R, V⟩ := id D.1
  have hn8 := V.2.1
  have hh20 := V.2.2.2.1
  refine g_aload_n F 0 dX5_pass_11 rfl rfl ?_
  refine gf_8_2 F (by decide) mFL_X5_22 dX5_pass_12 ?_
  refine g_aload_n F 0 dX5_pass_15 rfl rfl ?_
  refine gf_8_0 F (by decide) mFL_X5_12 dX5_pass_16 ?_
  refine g_iload_n F 1 dX5_pass_19 rfl rfl ?_
  refine g_callIv (na := 1) F 0 _ (c_X1_takeTicks hj (by decide) R V) (by decide) rfl rfl lk_X5_76 rfl rfl (by decide +kernel) ⟨rfl, rfl, Nat.le_of_ble_eq_true rfl, Nat.le_of_ble_eq_true rfl, Nat.le_of_ble_eq_true rfl, Nat.le_of_ble_eq_true rfl, Nat.le_of_ble_eq_true rfl⟩ dX5_pass_20 (fun r_20 u_20 h_20 => ?_)
  obtain ⟨q, hq, hrq, QD⟩ : ∃ q, pasR x σ q ∧ r_20 = q.1 ∧ OPD u_8.1 u_20 q σ hn hist sv sl pl pad := by
    rcases h_20 with ⟨hb, rfl, hu⟩ | ⟨hb, ht, rfl, hu⟩ | ⟨hb, ht, rfl, Ru, Fu⟩
    · exact ⟨(-2, σ), Or.inl ⟨hb, rfl⟩, rfl, OPD.err D hu (show (-2 : Int32) < 0 by decide)⟩
    · exact ⟨(-5, σ), Or.inr (Or.inl ⟨hb, ht, rfl⟩), rfl, OPD.err D hu (show (-5 : Int32) < 0 by decide)⟩
    · exact ⟨((itS n h σ x.toInt.toNat).2, (itS n h σ x.toInt.toNat).1), Or.inr (Or.inr ⟨hb, ht, by rw [V.nofe, V.hofe]⟩), rfl, OPD.ok D Fu (rps Ru (V.it _)) (by obtain ⟨m, hm, e⟩ := it_cnt n h σ x.toInt.toNat; have := rng (x := x) (M := 99) (m := 99) rfl (Int32.le_trans (by decide) hb.1) hb.2; show ¬ (itS _ _ _ _).2 < 0; rw [e]; exact nneg (by omega))⟩
  obtain ⟨⟨s2, D2, hs1, hs2⟩, f2⟩ := QD
  refine g_callIv (na := 1) F 9 _ (c_X0_kept hj D2) (by decide) rfl rfl lk_X5_49 rfl rfl (by decide +kernel) ⟨rfl, rfl, Nat.le_of_ble_eq_true rfl, Nat.le_of_ble_eq_true rfl, Nat.le_of_ble_eq_true rfl, Nat.le_of_ble_eq_true rfl, Nat.le_of_ble_eq_true rfl⟩ dX5_pass_23 (fun r_23 u_23 h_23 => ?_)
  skip
  refine g_iret F hr hlk rfl dX5_pass_26 ?_
  exact ⟨q, hq, CHG.fin hrq hs1 hs2 f1 f2 h_23⟩
set_option maxHeartbeats 4000000 in
set_option maxRecDepth 100000 in
theorem c_X5_undo {l : Launch} {G : Gm} (hj : Aj G) {I : Ii} {pm : Pm} {σ : Sg} {hn : Nat} {hist : Nat → Sg} {sv : Nat → Int32} {sl : Nat → Sg} {pl : Nat} {pad : Sg} (C : CR I pm σ hn hist sv sl pl pad) : CI l G yX5_undo (wz yX5_undo cX5_undo 1 (some .int)) (rmL 4) [.ref (G.2.2 8 0)] I pm (fun r u => (hn = 0 ∧ r = -5 ∧ u = (I, pm)) ∨ (0 < hn ∧ r = nI (hn - 1) ∧ CR u.1 u.2 (hist (hn - 1)) (hn - 1) hist sv sl pl pad ∧ FC I u.1)) := by
  refine CI.walk hj (by decide +kernel) (by show _ ≤ 1; exact Nat.le_of_ble_eq_true rfl) ?_
  intro p e s m args below meth c F hr hlk
  refine g_aload_n F 0 dX5_undo_0 rfl rfl ?_
  refine gf_8_2 F (by decide) mFL_X5_22 dX5_undo_1 ?_
  refine g_aload_n F 0 dX5_undo_4 rfl rfl ?_
  refine gf_8_0 F (by decide) mFL_X5_12 dX5_undo_5 ?_
  refine g_callIv (na := 1) F 9 _ (c_X0_takeBack hj C) (by decide) rfl rfl lk_X5_188 rfl rfl (by decide +kernel) ⟨rfl, rfl, Nat.le_of_ble_eq_true rfl, Nat.le_of_ble_eq_true rfl, Nat.le_of_ble_eq_true rfl, Nat.le_of_ble_eq_true rfl, Nat.le_of_ble_eq_true rfl⟩ dX5_undo_8 (fun r_8 u_8 h_8 => ?_)
  skip
  refine g_iret F hr hlk rfl dX5_undo_11 ?_
  exact h_8
end
section
/-! PART 21: the class's answers, slots, and what if -/
def tldS (σ : Sg) (r : Nat) (w : Int32) : Int32 := if w = 0 then σ (16 + 11 * r + 1) else if w = 1 then σ (16 + 11 * r + 2) else if w = 2 then σ (16 + 11 * r + 3) else if w = 3 then σ (16 + 11 * r + 4) else if w = 4 then σ (16 + 11 * r + 5) + 1000 else if w = 5 then dueS σ r + 1000 else if w = 6 then σ (16 + 11 * r + 6) else if w = 7 then σ (16 + 11 * r + 7) else if w = 8 then σ (16 + 11 * r + 8) else if w = 9 then σ (16 + 11 * r + 3) / 100 else if w = 10 then σ (16 + 11 * r + 9) else if w = 11 then σ (16 + 11 * r + 10) + 1000 else -2
def ofS (σ : Sg) (a w : Int32) : Int32 := if rkS σ a (nof σ) < nof σ then tldS σ (rkS σ a (nof σ)) w else -1
def adrS (σ : Sg) (x : Int32) : Int32 := if 0 ≤ x ∧ x ≤ nI (nof σ) - 1 then σ (16 + 11 * x.toInt.toNat) else -1
def blockS (σ : Sg) (b w : Int32) : Int32 := if 0 ≤ b ∧ b ≤ 7 then (if w = 0 then σ (8 + b.toInt.toNat) else if w = 1 then lcS σ b (nof σ) else -2) else -1
def cntS (σ : Sg) (hn pl : Nat) (w : Int32) : Int32 := if w = 0 then σ 0 else if w = 1 then σ 6 else if w = 2 then σ 7 else if w = 3 then σ 1 else if w = 4 then σ 3 else if w = 5 then σ 4 else if w = 6 then σ 5 else if w = 7 then bwS σ 8 else if w = 8 then cbS σ (nof σ) 8 else if w = 9 then ssS σ (nof σ) + 10000 else if w = 10 then nI pl else if w = 11 then nI hn else -2
def stlS (σ : Sg) (r : Nat) : Int32 := ((if dueS σ r - σ (16 + 11 * r + 5) < 0 then -(dueS σ r - σ (16 + 11 * r + 5)) else dueS σ r - σ (16 + 11 * r + 5)) + 60 / σ (16 + 11 * r + 1) - 1) / (60 / σ (16 + 11 * r + 1))
def settS (σ : Sg) (a : Int32) : Int32 := if rkS σ a (nof σ) < nof σ then stlS σ (rkS σ a (nof σ)) else -1
def fstB (P : Nat → Bool) : Nat → Nat
  | 0 => 0
  | j + 1 => if fstB P j < j then fstB P j else if P j = true then j else j + 1
theorem fst_none {P : Nat → Bool} : ∀ j, (∀ r, r < j → P r = false) → fstB P j = j := by
  intro j
  induction j with
  | zero => exact fun _ => rfl
  | succ j ih =>
    intro h
    have h1 := ih (fun r hr => h r (by omega))
    unfold fstB
    rw [h1, if_neg (Nat.lt_irrefl _), if_neg (by rw [h j (by omega)]; decide)]
theorem fst_some {P : Nat → Bool} {p : Nat} (h0 : ∀ r, r < p → P r = false) (h1 : P p = true) : ∀ n, p < n → fstB P n = p := by
  intro n
  induction n with
  | zero => exact fun h => absurd h (by omega)
  | succ n ih =>
    intro h
    unfold fstB
    by_cases hp : p < n
    · rw [ih hp, if_pos hp]
    · have e : p = n := by omega
      subst e
      rw [fst_none p h0, if_neg (Nat.lt_irrefl _), if_pos h1]
def rchP (n h : Nat) (σ : Sg) (r : Nat) (b : Int32) (m : Nat) : Bool := decide ((itS n h σ m).1 (16 + 11 * r + 3) / 100 = b)
def mtP (n h : Nat) (σ : Sg) (r r2 : Nat) (m : Nat) : Bool := decide ((itS n h σ m).1 (16 + 11 * r + 3) / 100 = (itS n h σ m).1 (16 + 11 * r2 + 3) / 100)
def untS (P : Nat → Bool) : Int32 := if fstB P 1001 ≤ 1000 then nI (fstB P 1001) else -6
def reachS (σ : Sg) (a b : Int32) : Int32 := if rkS σ a (nof σ) < nof σ ∧ (0 ≤ b ∧ b ≤ 7) then untS (rchP (nof σ) (hof σ) σ (rkS σ a (nof σ)) b) else -1
def meetS (σ : Sg) (a b : Int32) : Int32 := if rkS σ a (nof σ) < nof σ ∧ rkS σ b (nof σ) < nof σ then (if a = b then -2 else untS (mtP (nof σ) (hof σ) σ (rkS σ a (nof σ)) (rkS σ b (nof σ)))) else -1
def stpP (c t : Int32) (s : Nat) : Bool := decide (¬ byC c (nI s) < t)
def stepS (σ : Sg) (a t : Int32) : Int32 := if rkS σ a (nof σ) < nof σ then (if 0 ≤ t ∧ t ≤ 280 then nI (fstB (stpP (σ (16 + 11 * rkS σ a (nof σ) + 2)) t) 28) else -2) else -1
def svU (sv : Nat → Int32) (q : Nat) : Nat → Int32 := fun i => if i = q then 1 else sv i
def slU (sl : Nat → Sg) (q : Nat) (σ : Sg) : Nat → Sg := fun i => if i = q then σ else sl i
theorem unt_at {P : Nat → Bool} {j : Nat} (h0 : ∀ i, i < j → P i = false) (h1 : P j = true) (hj : j ≤ 1000) : untS P = nI j := by
  unfold untS
  rw [fst_some h0 h1 1001 (by omega), if_pos hj]
theorem unt_no {P : Nat → Bool} (h0 : ∀ i, i < 1001 → P i = false) : untS P = -6 := by
  unfold untS
  rw [fst_none 1001 h0, if_neg (by omega)]
theorem told_eq {n h : Nat} {I : Ii} {pm : Pm} {k : Nat} {σ : Sg} (R : Rp n h I pm k σ) (V : Iv n h σ) {r : Nat} (hr : r < n) (w : Int32) : toldL I (8 * k + pm k r) w = tldS σ r w := by
  have L := V.2.2.2.2.1 r hr
  have e : ∀ f, f < 11 → I 7 (8 * k + pm k r) (fmS f) = σ (16 + 11 * r + f) := fun f hf => R.lc hr hf
  have e1 : I 7 (8 * k + pm k r) 1 = σ (16 + 11 * r + 1) := e 1 (by decide)
  have e2 : I 7 (8 * k + pm k r) 2 = σ (16 + 11 * r + 2) := e 2 (by decide)
  have e3 : I 7 (8 * k + pm k r) 3 = σ (16 + 11 * r + 3) := e 3 (by decide)
  have e4 : I 7 (8 * k + pm k r) 4 = σ (16 + 11 * r + 4) := e 4 (by decide)
  have e5 : I 7 (8 * k + pm k r) 5 = σ (16 + 11 * r + 5) := e 5 (by decide)
  have e6 : I 7 (8 * k + pm k r) 7 = σ (16 + 11 * r + 6) := e 6 (by decide)
  have e7 : I 7 (8 * k + pm k r) 8 = σ (16 + 11 * r + 7) := e 7 (by decide)
  have e8 : I 7 (8 * k + pm k r) 9 = σ (16 + 11 * r + 8) := e 8 (by decide)
  have e9 : I 7 (8 * k + pm k r) 10 = σ (16 + 11 * r + 9) := e 9 (by decide)
  have e10 : I 7 (8 * k + pm k r) 6 = σ (16 + 11 * r + 10) := e 10 (by decide)
  have eg : lcGoal I (8 * k + pm k r) = dueS σ r := by
    unfold lcGoal dueS
    rw [e2, e6, e7, goal_eq L.2.1.1 L.2.1.2]
  unfold toldL tldS
  rw [e1, e2, e3, e4, e5, e6, e7, e8, e9, e10, eg]
theorem ttg_eq {n h : Nat} {I : Ii} {pm : Pm} {k : Nat} {σ : Sg} (R : Rp n h I pm k σ) (V : Iv n h σ) {r : Nat} (hr : r < n) : lcTtg I (8 * k + pm k r) = stlS σ r := by
  have L := V.2.2.2.2.1 r hr
  have e : ∀ f, f < 11 → I 7 (8 * k + pm k r) (fmS f) = σ (16 + 11 * r + f) := fun f hf => R.lc hr hf
  have e1 : I 7 (8 * k + pm k r) 1 = σ (16 + 11 * r + 1) := e 1 (by decide)
  have e2 : I 7 (8 * k + pm k r) 2 = σ (16 + 11 * r + 2) := e 2 (by decide)
  have e5 : I 7 (8 * k + pm k r) 5 = σ (16 + 11 * r + 5) := e 5 (by decide)
  have e6 : I 7 (8 * k + pm k r) 7 = σ (16 + 11 * r + 6) := e 6 (by decide)
  have e7 : I 7 (8 * k + pm k r) 8 = σ (16 + 11 * r + 7) := e 7 (by decide)
  have eg : lcGoal I (8 * k + pm k r) = dueS σ r := by
    unfold lcGoal dueS
    rw [e2, e6, e7, goal_eq L.2.1.1 L.2.1.2]
  have e0 : (0 : Int32).toInt = 0 := rfl
  have hg := gain_bd L.1.1 L.1.2
  have hgn : gainF (σ (16 + 11 * r + 1)) = 60 / σ (16 + 11 * r + 1) := by
    unfold gainF
    rw [if_neg (fun q => by have := i_le.mp q; have := L.1; omega)]
  unfold lcTtg stlS
  rw [e1, e5, eg, hgn, if_neg (fun q => by have := i_le.mp q; omega)]
  unfold abF
  by_cases c : dueS σ r - σ (16 + 11 * r + 5) < 0
  · rw [if_neg (Int32.not_le.mpr c), if_pos c, Int32.zero_sub]
  · rw [if_pos (Int32.not_lt.mp c), if_neg c]
theorem CR.fr1 {I I' : Ii} {pm pm' : Pm} {σ : Sg} {hn : Nat} {hist : Nat → Sg} {sv : Nat → Int32} {sl : Nat → Sg} {pl : Nat} {pad : Sg} (C : CR I pm σ hn hist sv sl pl pad) (F : Fr 1 I pm I' pm') (hw : Pw pm' 1) : CR I' pm' σ hn hist sv sl pl pad := by
  obtain ⟨R0, ⟨a, ha, ea, hh⟩, en, h6, CC⟩ := C
  have o : ∀ K i c, 7 < K → I' K i c = I K i c := fun K i c h => F.1 K i c (fun q => by have := inL_le q; omega)
  exact ⟨R0.keep F (by decide), ⟨a, ha, by rw [o _ _ _ (by decide)]; exact ea, fun i hi => (hh i hi).keep F (by omega)⟩, by rw [o _ _ _ (by decide)]; exact en, h6, CC.keep F (by decide) hw⟩
theorem cvs_by {c st : Int32} {n h r : Nat} {σ : Sg} (V : Iv n h σ) (hr : r < n) (hc : c = σ (16 + 11 * r + 2)) : cvS c st = byC c st := by
  have L := V.2.2.2.2.1 r hr
  rw [hc]
  exact cvS_eq L.2.1.1 L.2.1.2
set_option maxHeartbeats 4000000 in
set_option maxRecDepth 100000 in
theorem c_X5_of {l : Launch} {G : Gm} (hj : Aj G) {I : Ii} {pm : Pm} {a w : Int32} {σ : Sg} {hn : Nat} {hist : Nat → Sg} {sv : Nat → Int32} {sl : Nat → Sg} {pl : Nat} {pad : Sg} (C : CR I pm σ hn hist sv sl pl pad) : CI l G yX5_of (wz yX5_of cX5_of 4 (some .int)) (rmL 3) [.ref (G.2.2 8 0), .int a, .int w] I pm (fun r u => r = ofS σ a w ∧ u = (I, pm)) := by
  obtain ⟨n, h, R, V⟩ := id C.1
  have hn8 := V.2.1
  have hne := V.nofe
  have hhe := V.hofe
  refine CI.walk hj (by decide +kernel) (by show _ ≤ 4; exact Nat.le_of_ble_eq_true rfl) ?_
  intro p e s m args below meth c F hr hlk
  refine g_aload_n F 0 dX5_of_0 rfl rfl ?_
  refine gf_8_0 F (by decide) mFL_X5_12 dX5_of_1 ?_
  refine g_iload_n F 1 dX5_of_4 rfl rfl ?_
  refine g_callQv (na := 1) F 0 _ (c_X1_locoWith hj (by decide) R) (by decide) rfl rfl lk_X5_79 rfl rfl (by decide +kernel) ⟨rfl, rfl, Nat.le_of_ble_eq_true rfl, Nat.le_of_ble_eq_true rfl, Nat.le_of_ble_eq_true rfl, Nat.le_of_ble_eq_true rfl, Nat.le_of_ble_eq_true rfl⟩ dX5_of_5 (fun r_5 u_5 h_5 => ?_)
  obtain ⟨hr_5, hu_5⟩ := h_5
  subst hu_5
  try dsimp only
  by_cases hlt_5 : ¬ rkS σ a n < n
  · obtain rfl : r_5 = none := hr_5.trans (if_neg hlt_5)
    try dsimp only [va_rf]
    refine g_astore_nN (L' := [(3, _), (0, _), (1, _), (2, _)]) F dX5_of_8 rfl (by decide) rfl ?_
    refine g_aload_nN F 0 dX5_of_9 rfl rfl ?_
    refine g_ifnonnullN F dX5_of_10 ?_
    refine g_iconst (v := -1) F dX5_of_13 (by decide) ?_
    refine g_goto F 22 dX5_of_14 (by decide) ?_
    refine g_iret F hr hlk rfl dX5_of_22 ?_
    exact ⟨by unfold ofS; rw [hne, if_neg hlt_5], rfl⟩
  · have hlr_5 := Decidable.not_not.mp hlt_5
    obtain rfl : r_5 = some (G.2.2 7 (8 * 0 + pm 0 (rkS σ a n))) := hr_5.trans (if_pos hlr_5)
    try dsimp only [va_rf]
    have hi7_5 : 8 * 0 + pm 0 (rkS σ a n) < 88 := inL7 (by decide) (R.p8 (by omega))
    refine g_astore_n (L' := [(3, _), (0, _), (1, _), (2, _)]) F dX5_of_8 rfl (by decide) rfl ?_
    refine g_aload_n F 0 dX5_of_9 rfl rfl ?_
    refine g_ifnonnull F 17 dX5_of_10 (by decide) ?_
    refine g_aload_n F 0 dX5_of_17 rfl rfl ?_
    refine g_iload_n F 3 dX5_of_18 rfl rfl ?_
    refine g_callIv (na := 1) F 7 _ (c_X2_told hj hi7_5) hi7_5 rfl rfl lk_X5_83 rfl rfl (by decide +kernel) ⟨rfl, rfl, Nat.le_of_ble_eq_true rfl, Nat.le_of_ble_eq_true rfl, Nat.le_of_ble_eq_true rfl, Nat.le_of_ble_eq_true rfl, Nat.le_of_ble_eq_true rfl⟩ dX5_of_19 (fun r_19 u_19 h_19 => ?_)
    obtain ⟨rfl, rfl⟩ := h_19
    try dsimp only
    refine g_iret F hr hlk rfl dX5_of_22 ?_
    exact ⟨by unfold ofS; rw [hne, if_pos hlr_5]; exact told_eq R V hlr_5 w, rfl⟩
set_option maxHeartbeats 4000000 in
set_option maxRecDepth 100000 in
theorem c_X5_settles {l : Launch} {G : Gm} (hj : Aj G) {I : Ii} {pm : Pm} {a : Int32} {σ : Sg} {hn : Nat} {hist : Nat → Sg} {sv : Nat → Int32} {sl : Nat → Sg} {pl : Nat} {pad : Sg} (C : CR I pm σ hn hist sv sl pl pad) : CI l G yX5_settles (wz yX5_settles cX5_settles 3 (some .int)) (rmL 3) [.ref (G.2.2 8 0), .int a] I pm (fun r u => r = settS σ a ∧ u = (I, pm)) := by
  obtain ⟨n, h, R, V⟩ := id C.1
  have hn8 := V.2.1
  have hne := V.nofe
  have hhe := V.hofe
  refine CI.walk hj (by decide +kernel) (by show _ ≤ 3; exact Nat.le_of_ble_eq_true rfl) ?_
  intro p e s m args below meth c F hr hlk
  refine g_aload_n F 0 dX5_settles_0 rfl rfl ?_
  refine gf_8_0 F (by decide) mFL_X5_12 dX5_settles_1 ?_
  refine g_iload_n F 1 dX5_settles_4 rfl rfl ?_
  refine g_callQv (na := 1) F 0 _ (c_X1_locoWith hj (by decide) R) (by decide) rfl rfl lk_X5_79 rfl rfl (by decide +kernel) ⟨rfl, rfl, Nat.le_of_ble_eq_true rfl, Nat.le_of_ble_eq_true rfl, Nat.le_of_ble_eq_true rfl, Nat.le_of_ble_eq_true rfl, Nat.le_of_ble_eq_true rfl⟩ dX5_settles_5 (fun r_5 u_5 h_5 => ?_)
  obtain ⟨hr_5, hu_5⟩ := h_5
  subst hu_5
  try dsimp only
  by_cases hlt_5 : ¬ rkS σ a n < n
  · obtain rfl : r_5 = none := hr_5.trans (if_neg hlt_5)
    try dsimp only [va_rf]
    refine g_astore_nN (L' := [(2, _), (0, _), (1, _)]) F dX5_settles_8 rfl (by decide) rfl ?_
    refine g_aload_nN F 0 dX5_settles_9 rfl rfl ?_
    refine g_ifnonnullN F dX5_settles_10 ?_
    refine g_iconst (v := -1) F dX5_settles_13 (by decide) ?_
    refine g_goto F 21 dX5_settles_14 (by decide) ?_
    refine g_iret F hr hlk rfl dX5_settles_21 ?_
    exact ⟨by unfold settS; rw [hne, if_neg hlt_5], rfl⟩
  · have hlr_5 := Decidable.not_not.mp hlt_5
    obtain rfl : r_5 = some (G.2.2 7 (8 * 0 + pm 0 (rkS σ a n))) := hr_5.trans (if_pos hlr_5)
    try dsimp only [va_rf]
    have hi7_5 : 8 * 0 + pm 0 (rkS σ a n) < 88 := inL7 (by decide) (R.p8 (by omega))
    refine g_astore_n (L' := [(2, _), (0, _), (1, _)]) F dX5_settles_8 rfl (by decide) rfl ?_
    refine g_aload_n F 0 dX5_settles_9 rfl rfl ?_
    refine g_ifnonnull F 17 dX5_settles_10 (by decide) ?_
    refine g_aload_n F 0 dX5_settles_17 rfl rfl ?_
    refine g_callIv (na := 0) F 7 _ (c_X2_ticksToGoal hj hi7_5) hi7_5 rfl rfl lk_X5_152 rfl rfl (by decide +kernel) ⟨rfl, rfl, Nat.le_of_ble_eq_true rfl, Nat.le_of_ble_eq_true rfl, Nat.le_of_ble_eq_true rfl, Nat.le_of_ble_eq_true rfl, Nat.le_of_ble_eq_true rfl⟩ dX5_settles_18 (fun r_18 u_18 h_18 => ?_)
    obtain ⟨rfl, rfl⟩ := h_18
    try dsimp only
    refine g_iret F hr hlk rfl dX5_settles_21 ?_
    exact ⟨by unfold settS; rw [hne, if_pos hlr_5]; exact ttg_eq R V hlr_5, rfl⟩
set_option maxHeartbeats 4000000 in
set_option maxRecDepth 100000 in
theorem c_X5_address {l : Launch} {G : Gm} (hj : Aj G) {I : Ii} {pm : Pm} {x : Int32} {σ : Sg} {hn : Nat} {hist : Nat → Sg} {sv : Nat → Int32} {sl : Nat → Sg} {pl : Nat} {pad : Sg} (C : CR I pm σ hn hist sv sl pl pad) : CI l G yX5_address (wz yX5_address cX5_address 3 (some .int)) (rmL 2) [.ref (G.2.2 8 0), .int x] I pm (fun r u => r = adrS σ x ∧ u = (I, pm)) := by
  obtain ⟨n, h, R, V⟩ := id C.1
  have hn8 := V.2.1
  have hne := V.nofe
  have hhe := V.hofe
  refine CI.walk hj (by decide +kernel) (by show _ ≤ 3; exact Nat.le_of_ble_eq_true rfl) ?_
  intro p e s m args below meth c F hr hlk
  refine g_aload_n F 0 dX5_address_0 rfl rfl ?_
  refine gf_8_0 F (by decide) mFL_X5_12 dX5_address_1 ?_
  refine g_iload_n F 1 dX5_address_4 rfl rfl ?_
  refine g_callQv (na := 1) F 0 _ (c_X1_locoAt hj (by decide) R) (by decide) rfl rfl lk_X5_88 rfl rfl (by decide +kernel) ⟨rfl, rfl, Nat.le_of_ble_eq_true rfl, Nat.le_of_ble_eq_true rfl, Nat.le_of_ble_eq_true rfl, Nat.le_of_ble_eq_true rfl, Nat.le_of_ble_eq_true rfl⟩ dX5_address_5 (fun r_5 u_5 h_5 => ?_)
  rcases h_5 with ⟨hq, rfl, rfl⟩ | ⟨hq, rfl, rfl⟩
  · try dsimp only [va_rf]
    refine g_astore_nN (L' := [(2, _), (0, _), (1, _)]) F dX5_address_8 rfl (by decide) rfl ?_
    refine g_aload_nN F 0 dX5_address_9 rfl rfl ?_
    refine g_ifnonnullN F dX5_address_10 ?_
    refine g_iconst (v := -1) F dX5_address_13 (by decide) ?_
    refine g_goto F 21 dX5_address_14 (by decide) ?_
    refine g_iret F hr hlk rfl dX5_address_21 ?_
    exact ⟨by unfold adrS; rw [hne, if_neg hq], rfl⟩
  · try dsimp only [va_rf]
    obtain ⟨q, hqn, eq⟩ := (lq_n hn8).mp hq
    have hxq : x.toInt.toNat = q := by rw [eq, nI_toInt (by omega)]; rfl
    have hi7 : 8 * 0 + pm 0 x.toInt.toNat < 88 := inL7 (by decide) (R.p8 (by omega))
    refine g_astore_n (L' := [(2, _), (0, _), (1, _)]) F dX5_address_8 rfl (by decide) rfl ?_
    refine g_aload_n F 0 dX5_address_9 rfl rfl ?_
    refine g_ifnonnull F 17 dX5_address_10 (by decide) ?_
    refine g_aload_n F 0 dX5_address_17 rfl rfl ?_
    refine gf_7_0 F hi7 mFL_X5_91 dX5_address_18 ?_
    refine g_iret F hr hlk rfl dX5_address_21 ?_
    exact ⟨by unfold adrS; rw [hne, if_pos hq]; exact R.lc (f := 0) (by omega) (by decide), rfl⟩
set_option maxHeartbeats 4000000 in
set_option maxRecDepth 100000 in
theorem c_X5_waiting {l : Launch} {G : Gm} (hj : Aj G) {I : Ii} {pm : Pm} {x w : Int32} {σ : Sg} {hn : Nat} {hist : Nat → Sg} {sv : Nat → Int32} {sl : Nat → Sg} {pl : Nat} {pad : Sg} (C : CR I pm σ hn hist sv sl pl pad) : CI l G yX5_waiting (wz yX5_waiting cX5_waiting 3 (some .int)) (rmL 2) [.ref (G.2.2 8 0), .int x, .int w] I pm (fun r u => r = waitS (hof σ) σ x w ∧ u = (I, pm)) := by
  obtain ⟨n, h, R, V⟩ := id C.1
  have hn8 := V.2.1
  have hne := V.nofe
  have hhe := V.hofe
  refine CI.walk hj (by decide +kernel) (by show _ ≤ 3; exact Nat.le_of_ble_eq_true rfl) ?_
  intro p e s m args below meth c F hr hlk
  refine g_aload_n F 0 dX5_waiting_0 rfl rfl ?_
  refine gf_8_0 F (by decide) mFL_X5_12 dX5_waiting_1 ?_
  refine gf_0_1 F (by decide) mFL_X5_59 dX5_waiting_4 ?_
  refine g_iload_n F 1 dX5_waiting_7 rfl rfl ?_
  refine g_iload_n F 2 dX5_waiting_8 rfl rfl ?_
  refine g_callIv (na := 2) F 2 _ (c_X4_told hj (by decide) R) (by decide) rfl rfl lk_X5_95 rfl rfl (by decide +kernel) ⟨rfl, rfl, Nat.le_of_ble_eq_true rfl, Nat.le_of_ble_eq_true rfl, Nat.le_of_ble_eq_true rfl, Nat.le_of_ble_eq_true rfl, Nat.le_of_ble_eq_true rfl⟩ dX5_waiting_9 (fun r_9 u_9 h_9 => ?_)
  obtain ⟨rfl, rfl⟩ := h_9
  try dsimp only
  refine g_iret F hr hlk rfl dX5_waiting_12 ?_
  exact ⟨by rw [hhe], rfl⟩
set_option maxHeartbeats 4000000 in
set_option maxRecDepth 100000 in
theorem c_X5_block {l : Launch} {G : Gm} (hj : Aj G) {I : Ii} {pm : Pm} {b w : Int32} {σ : Sg} {hn : Nat} {hist : Nat → Sg} {sv : Nat → Int32} {sl : Nat → Sg} {pl : Nat} {pad : Sg} (C : CR I pm σ hn hist sv sl pl pad) : CI l G yX5_block (wz yX5_block cX5_block 3 (some .int)) (rmL 2) [.ref (G.2.2 8 0), .int b, .int w] I pm (fun r u => r = blockS σ b w ∧ u = (I, pm)) := by
  obtain ⟨n, h, R, V⟩ := id C.1
  have hn8 := V.2.1
  have hne := V.nofe
  have hhe := V.hofe
  refine CI.walk hj (by decide +kernel) (by show _ ≤ 3; exact Nat.le_of_ble_eq_true rfl) ?_
  intro p e s m args below meth c F hr hlk
  refine g_iload_n F 1 dX5_block_0 rfl rfl ?_
  refine g_callIs (na := 1) F (c_X5_isBlock hj) lk_X5_97 rfl rfl (by decide +kernel) ⟨rfl, rfl, Nat.le_of_ble_eq_true rfl, Nat.le_of_ble_eq_true rfl, Nat.le_of_ble_eq_true rfl, Nat.le_of_ble_eq_true rfl, Nat.le_of_ble_eq_true rfl⟩ dX5_block_1 (fun r_1 u_1 h_1 => ?_)
  obtain ⟨rfl, rfl⟩ := h_1
  try dsimp only
  refine g_if_ne F 9 dX5_block_4 (by decide) (fun c_4 => ?_) (fun c_4 => ?_)
  · have P1 := bz_n.mp c_4
    have ex := rng (M := 7) (m := 7) rfl P1.1 P1.2
    refine g_iload_n F 2 dX5_block_9 rfl rfl ?_
    by_cases hs_10_0 : w = 0
    · refine g_lookup F 36 dX5_block_10 (by decide) (by rw [hs_10_0] <;> rfl) (by decide) ?_
      refine g_aload_n F 0 dX5_block_36 rfl rfl ?_
      refine gf_8_0 F (by decide) mFL_X5_12 dX5_block_37 ?_
      refine gf_0_2 F (by decide) mFL_X5_101 dX5_block_40 ?_
      refine g_iload_n F 1 dX5_block_43 rfl rfl ?_
      refine ga_6 (j := b.toInt.toNat) F (by decide) ex.2 (by omega) dX5_block_44 ?_
      refine g_iret F hr hlk rfl dX5_block_45 ?_
      exact ⟨by unfold blockS; rw [if_pos P1, if_pos hs_10_0]; exact R.sh (by omega), rfl⟩
    by_cases hs_10_1 : w = 1
    · refine g_lookup F 46 dX5_block_10 (by decide) (by rw [hs_10_1] <;> rfl) (by decide) ?_
      refine g_aload_n F 0 dX5_block_46 rfl rfl ?_
      refine gf_8_0 F (by decide) mFL_X5_12 dX5_block_47 ?_
      refine g_iload_n F 1 dX5_block_50 rfl rfl ?_
      refine g_callIv (na := 1) F 0 _ (c_X1_locosIn hj (by decide) R) (by decide) rfl rfl lk_X5_105 rfl rfl (by decide +kernel) ⟨rfl, rfl, Nat.le_of_ble_eq_true rfl, Nat.le_of_ble_eq_true rfl, Nat.le_of_ble_eq_true rfl, Nat.le_of_ble_eq_true rfl, Nat.le_of_ble_eq_true rfl⟩ dX5_block_51 (fun r_51 u_51 h_51 => ?_)
      obtain ⟨rfl, rfl⟩ := h_51
      try dsimp only
      refine g_iret F hr hlk rfl dX5_block_54 ?_
      exact ⟨by unfold blockS; rw [if_pos P1, if_neg hs_10_0, if_pos hs_10_1, hne], rfl⟩
    refine g_lookup (off := 45) F 55 dX5_block_10 (by decide) ((lv_osw hs_10_0 rfl).trans <| (lv_osw hs_10_1 rfl).trans <| rfl) (by decide) ?_
    refine g_bipush (v := -2) F dX5_block_55 (by decide) ?_
    refine g_iret F hr hlk rfl dX5_block_57 ?_
    exact ⟨by unfold blockS; rw [if_pos P1, if_neg hs_10_0, if_neg hs_10_1], rfl⟩
  · have N1 := bz_0.mp c_4
    refine g_iconst (v := -1) F dX5_block_7 (by decide) ?_
    refine g_iret F hr hlk rfl dX5_block_8 ?_
    exact ⟨by unfold blockS; rw [if_neg N1], rfl⟩
set_option maxHeartbeats 4000000 in
set_option maxRecDepth 100000 in
theorem c_X5_count {l : Launch} {G : Gm} (hj : Aj G) {I : Ii} {pm : Pm} {w : Int32} {σ : Sg} {hn : Nat} {hist : Nat → Sg} {sv : Nat → Int32} {sl : Nat → Sg} {pl : Nat} {pad : Sg} (C : CR I pm σ hn hist sv sl pl pad) : CI l G yX5_count (wz yX5_count cX5_count 2 (some .int)) (rmL 3) [.ref (G.2.2 8 0), .int w] I pm (fun r u => r = cntS σ hn pl w ∧ u = (I, pm)) := by
  obtain ⟨n, h, R, V⟩ := id C.1
  have hn8 := V.2.1
  have hne := V.nofe
  have hhe := V.hofe
  refine CI.walk hj (by decide +kernel) (by show _ ≤ 2; exact Nat.le_of_ble_eq_true rfl) ?_
  intro p e s m args below meth c F hr hlk
  refine g_iload_n F 1 dX5_count_0 rfl rfl ?_
  by_cases hs_1 : 0 ≤ w.toInt ∧ w.toInt ≤ 11
  · obtain ⟨js_1, hj_1, ej_1⟩ := sw_in hs_1.1 hs_1.2 (by decide)
    rcases (show js_1 = 0 ∨ js_1 = 1 ∨ js_1 = 2 ∨ js_1 = 3 ∨ js_1 = 4 ∨ js_1 = 5 ∨ js_1 = 6 ∨ js_1 = 7 ∨ js_1 = 8 ∨ js_1 = 9 ∨ js_1 = 10 ∨ js_1 = 11 by omega) with hq | hq | hq | hq | hq | hq | hq | hq | hq | hq | hq | hq
    · have hs_1_0 : w = 0 := by rw [ej_1, hq] <;> rfl
      refine g_tableIn (off := 63) F 64 dX5_count_1 (by rw [hs_1_0]; decide) (by rw [hs_1_0]; decide) (by rw [hs_1_0]; rfl) (by decide) ?_
      refine g_aload_n F 0 dX5_count_64 rfl rfl ?_
      refine gf_8_0 F (by decide) mFL_X5_12 dX5_count_65 ?_
      refine gf_0_4 F (by decide) mFL_X5_108 dX5_count_68 ?_
      refine g_iret F hr hlk rfl dX5_count_71 ?_
      refine ⟨?_, rfl⟩
      subst hs_1_0
      unfold cntS
      rw [if_pos rfl]
      first
      | done
      | exact R.1.2.1
    · have hs_1_1 : w = 1 := by rw [ej_1, hq] <;> rfl
      refine g_tableIn (off := 71) F 72 dX5_count_1 (by rw [hs_1_1]; decide) (by rw [hs_1_1]; decide) (by rw [hs_1_1]; rfl) (by decide) ?_
      refine g_aload_n F 0 dX5_count_72 rfl rfl ?_
      refine gf_8_0 F (by decide) mFL_X5_12 dX5_count_73 ?_
      refine gf_0_3 F (by decide) mFL_X5_111 dX5_count_76 ?_
      refine g_iret F hr hlk rfl dX5_count_79 ?_
      refine ⟨?_, rfl⟩
      subst hs_1_1
      unfold cntS
      rw [if_neg (by decide)]
      rw [if_pos rfl]
      first
      | done
      | exact R.1.1
    · have hs_1_2 : w = 2 := by rw [ej_1, hq] <;> rfl
      refine g_tableIn (off := 79) F 80 dX5_count_1 (by rw [hs_1_2]; decide) (by rw [hs_1_2]; decide) (by rw [hs_1_2]; rfl) (by decide) ?_
      refine g_aload_n F 0 dX5_count_80 rfl rfl ?_
      refine gf_8_0 F (by decide) mFL_X5_12 dX5_count_81 ?_
      refine gf_0_1 F (by decide) mFL_X5_59 dX5_count_84 ?_
      refine gf_2_3 F (by decide) mFL_X5_114 dX5_count_87 ?_
      refine g_iret F hr hlk rfl dX5_count_90 ?_
      refine ⟨?_, rfl⟩
      subst hs_1_2
      unfold cntS
      rw [if_neg (by decide)]
      rw [if_neg (by decide)]
      rw [if_pos rfl]
      first
      | done
      | exact R.1.2.2.2.2.2.2.2
    · have hs_1_3 : w = 3 := by rw [ej_1, hq] <;> rfl
      refine g_tableIn (off := 90) F 91 dX5_count_1 (by rw [hs_1_3]; decide) (by rw [hs_1_3]; decide) (by rw [hs_1_3]; rfl) (by decide) ?_
      refine g_aload_n F 0 dX5_count_91 rfl rfl ?_
      refine gf_8_0 F (by decide) mFL_X5_12 dX5_count_92 ?_
      refine gf_0_5 F (by decide) mFL_X5_117 dX5_count_95 ?_
      refine g_iret F hr hlk rfl dX5_count_98 ?_
      refine ⟨?_, rfl⟩
      subst hs_1_3
      unfold cntS
      rw [if_neg (by decide)]
      rw [if_neg (by decide)]
      rw [if_neg (by decide)]
      rw [if_pos rfl]
      first
      | done
      | exact R.1.2.2.1
    · have hs_1_4 : w = 4 := by rw [ej_1, hq] <;> rfl
      refine g_tableIn (off := 98) F 99 dX5_count_1 (by rw [hs_1_4]; decide) (by rw [hs_1_4]; decide) (by rw [hs_1_4]; rfl) (by decide) ?_
      refine g_aload_n F 0 dX5_count_99 rfl rfl ?_
      refine gf_8_0 F (by decide) mFL_X5_12 dX5_count_100 ?_
      refine gf_0_7 F (by decide) mFL_X5_120 dX5_count_103 ?_
      refine g_iret F hr hlk rfl dX5_count_106 ?_
      refine ⟨?_, rfl⟩
      subst hs_1_4
      unfold cntS
      rw [if_neg (by decide)]
      rw [if_neg (by decide)]
      rw [if_neg (by decide)]
      rw [if_neg (by decide)]
      rw [if_pos rfl]
      first
      | done
      | exact R.1.2.2.2.2.1
    · have hs_1_5 : w = 5 := by rw [ej_1, hq] <;> rfl
      refine g_tableIn (off := 106) F 107 dX5_count_1 (by rw [hs_1_5]; decide) (by rw [hs_1_5]; decide) (by rw [hs_1_5]; rfl) (by decide) ?_
      refine g_aload_n F 0 dX5_count_107 rfl rfl ?_
      refine gf_8_0 F (by decide) mFL_X5_12 dX5_count_108 ?_
      refine gf_0_8 F (by decide) mFL_X5_123 dX5_count_111 ?_
      refine g_iret F hr hlk rfl dX5_count_114 ?_
      refine ⟨?_, rfl⟩
      subst hs_1_5
      unfold cntS
      rw [if_neg (by decide)]
      rw [if_neg (by decide)]
      rw [if_neg (by decide)]
      rw [if_neg (by decide)]
      rw [if_neg (by decide)]
      rw [if_pos rfl]
      first
      | done
      | exact R.1.2.2.2.2.2.1
    · have hs_1_6 : w = 6 := by rw [ej_1, hq] <;> rfl
      refine g_tableIn (off := 114) F 115 dX5_count_1 (by rw [hs_1_6]; decide) (by rw [hs_1_6]; decide) (by rw [hs_1_6]; rfl) (by decide) ?_
      refine g_aload_n F 0 dX5_count_115 rfl rfl ?_
      refine gf_8_0 F (by decide) mFL_X5_12 dX5_count_116 ?_
      refine gf_0_9 F (by decide) mFL_X5_126 dX5_count_119 ?_
      refine g_iret F hr hlk rfl dX5_count_122 ?_
      refine ⟨?_, rfl⟩
      subst hs_1_6
      unfold cntS
      rw [if_neg (by decide)]
      rw [if_neg (by decide)]
      rw [if_neg (by decide)]
      rw [if_neg (by decide)]
      rw [if_neg (by decide)]
      rw [if_neg (by decide)]
      rw [if_pos rfl]
      first
      | done
      | exact R.1.2.2.2.2.2.2.1
    · have hs_1_7 : w = 7 := by rw [ej_1, hq] <;> rfl
      refine g_tableIn (off := 122) F 123 dX5_count_1 (by rw [hs_1_7]; decide) (by rw [hs_1_7]; decide) (by rw [hs_1_7]; rfl) (by decide) ?_
      refine g_aload_n F 0 dX5_count_123 rfl rfl ?_
      refine gf_8_0 F (by decide) mFL_X5_12 dX5_count_124 ?_
      refine g_callIv (na := 0) F 0 _ (c_X1_blocksWithShort hj (by decide) R) (by decide) rfl rfl lk_X5_129 rfl rfl (by decide +kernel) ⟨rfl, rfl, Nat.le_of_ble_eq_true rfl, Nat.le_of_ble_eq_true rfl, Nat.le_of_ble_eq_true rfl, Nat.le_of_ble_eq_true rfl, Nat.le_of_ble_eq_true rfl⟩ dX5_count_127 (fun r_127 u_127 h_127 => ?_)
      obtain ⟨rfl, rfl⟩ := h_127
      try dsimp only
      refine g_iret F hr hlk rfl dX5_count_130 ?_
      refine ⟨?_, rfl⟩
      subst hs_1_7
      unfold cntS
      rw [if_neg (by decide)]
      rw [if_neg (by decide)]
      rw [if_neg (by decide)]
      rw [if_neg (by decide)]
      rw [if_neg (by decide)]
      rw [if_neg (by decide)]
      rw [if_neg (by decide)]
      rw [if_pos rfl]
      first
      | done
      | exact rfl
    · have hs_1_8 : w = 8 := by rw [ej_1, hq] <;> rfl
      refine g_tableIn (off := 130) F 131 dX5_count_1 (by rw [hs_1_8]; decide) (by rw [hs_1_8]; decide) (by rw [hs_1_8]; rfl) (by decide) ?_
      refine g_aload_n F 0 dX5_count_131 rfl rfl ?_
      refine gf_8_0 F (by decide) mFL_X5_12 dX5_count_132 ?_
      refine g_callIv (na := 0) F 0 _ (c_X1_crowdedBlocks hj (by decide) R) (by decide) rfl rfl lk_X5_133 rfl rfl (by decide +kernel) ⟨rfl, rfl, Nat.le_of_ble_eq_true rfl, Nat.le_of_ble_eq_true rfl, Nat.le_of_ble_eq_true rfl, Nat.le_of_ble_eq_true rfl, Nat.le_of_ble_eq_true rfl⟩ dX5_count_135 (fun r_135 u_135 h_135 => ?_)
      obtain ⟨rfl, rfl⟩ := h_135
      try dsimp only
      refine g_iret F hr hlk rfl dX5_count_138 ?_
      refine ⟨?_, rfl⟩
      subst hs_1_8
      unfold cntS
      rw [if_neg (by decide)]
      rw [if_neg (by decide)]
      rw [if_neg (by decide)]
      rw [if_neg (by decide)]
      rw [if_neg (by decide)]
      rw [if_neg (by decide)]
      rw [if_neg (by decide)]
      rw [if_neg (by decide)]
      rw [if_pos rfl]
      first
      | done
      | exact (by rw [hne])
    · have hs_1_9 : w = 9 := by rw [ej_1, hq] <;> rfl
      refine g_tableIn (off := 138) F 139 dX5_count_1 (by rw [hs_1_9]; decide) (by rw [hs_1_9]; decide) (by rw [hs_1_9]; rfl) (by decide) ?_
      refine g_aload_n F 0 dX5_count_139 rfl rfl ?_
      refine gf_8_0 F (by decide) mFL_X5_12 dX5_count_140 ?_
      refine g_callIv (na := 0) F 0 _ (c_X1_speedSum hj (by decide) R) (by decide) rfl rfl lk_X5_136 rfl rfl (by decide +kernel) ⟨rfl, rfl, Nat.le_of_ble_eq_true rfl, Nat.le_of_ble_eq_true rfl, Nat.le_of_ble_eq_true rfl, Nat.le_of_ble_eq_true rfl, Nat.le_of_ble_eq_true rfl⟩ dX5_count_143 (fun r_143 u_143 h_143 => ?_)
      obtain ⟨rfl, rfl⟩ := h_143
      try dsimp only
      refine g_sipush (v := 10000) F dX5_count_146 (by decide) ?_
      refine g_iadd F dX5_count_149 ?_
      refine g_iret F hr hlk rfl dX5_count_150 ?_
      refine ⟨?_, rfl⟩
      subst hs_1_9
      unfold cntS
      rw [if_neg (by decide)]
      rw [if_neg (by decide)]
      rw [if_neg (by decide)]
      rw [if_neg (by decide)]
      rw [if_neg (by decide)]
      rw [if_neg (by decide)]
      rw [if_neg (by decide)]
      rw [if_neg (by decide)]
      rw [if_neg (by decide)]
      rw [if_pos rfl]
      first
      | done
      | exact (by rw [hne])
    · have hs_1_10 : w = 10 := by rw [ej_1, hq] <;> rfl
      refine g_tableIn (off := 150) F 151 dX5_count_1 (by rw [hs_1_10]; decide) (by rw [hs_1_10]; decide) (by rw [hs_1_10]; rfl) (by decide) ?_
      refine g_aload_n F 0 dX5_count_151 rfl rfl ?_
      refine gf_8_5 F (by decide) mFL_X5_37 dX5_count_152 ?_
      refine gf_13_1 F (by decide) mFL_X5_139 dX5_count_155 ?_
      refine g_iret F hr hlk rfl dX5_count_158 ?_
      refine ⟨?_, rfl⟩
      subst hs_1_10
      unfold cntS
      rw [if_neg (by decide)]
      rw [if_neg (by decide)]
      rw [if_neg (by decide)]
      rw [if_neg (by decide)]
      rw [if_neg (by decide)]
      rw [if_neg (by decide)]
      rw [if_neg (by decide)]
      rw [if_neg (by decide)]
      rw [if_neg (by decide)]
      rw [if_neg (by decide)]
      rw [if_pos rfl]
      first
      | done
      | exact C.2.2.2.2.2.1
    · have hs_1_11 : w = 11 := by rw [ej_1, hq] <;> rfl
      refine g_tableIn (off := 158) F 159 dX5_count_1 (by rw [hs_1_11]; decide) (by rw [hs_1_11]; decide) (by rw [hs_1_11]; rfl) (by decide) ?_
      refine g_aload_n F 0 dX5_count_159 rfl rfl ?_
      refine gf_8_2 F (by decide) mFL_X5_22 dX5_count_160 ?_
      refine gf_9_2 F (by decide) mFL_X5_142 dX5_count_163 ?_
      refine g_iret F hr hlk rfl dX5_count_166 ?_
      refine ⟨?_, rfl⟩
      subst hs_1_11
      unfold cntS
      rw [if_neg (by decide)]
      rw [if_neg (by decide)]
      rw [if_neg (by decide)]
      rw [if_neg (by decide)]
      rw [if_neg (by decide)]
      rw [if_neg (by decide)]
      rw [if_neg (by decide)]
      rw [if_neg (by decide)]
      rw [if_neg (by decide)]
      rw [if_neg (by decide)]
      rw [if_neg (by decide)]
      rw [if_pos rfl]
      first
      | done
      | exact C.2.2.1
  · refine g_tableOut F 167 dX5_count_1 (by omega) (by decide) ?_
    refine g_bipush (v := -2) F dX5_count_167 (by decide) ?_
    refine g_iret F hr hlk rfl dX5_count_169 ?_
    exact ⟨by unfold cntS; rw [if_neg (fun e => hs_1 (by rw [e]; decide)), if_neg (fun e => hs_1 (by rw [e]; decide)), if_neg (fun e => hs_1 (by rw [e]; decide)), if_neg (fun e => hs_1 (by rw [e]; decide)), if_neg (fun e => hs_1 (by rw [e]; decide)), if_neg (fun e => hs_1 (by rw [e]; decide)), if_neg (fun e => hs_1 (by rw [e]; decide)), if_neg (fun e => hs_1 (by rw [e]; decide)), if_neg (fun e => hs_1 (by rw [e]; decide)), if_neg (fun e => hs_1 (by rw [e]; decide)), if_neg (fun e => hs_1 (by rw [e]; decide)), if_neg (fun e => hs_1 (by rw [e]; decide))], rfl⟩
set_option maxHeartbeats 4000000 in
set_option maxRecDepth 100000 in
theorem c_X5_reaches {l : Launch} {G : Gm} (hj : Aj G) {I : Ii} {pm : Pm} {a b : Int32} {σ : Sg} {hn : Nat} {hist : Nat → Sg} {sv : Nat → Int32} {sl : Nat → Sg} {pl : Nat} {pad : Sg} (C : CR I pm σ hn hist sv sl pl pad) : CI l G yX5_reaches (wz yX5_reaches cX5_reaches 5 (some .int)) (rmL 5) [.ref (G.2.2 8 0), .int a, .int b] I pm (fun r u => r = reachS σ a b ∧ CR u.1 u.2 σ hn hist sv sl pl pad ∧ FC I u.1) := by
  refine CI.walk hj (by decide +kernel) (by show _ ≤ 5; exact Nat.le_of_ble_eq_true rfl) ?_
  intro p e s m args below meth c F hr hlk
  obtain ⟨n, h, R, V⟩ := id C.1
  have hn8 := V.2.1
  have hne := V.nofe
  have hhe := V.hofe
  have LOOP : ∀ j, j ≤ 1001 → rkS σ a n < n → (0 ≤ b ∧ b ≤ 7) → (∀ i, i < j → rchP n h σ (rkS σ a n) b i = false) → ∀ (I2 : Ii) (xj : Int32), xj = nI j → Rp n (h - j) I2 pm 1 (itS n h σ j).1 → Fr 1 I pm I2 pm → GG p l e (rmL 5) s m args below meth c G (AA G) 5 0 0 (MQ below (va_Qi (fun (r : Int32) (u : Ii × Pm) => r = reachS σ a b ∧ CR u.1 u.2 σ hn hist sv sl pl pad ∧ FC I u.1) (fun (u : Ii × Pm) t => Wd G u.1 u.2 t.heap) (AA G)) args s 0 0 (AA G)) I2 pm [(0, .ref (G.2.2 8 0)), (1, .int a), (2, .int b), (3, .ref (G.2.2 7 (8 * 1 + pm 1 (rkS σ a n)))), (4, .int xj)] 36 [] := by
    refine dn_ind ?_
    intro j hjl ih hlr hb hno I2 xj ej R2 F2
    have hi7_16 : 8 * 1 + pm 1 (rkS σ a n) < 88 := inL7 (by decide) (R2.p8 (by omega))
    have ec : I2 7 (8 * 1 + pm 1 (rkS σ a n)) 3 = (itS n h σ j).1 (16 + 11 * rkS σ a n + 3) := R2.lc (f := 3) hlr (by decide)
    refine g_iload F 4 dX5_reaches_36 rfl ?_
    refine g_sipush (v := 1000) F dX5_reaches_38 (by decide) ?_
    refine g_icmp_gt F 69 dX5_reaches_41 (by decide) (fun c_41 => ?_) (fun c_41 => ?_)
    · have n_41 := nx_gtt (a := j) (b := 1000) ej rfl (by omega) (by omega) c_41
      refine g_bipush (v := -6) F dX5_reaches_69 (by decide) ?_
      refine g_iret F hr hlk rfl dX5_reaches_71 ?_
      exact ⟨by unfold reachS; rw [hne, hhe, if_pos ⟨hlr, hb⟩, unt_no (fun i hi => hno i (by omega))], C.fr1 F2 R2.pw, FC.fr F2⟩
    · have n_41 := nx_gtf (a := j) (b := 1000) ej rfl (by omega) (by omega) c_41
      refine g_aload_n F 3 dX5_reaches_44 rfl rfl ?_
      refine g_callIv (na := 0) F 7 _ (c_X2_blockNumber hj hi7_16) hi7_16 rfl rfl lk_X5_146 rfl rfl (by decide +kernel) ⟨rfl, rfl, Nat.le_of_ble_eq_true rfl, Nat.le_of_ble_eq_true rfl, Nat.le_of_ble_eq_true rfl, Nat.le_of_ble_eq_true rfl, Nat.le_of_ble_eq_true rfl⟩ dX5_reaches_45 (fun r_45 u_45 h_45 => ?_)
      obtain ⟨rfl, rfl⟩ := h_45
      try dsimp only
      refine g_iload_n F 2 dX5_reaches_48 rfl rfl ?_
      refine g_icmp_ne F 55 dX5_reaches_49 (by decide) (fun c_49 => ?_) (fun c_49 => ?_)
      · refine g_aload_n F 0 dX5_reaches_55 rfl rfl ?_
        refine gf_8_1 F (by decide) mFL_X5_16 dX5_reaches_56 ?_
        refine g_callIv (na := 0) F 0 _ (c_X1_tick hj (by decide) R2 (V.it j)) (by decide) rfl rfl lk_X5_149 rfl rfl (by decide +kernel) ⟨rfl, rfl, Nat.le_of_ble_eq_true rfl, Nat.le_of_ble_eq_true rfl, Nat.le_of_ble_eq_true rfl, Nat.le_of_ble_eq_true rfl, Nat.le_of_ble_eq_true rfl⟩ dX5_reaches_59 (fun r_59 u_59 h_59 => ?_)
        obtain ⟨ht_, Ru, Fu, up⟩ := h_59
        obtain ⟨I3, pm3⟩ := u_59
        dsimp only at Ru Fu up
        have up2 := up.symm
        subst up2
        dsimp only
        refine g_pop F dX5_reaches_62 rfl ?_
        refine g_iincC (q := 1) (L' := [(4, _), (0, _), (1, _), (2, _), (3, _)]) F 4 dX5_reaches_63 (by decide) rfl (by decide) rfl ?_
        refine g_goto F 36 dX5_reaches_66 (by decide) ?_
        refine g_sub [1, 2, 3, 4, 0] rfl ?_
        exact ih (by omega) hlr hb (fun i hi => by
          by_cases e : i = j
          · rw [e]
            exact decide_eq_false (fun q => c_49 (by rw [ec]; exact q))
          · exact hno i (by omega)) _ _ (nx_add ej rfl) (by rw [Nat.sub_sub] at Ru; exact Ru) (F2.tr Fu)
      · refine g_iload F 4 dX5_reaches_52 rfl ?_
        refine g_iret F hr hlk rfl dX5_reaches_54 ?_
        exact ⟨by unfold reachS; rw [hne, hhe, if_pos ⟨hlr, hb⟩, unt_at hno (decide_eq_true (by rw [← ec]; exact c_49)) (by omega), ej], C.fr1 F2 R2.pw, FC.fr F2⟩
  refine g_aload_n F 0 dX5_reaches_0 rfl rfl ?_
  refine gf_8_1 F (by decide) mFL_X5_16 dX5_reaches_1 ?_
  refine g_aload_n F 0 dX5_reaches_4 rfl rfl ?_
  refine gf_8_0 F (by decide) mFL_X5_12 dX5_reaches_5 ?_
  refine g_callVv (na := 1) F 0 _ (c_X1_copyFrom hj (by decide) (by decide) (by decide) R (C.2.2.2.2.2.2.2.2 1 (by decide))) (by decide) rfl rfl lk_X5_143 rfl rfl (by decide +kernel) ⟨rfl, rfl, Nat.le_of_ble_eq_true rfl, Nat.le_of_ble_eq_true rfl, Nat.le_of_ble_eq_true rfl, Nat.le_of_ble_eq_true rfl, Nat.le_of_ble_eq_true rfl⟩ dX5_reaches_8 (fun u_8 h_8 => ?_)
  obtain ⟨R1, F1, up⟩ := h_8
  obtain ⟨I1, pm1⟩ := u_8
  dsimp only at R1 F1 up
  have up2 := up.symm
  subst up2
  dsimp only
  have C1 := C.fr1 F1 R1.pw
  refine g_aload_n F 0 dX5_reaches_11 rfl rfl ?_
  refine gf_8_1 F (by decide) mFL_X5_16 dX5_reaches_12 ?_
  refine g_iload_n F 1 dX5_reaches_15 rfl rfl ?_
  refine g_callQv (na := 1) F 0 _ (c_X1_locoWith hj (by decide) R1) (by decide) rfl rfl lk_X5_79 rfl rfl (by decide +kernel) ⟨rfl, rfl, Nat.le_of_ble_eq_true rfl, Nat.le_of_ble_eq_true rfl, Nat.le_of_ble_eq_true rfl, Nat.le_of_ble_eq_true rfl, Nat.le_of_ble_eq_true rfl⟩ dX5_reaches_16 (fun r_16 u_16 h_16 => ?_)
  obtain ⟨hr_16, hu_16⟩ := h_16
  subst hu_16
  try dsimp only
  by_cases hlt_16 : ¬ rkS σ a n < n
  · obtain rfl : r_16 = none := hr_16.trans (if_neg hlt_16)
    try dsimp only [va_rf]
    refine g_astore_nN (L' := [(3, _), (0, _), (1, _), (2, _)]) F dX5_reaches_19 rfl (by decide) rfl ?_
    refine g_aload_nN F 0 dX5_reaches_20 rfl rfl ?_
    refine g_ifnullN F 31 dX5_reaches_21 (by decide) ?_
    refine g_iconst (v := -1) F dX5_reaches_31 (by decide) ?_
    refine g_iret F hr hlk rfl dX5_reaches_32 ?_
    first
    | exact ⟨by unfold reachS; rw [hne, if_neg (fun q => N1 q.2)], C1, FC.fr F1⟩
    | exact ⟨by unfold reachS; rw [hne, if_neg (fun q => hlt_16 q.1)], C1, FC.fr F1⟩
  · have hlr_16 := Decidable.not_not.mp hlt_16
    obtain rfl : r_16 = some (G.2.2 7 (8 * 1 + pm 1 (rkS σ a n))) := hr_16.trans (if_pos hlr_16)
    try dsimp only [va_rf]
    have hi7_16 : 8 * 1 + pm 1 (rkS σ a n) < 88 := inL7 (by decide) (R1.p8 (by omega))
    refine g_astore_n (L' := [(3, _), (0, _), (1, _), (2, _)]) F dX5_reaches_19 rfl (by decide) rfl ?_
    refine g_aload_n F 0 dX5_reaches_20 rfl rfl ?_
    refine g_ifnull F dX5_reaches_21 ?_
    refine g_iload_n F 3 dX5_reaches_24 rfl rfl ?_
    refine g_callIs (na := 1) F (c_X5_isBlock hj) lk_X5_97 rfl rfl (by decide +kernel) ⟨rfl, rfl, Nat.le_of_ble_eq_true rfl, Nat.le_of_ble_eq_true rfl, Nat.le_of_ble_eq_true rfl, Nat.le_of_ble_eq_true rfl, Nat.le_of_ble_eq_true rfl⟩ dX5_reaches_25 (fun r_25 u_25 h_25 => ?_)
    obtain ⟨rfl, rfl⟩ := h_25
    try dsimp only
    refine g_if_ne F 33 dX5_reaches_28 (by decide) (fun c_28 => ?_) (fun c_28 => ?_)
    · have P1 := bz_n.mp c_28
      refine g_iconst (v := 0) F dX5_reaches_33 (by decide) ?_
      refine g_istore (L' := [(4, _), (3, _), (0, _), (1, _), (2, _)]) F dX5_reaches_34 (by decide) rfl ?_
      refine g_sub [2, 3, 4, 1, 0] rfl ?_
      exact LOOP 0 (Nat.zero_le _) hlr_16 P1 (fun i hi => absurd hi (by omega)) _ _ rfl R1 F1
    · have N1 := bz_0.mp c_28
      refine g_iconst (v := -1) F dX5_reaches_31 (by decide) ?_
      refine g_iret F hr hlk rfl dX5_reaches_32 ?_
      first
      | exact ⟨by unfold reachS; rw [hne, if_neg (fun q => N1 q.2)], C1, FC.fr F1⟩
      | exact ⟨by unfold reachS; rw [hne, if_neg (fun q => hlt_16 q.1)], C1, FC.fr F1⟩
set_option maxHeartbeats 4000000 in
set_option maxRecDepth 100000 in
theorem c_X5_save {l : Launch} {G : Gm} (hj : Aj G) {I : Ii} {pm : Pm} {x : Int32} {σ : Sg} {hn : Nat} {hist : Nat → Sg} {sv : Nat → Int32} {sl : Nat → Sg} {pl : Nat} {pad : Sg} (C : CR I pm σ hn hist sv sl pl pad) : CI l G yX5_save (wz yX5_save cX5_save 2 (some .int)) (rmL 3) [.ref (G.2.2 8 0), .int x] I pm (fun r u => (¬ (0 ≤ x ∧ x ≤ 1) ∧ r = -2 ∧ u = (I, pm)) ∨ ((0 ≤ x ∧ x ≤ 1) ∧ r = σ 6 ∧ CR u.1 u.2 σ hn hist (svU sv x.toInt.toNat) (slU sl x.toInt.toNat σ) pl pad ∧ FC I u.1)) := by
  obtain ⟨n, h, R, V⟩ := id C.1
  have hn8 := V.2.1
  have hne := V.nofe
  have hhe := V.hofe
  refine CI.walk hj (by decide +kernel) (by show _ ≤ 2; exact Nat.le_of_ble_eq_true rfl) ?_
  intro p e s m args below meth c F hr hlk
  refine g_iload_n F 1 dX5_save_0 rfl rfl ?_
  refine g_iconst (v := 0) F dX5_save_1 (by decide) ?_
  refine g_iconst (v := 1) F dX5_save_2 (by decide) ?_
  refine g_callIs (na := 3) F (c_X5_within hj) lk_X5_155 rfl rfl (by decide +kernel) ⟨rfl, rfl, Nat.le_of_ble_eq_true rfl, Nat.le_of_ble_eq_true rfl, Nat.le_of_ble_eq_true rfl, Nat.le_of_ble_eq_true rfl, Nat.le_of_ble_eq_true rfl⟩ dX5_save_3 (fun r_3 u_3 h_3 => ?_)
  obtain ⟨rfl, rfl⟩ := h_3
  try dsimp only
  refine g_if_ne F 12 dX5_save_6 (by decide) (fun c_6 => ?_) (fun c_6 => ?_)
  · have P1 := bz_n.mp c_6
    have ex := rng (M := 1) (m := 1) rfl P1.1 P1.2
    have hk2 : 2 + x.toInt.toNat < 11 := by omega
    refine g_aload_n F 0 dX5_save_12 rfl rfl ?_
    refine gf_8_3 F (by decide) mFL_X5_26 dX5_save_13 ?_
    refine g_iload_n F 1 dX5_save_16 rfl rfl ?_
    refine ga_11 (j := x.toInt.toNat) F ex.2 (by omega) dX5_save_17 ?_
    refine g_aload_n F 0 dX5_save_18 rfl rfl ?_
    refine gf_8_0 F (by decide) mFL_X5_12 dX5_save_19 ?_
    refine g_callVv (na := 1) F 0 _ (c_X1_copyFrom hj hk2 (by decide) (by omega) R (C.2.2.2.2.2.2.2.2 _ hk2)) hk2 rfl rfl lk_X5_143 rfl rfl (by decide +kernel) ⟨rfl, rfl, Nat.le_of_ble_eq_true rfl, Nat.le_of_ble_eq_true rfl, Nat.le_of_ble_eq_true rfl, Nat.le_of_ble_eq_true rfl, Nat.le_of_ble_eq_true rfl⟩ dX5_save_22 (fun u_22 h_22 => ?_)
    obtain ⟨R1, F1, up⟩ := h_22
    obtain ⟨I1, pm1⟩ := u_22
    dsimp only at R1 F1 up
    have up2 := up.symm
    subst up2
    dsimp only
    refine g_aload_n F 0 dX5_save_25 rfl rfl ?_
    refine gf_8_4 F (by decide) mFL_X5_30 dX5_save_26 ?_
    refine g_iload_n F 1 dX5_save_29 rfl rfl ?_
    refine g_iconst (v := 1) F dX5_save_30 (by decide) ?_
    refine gs_12 (j := x.toInt.toNat) F (by decide) ex.2 (by omega) rfl dX5_save_31 ?_
    refine g_aload_n F 0 dX5_save_32 rfl rfl ?_
    refine gf_8_0 F (by decide) mFL_X5_12 dX5_save_33 ?_
    refine gf_0_3 F (by decide) mFL_X5_111 dX5_save_36 ?_
    refine g_eqi (y := σ 6) (by rw [up3_k (by decide)]; exact (F1.1 0 0 3 (inL_ne (by decide) (by omega))).trans R.1.1) ?_
    refine g_iret F hr hlk rfl dX5_save_39 ?_
    refine Or.inr ⟨P1, rfl, ?_, (FC.fr F1).tr (FC.up (by decide))⟩
    obtain ⟨R0, ⟨a, ha, ea, hh⟩, en, h6, ⟨c1, c2, c3, c4, c5⟩⟩ := C
    have o : ∀ K i c, 7 < K → I1 K i c = I K i c := fun K i c h => F1.1 K i c (fun q => by have := inL_le q; omega)
    have oc : ∀ (k : Nat) (s : Sg), RpS I1 pm k s → RpS (up3 I1 12 0 x.toInt.toNat 1) pm k s := fun k s q => q.cong (fun K i c hL => up3_k (by have := inL_le hL; omega)) (fun _ => rfl)
    have oo : ∀ K i c, 7 < K → K ≠ 12 → up3 I1 12 0 x.toInt.toNat 1 K i c = I K i c := fun K i c h1 h2 => (up3_k h2).trans (o K i c h1)
    refine ⟨oc _ _ (R0.keep F1 (by omega)), ⟨a, ha, (oo 9 0 1 (by decide) (by decide)).trans ea, fun i hi => oc _ _ ((hh i hi).keep F1 (by omega))⟩, (oo 9 0 2 (by decide) (by decide)).trans en, h6, fun i hi => ?_, (oo 13 0 1 (by decide) (by decide)).trans c2, c3, fun i hi => (oo 14 0 i (by decide) (by decide)).trans (c4 i hi), fun k hk => ?_⟩
    rotate_left
    · exact c5 k hk
    show up3 I1 12 0 x.toInt.toNat 1 12 0 i = (if i = x.toInt.toNat then 1 else sv i) ∧ ((if i = x.toInt.toNat then (1 : Int32) else sv i) = 0 ∨ (if i = x.toInt.toNat then (1 : Int32) else sv i) = 1) ∧ ((if i = x.toInt.toNat then (1 : Int32) else sv i) = 1 → RpS (up3 I1 12 0 x.toInt.toNat 1) pm (2 + i) (if i = x.toInt.toNat then σ else sl i))
    by_cases e : i = x.toInt.toNat
    · rw [if_pos e, if_pos e, ← e, up3_s]
      exact ⟨rfl, Or.inr rfl, fun _ => by rw [e]; exact oc _ _ ⟨n, h, R1, V⟩⟩
    · rw [if_neg e, if_neg e, up3_n (fun q => e q.2.2), o 12 0 i (by decide)]
      exact ⟨(c1 i hi).1, (c1 i hi).2.1, fun q => oc _ _ (((c1 i hi).2.2 q).keep F1 (by omega))⟩
  · have N1 := bz_0.mp c_6
    refine g_bipush (v := -2) F dX5_save_9 (by decide) ?_
    refine g_iret F hr hlk rfl dX5_save_11 ?_
    exact Or.inl ⟨N1, rfl, rfl⟩
set_option maxHeartbeats 4000000 in
set_option maxRecDepth 100000 in
theorem c_X5_restore {l : Launch} {G : Gm} (hj : Aj G) {I : Ii} {pm : Pm} {x : Int32} {σ : Sg} {hn : Nat} {hist : Nat → Sg} {sv : Nat → Int32} {sl : Nat → Sg} {pl : Nat} {pad : Sg} (C : CR I pm σ hn hist sv sl pl pad) : CI l G yX5_restore (wz yX5_restore cX5_restore 2 (some .int)) (rmL 4) [.ref (G.2.2 8 0), .int x] I pm (fun r u => (¬ (0 ≤ x ∧ x ≤ 1) ∧ r = -2 ∧ u = (I, pm)) ∨ ((0 ≤ x ∧ x ≤ 1) ∧ sv x.toInt.toNat = 0 ∧ r = -5 ∧ u = (I, pm)) ∨ ((0 ≤ x ∧ x ≤ 1) ∧ sv x.toInt.toNat = 1 ∧ r = sl x.toInt.toNat 6 ∧ CR u.1 u.2 (sl x.toInt.toNat) (pushN hn) (pushH hn hist σ) sv sl pl pad ∧ FC I u.1)) := by
  obtain ⟨n, h, R, V⟩ := id C.1
  have hn8 := V.2.1
  have hne := V.nofe
  have hhe := V.hofe
  refine CI.walk hj (by decide +kernel) (by show _ ≤ 2; exact Nat.le_of_ble_eq_true rfl) ?_
  intro p e s m args below meth c F hr hlk
  refine g_iload_n F 1 dX5_restore_0 rfl rfl ?_
  refine g_iconst (v := 0) F dX5_restore_1 (by decide) ?_
  refine g_iconst (v := 1) F dX5_restore_2 (by decide) ?_
  refine g_callIs (na := 3) F (c_X5_within hj) lk_X5_155 rfl rfl (by decide +kernel) ⟨rfl, rfl, Nat.le_of_ble_eq_true rfl, Nat.le_of_ble_eq_true rfl, Nat.le_of_ble_eq_true rfl, Nat.le_of_ble_eq_true rfl, Nat.le_of_ble_eq_true rfl⟩ dX5_restore_3 (fun r_3 u_3 h_3 => ?_)
  obtain ⟨rfl, rfl⟩ := h_3
  try dsimp only
  refine g_if_ne F 12 dX5_restore_6 (by decide) (fun c_6 => ?_) (fun c_6 => ?_)
  · have P1 := bz_n.mp c_6
    have ex := rng (M := 1) (m := 1) rfl P1.1 P1.2
    have hk2 : 2 + x.toInt.toNat < 11 := by omega
    refine g_aload_n F 0 dX5_restore_12 rfl rfl ?_
    refine gf_8_4 F (by decide) mFL_X5_30 dX5_restore_13 ?_
    refine g_iload_n F 1 dX5_restore_16 rfl rfl ?_
    refine ga_12 (j := x.toInt.toNat) F (by decide) ex.2 (by omega) dX5_restore_17 ?_
    refine g_if_ne F 24 dX5_restore_18 (by decide) (fun c_18 => ?_) (fun c_18 => ?_)
    · have e1 : sv x.toInt.toNat = 1 := by
        rcases (C.2.2.2.2.1 x.toInt.toNat (by omega)).2.1 with q | q
        · exact absurd ((C.2.2.2.2.1 x.toInt.toNat (by omega)).1.trans q) c_18
        · exact q
      refine g_aload_n F 0 dX5_restore_24 rfl rfl ?_
      refine gf_8_2 F (by decide) mFL_X5_22 dX5_restore_25 ?_
      refine g_aload_n F 0 dX5_restore_28 rfl rfl ?_
      refine gf_8_0 F (by decide) mFL_X5_12 dX5_restore_29 ?_
      refine g_callVv (na := 1) F 9 _ (c_X0_draft hj C) (by decide) rfl rfl lk_X5_41 rfl rfl (by decide +kernel) ⟨rfl, rfl, Nat.le_of_ble_eq_true rfl, Nat.le_of_ble_eq_true rfl, Nat.le_of_ble_eq_true rfl, Nat.le_of_ble_eq_true rfl, Nat.le_of_ble_eq_true rfl⟩ dX5_restore_32 (fun u_32 h_32 => ?_)
      obtain ⟨D, f1⟩ := h_32
      obtain ⟨n2, h2, R2, V2⟩ := (D.2.2.2.2.1 x.toInt.toNat (by omega)).2.2 e1
      refine g_aload_n F 0 dX5_restore_35 rfl rfl ?_
      refine gf_8_0 F (by decide) mFL_X5_12 dX5_restore_36 ?_
      refine g_aload_n F 0 dX5_restore_39 rfl rfl ?_
      refine gf_8_3 F (by decide) mFL_X5_26 dX5_restore_40 ?_
      refine g_iload_n F 1 dX5_restore_43 rfl rfl ?_
      refine ga_11 (j := x.toInt.toNat) F ex.2 (by omega) dX5_restore_44 ?_
      refine g_callVv (na := 1) F 0 _ (c_X1_copyFrom hj (by decide) hk2 (by omega) R2 (D.2.2.2.2.2.2.2.2 0 (by decide))) (by decide) rfl rfl lk_X5_143 rfl rfl (by decide +kernel) ⟨rfl, rfl, Nat.le_of_ble_eq_true rfl, Nat.le_of_ble_eq_true rfl, Nat.le_of_ble_eq_true rfl, Nat.le_of_ble_eq_true rfl, Nat.le_of_ble_eq_true rfl⟩ dX5_restore_45 (fun u_45 h_45 => ?_)
      obtain ⟨R3, F3, up⟩ := h_45
      have D3 := D.op F3 ⟨n2, h2, R3, V2⟩
      refine g_aload_n F 0 dX5_restore_48 rfl rfl ?_
      refine gf_8_2 F (by decide) mFL_X5_22 dX5_restore_49 ?_
      refine g_aload_n F 0 dX5_restore_52 rfl rfl ?_
      refine gf_8_0 F (by decide) mFL_X5_12 dX5_restore_53 ?_
      refine gf_0_3 F (by decide) mFL_X5_111 dX5_restore_56 ?_
      refine g_eqi (y := sl x.toInt.toNat 6) R3.1.1 ?_
      refine g_callIv (na := 1) F 9 _ (c_X0_kept hj D3) (by decide) rfl rfl lk_X5_49 rfl rfl (by decide +kernel) ⟨rfl, rfl, Nat.le_of_ble_eq_true rfl, Nat.le_of_ble_eq_true rfl, Nat.le_of_ble_eq_true rfl, Nat.le_of_ble_eq_true rfl, Nat.le_of_ble_eq_true rfl⟩ dX5_restore_59 (fun r_59 u_59 h_59 => ?_)
      skip
      refine g_iret F hr hlk rfl dX5_restore_62 ?_
      obtain ⟨hr6, H6, f6⟩ := h_59
      have hpos : ¬ sl x.toInt.toNat 6 < 0 := by rw [V2.1]; exact nneg (by have := V2.2.1; omega)
      rcases H6 with ⟨q, -⟩ | ⟨-, C6⟩
      · exact absurd q hpos
      · exact Or.inr (Or.inr ⟨P1, e1, hr6, C6, (f1.tr (FC.fr F3)).tr f6⟩)
    · have e0 : sv x.toInt.toNat = 0 := (C.2.2.2.2.1 x.toInt.toNat (by omega)).1.symm.trans c_18
      refine g_bipush (v := -5) F dX5_restore_21 (by decide) ?_
      refine g_iret F hr hlk rfl dX5_restore_23 ?_
      exact Or.inr (Or.inl ⟨P1, e0, rfl, rfl⟩)
  · have N1 := bz_0.mp c_6
    refine g_bipush (v := -2) F dX5_restore_9 (by decide) ?_
    refine g_iret F hr hlk rfl dX5_restore_11 ?_
    exact Or.inl ⟨N1, rfl, rfl⟩
end
section
/-! PART 51: a partial world: names that stand already; the machine of the constructors -/
def WQ (G : Gm) (S : Nat → Nat → Prop) (E : Nat → Nat → va_E) (sz : Nat) (H : Heap) : Prop := H.size = sz ∧ ∀ K i, S K i → i < cbK K ∧ G.2.2 K i < sz ∧ va_at G.1 vwCl (G.2.2 K i, E K i) H
/-- the constructors' links of nest mates -/
def NC (U : State) : Prop := va_Nw (.methodLinkNest RX1 19 yX4_init RX5) U ∧ va_Nw (.methodLinkNest RX1 28 yX2_init RX5) U ∧ va_Nw (.methodLinkNest RX5 36 yX3_init RX5) U ∧ va_AO RX1 U ∧ va_AO RX2 U
theorem NC.warm {s U : State} (hW : s.WarmedH U.vm) (h : NC s) : NC U := ⟨h.1.warmM hW, h.2.1.warmM hW, h.2.2.1.warmM hW, h.2.2.2.1.moved hW.alike, h.2.2.2.2.moved hW.alike⟩
theorem NC.same {s U : State} (hW : s.vm = U.vm) (h : NC s) : NC U := ⟨h.1.same rfl hW, h.2.1.same rfl hW, h.2.2.1.same rfl hW, h.2.2.2.1.moved (by rw [hW]; exact Vm.Alike.refl U.vm), h.2.2.2.2.moved (by rw [hW]; exact Vm.Alike.refl U.vm)⟩
def FN (p : Program) (s : State) (m : MethodId) (args : Array Value) (c : Code) (cc : ByteArray) (nL : Nat) (own : String) (G : Gm) (A : Nat → Prop) : Prop := CallFix p m c cc nL s args wsL_law own ∧ va_K G.1 vwCl (tyz G) s ∧ NC s ∧ Aj G ∧ ∀ q, s.heap.size ≤ q → A q
def GN (p : Program) (l : Launch) (e : Env) (R : Room) (s : State) (m : MethodId) (args : Array Value) (below : List Frame) (meth : Method) (c : Code) (G : Gm) (A : Nat → Prop) (nL ce sl : Nat) (Q : State → Prop) (S : Nat → Nat → Prop) (E : Nat → Nat → va_E) (sz : Nat) (L : List (Nat × Value)) (pc : Nat) (st : List Value) : Prop :=
  ∀ (H : Heap) (locs : List Loc) (ls : Array Slot), WQ G S E sz H → va_S A s.heap H locs → lv_has ls nL L → W p l e R s m args below meth c H locs ce sl Q (F0 m pc ls st)
section NROWS
variable {p : Program} {l : Launch} {e : Env} {R : Room} {s : State} {m : MethodId} {args : Array Value} {below : List Frame} {meth : Method} {c : Code} {G : Gm} {A : Nat → Prop} {nL ce sl : Nat} {Q : State → Prop} {S : Nat → Nat → Prop} {E : Nat → Nat → va_E} {sz : Nat} {L : List (Nat × Value)} {pc : Nat} {st rest : List Value} {cc : ByteArray} {own : String}
theorem n_iconst (F : FN p s m args c cc nL own G A) {n : Int} {v : Int32} (hd : decode cc pc = .ok (.iconst n, 1)) (hv : Int32.ofInt n = v) (k : GN p l e R s m args below meth c G A nL ce sl Q S E sz L (pc + 1) (.int v :: st)) : GN p l e R s m args below meth c G A nL ce sl Q S E sz L pc st := fun H locs ls h1 h2 h3 => lv_iconst F.1.1 F.1.2.1 hd hv (k H locs ls h1 h2 h3)
theorem n_bipush (F : FN p s m args c cc nL own G A) {n : Int} {v : Int32} (hd : decode cc pc = .ok (.bipush n, 2)) (hv : (Int8.ofInt n).toInt32 = v) (k : GN p l e R s m args below meth c G A nL ce sl Q S E sz L (pc + 2) (.int v :: st)) : GN p l e R s m args below meth c G A nL ce sl Q S E sz L pc st := fun H locs ls h1 h2 h3 => lv_bipush F.1.1 F.1.2.1 hd hv (k H locs ls h1 h2 h3)
theorem n_sipush (F : FN p s m args c cc nL own G A) {n : Int} {v : Int32} (hd : decode cc pc = .ok (.sipush n, 3)) (hv : (Int16.ofInt n).toInt32 = v) (k : GN p l e R s m args below meth c G A nL ce sl Q S E sz L (pc + 3) (.int v :: st)) : GN p l e R s m args below meth c G A nL ce sl Q S E sz L pc st := fun H locs ls h1 h2 h3 => lv_sipush F.1.1 F.1.2.1 hd hv (k H locs ls h1 h2 h3)
theorem n_iload_n (F : FN p s m args c cc nL own G A) {k : Fin 4} {i : Nat} {x : Int32} (j : Nat) (hd : decode cc pc = .ok (.iload_n k, 1)) (hi : (k : Nat) = i) (hl : L[j]? = some (i, .int x)) (kk : GN p l e R s m args below meth c G A nL ce sl Q S E sz L (pc + 1) (.int x :: st)) : GN p l e R s m args below meth c G A nL ce sl Q S E sz L pc st := fun H locs ls h1 h2 h3 => lv_iload_n F.1.1 F.1.2.1 hd hi (lv_at h3 j hl) (kk H locs ls h1 h2 h3)
theorem n_aload_n (F : FN p s m args c cc nL own G A) {k : Fin 4} {i x : Nat} (j : Nat) (hd : decode cc pc = .ok (.aload_n k, 1)) (hi : (k : Nat) = i) (hl : L[j]? = some (i, .ref x)) (kk : GN p l e R s m args below meth c G A nL ce sl Q S E sz L (pc + 1) (.ref x :: st)) : GN p l e R s m args below meth c G A nL ce sl Q S E sz L pc st := fun H locs ls h1 h2 h3 => lv_aload_n F.1.1 F.1.2.1 hd hi (lv_at h3 j hl) (kk H locs ls h1 h2 h3)
theorem n_istore_n (F : FN p s m args c cc nL own G A) {k : Fin 4} {i : Nat} {x : Int32} {L' : List (Nat × Value)} (hd : decode cc pc = .ok (.istore_n k, 1)) (hi : (k : Nat) = i) (hn : i < nL) (hl : (i, Value.int x) :: L.filter (fun q => !(q.1 == i) && !(q.1 + 1 == i && q.2.category == 2)) = L') (kk : GN p l e R s m args below meth c G A nL ce sl Q S E sz L' (pc + 1) rest) : GN p l e R s m args below meth c G A nL ce sl Q S E sz L pc (.int x :: rest) := fun H locs ls h1 h2 h3 => lv_istore_n F.1.1 F.1.2.1 hd hi h3 hn hl (fun ls' h' => kk H locs ls' h1 h2 h')
theorem n_iinc (F : FN p s m args c cc nL own G A) {i : Nat} {n : Int} {x v : Int32} {L' : List (Nat × Value)} (j : Nat) (hd : decode cc pc = .ok (.iinc i n, 3)) (hk : L[j]? = some (i, .int x)) (hv : x + Int32.ofInt n = v) (hn : i < nL) (hl : (i, Value.int v) :: L.filter (fun q => !(q.1 == i) && !(q.1 + 1 == i && q.2.category == 2)) = L') (kk : GN p l e R s m args below meth c G A nL ce sl Q S E sz L' (pc + 3) st) : GN p l e R s m args below meth c G A nL ce sl Q S E sz L pc st := fun H locs ls h1 h2 h3 => lv_iinc F.1.1 F.1.2.1 hd h3 hk hv hn hl (fun ls' h' => kk H locs ls' h1 h2 h')
theorem n_goto (F : FN p s m args c cc nL own G A) {off : Int} (tgt : Nat) (hd : decode cc pc = .ok (.goto off, 3)) (ht : (pc : Int) + off = (tgt : Int)) (k : GN p l e R s m args below meth c G A nL ce sl Q S E sz L tgt st) : GN p l e R s m args below meth c G A nL ce sl Q S E sz L pc st := fun H locs ls h1 h2 h3 => lv_goto F.1.1 F.1.2.1 hd ht (k H locs ls h1 h2 h3)
theorem n_dup (F : FN p s m args c cc nL own G A) {v : Value} (hd : decode cc pc = .ok (.dup, 1)) (hv : v.category = 1) (k : GN p l e R s m args below meth c G A nL ce sl Q S E sz L (pc + 1) (v :: v :: rest)) : GN p l e R s m args below meth c G A nL ce sl Q S E sz L pc (v :: rest) := fun H locs ls h1 h2 h3 => lv_dup F.1.1 F.1.2.1 hd hv (k H locs ls h1 h2 h3)
theorem n_icmp_ge (F : FN p s m args c cc nL own G A) {x y : Int32} {off : Int} (tgt : Nat) (hd : decode cc pc = .ok (.if_icmp .ge off, 3)) (ht : (pc : Int) + off = (tgt : Int)) (kt : y ≤ x → GN p l e R s m args below meth c G A nL ce sl Q S E sz L tgt rest) (kf : ¬ y ≤ x → GN p l e R s m args below meth c G A nL ce sl Q S E sz L (pc + 3) rest) : GN p l e R s m args below meth c G A nL ce sl Q S E sz L pc (.int y :: .int x :: rest) := fun H locs ls h1 h2 h3 => lv_icmp_ge F.1.1 F.1.2.1 hd ht (fun q => kt q H locs ls h1 h2 h3) (fun q => kf q H locs ls h1 h2 h3)
theorem n_sub {L' : List (Nat × Value)} (ks : List Nat) (hl : lv_pick L ks = L') (k : GN p l e R s m args below meth c G A nL ce sl Q S E sz L' pc st) : GN p l e R s m args below meth c G A nL ce sl Q S E sz L pc st := fun H locs ls h1 h2 h3 => k H locs ls h1 h2 (lv_sub h3 ks hl)
theorem n_topi {x : Int32} (k : ∀ y : Int32, y = x → GN p l e R s m args below meth c G A nL ce sl Q S E sz L pc (.int y :: rest)) : GN p l e R s m args below meth c G A nL ce sl Q S E sz L pc (.int x :: rest) := k x rfl
def adS (S : Nat → Nat → Prop) (K i : Nat) : Nat → Nat → Prop := fun a b => S a b ∨ (a = K ∧ b = i)
def upE (E : Nat → Nat → va_E) (K i : Nat) (v : va_E) : Nat → Nat → va_E := fun a b => if a = K ∧ b = i then v else E a b
theorem WQ.push {H H1 : Heap} {K i : Nat} {v : va_E} (h : WQ G S E sz H) (hi : i < cbK K) (hK : G.2.2 K i = sz) (z : H1.size = sz + 1) (o1 : ∀ q : Nat, q < sz → H1[q]? = H[q]?) (hv : va_at G.1 vwCl (sz, v) H1) : WQ G (adS S K i) (upE E K i v) (sz + 1) H1 := by
  refine ⟨z, fun a b hab => ?_⟩
  unfold upE
  by_cases q : a = K ∧ b = i
  · obtain ⟨rfl, rfl⟩ := q
    rw [if_pos ⟨rfl, rfl⟩, hK]
    exact ⟨hi, Nat.lt_succ_self _, hv⟩
  · rw [if_neg q]
    obtain ⟨h1, h2, h3⟩ := h.2 a b (hab.resolve_right q)
    exact ⟨h1, Nat.lt_succ_of_lt h2, h3.kept (o1 _ h2)⟩
theorem WQ.set {H H1 : Heap} {K i : Nat} {v : va_E} (h : WQ G S E sz H) (hj : Aj G) (hS : S K i) (z : H1.size = H.size) (oq : ∀ q : Nat, q ≠ G.2.2 K i → H1[q]? = H[q]?) (hv : va_at G.1 vwCl (G.2.2 K i, v) H1) : WQ G S (upE E K i v) sz H1 := by
  refine ⟨z.trans h.1, fun a b hab => ?_⟩
  obtain ⟨h1, h2, h3⟩ := h.2 a b hab
  unfold upE
  by_cases q : a = K ∧ b = i
  · obtain ⟨rfl, rfl⟩ := q
    rw [if_pos ⟨rfl, rfl⟩]
    exact ⟨h1, h2, hv⟩
  · rw [if_neg q]
    exact ⟨h1, h2, h3.kept (oq _ (fun e => q (hj a b K i h1 (h.2 K i hS).1 e)))⟩
theorem vaS_push {A : Nat → Prop} {H0 H H1 : Heap} {locs : List Loc} (hS : va_S A H0 H locs) (z : H1.size = H.size + 1) (o1 : ∀ q : Nat, q < H.size → H1[q]? = H[q]?) : va_S A H0 H1 locs := ⟨Nat.le_trans hS.1 (by omega), fun x h1 h2 => (o1 x (Nat.lt_of_lt_of_le h1 hS.1)).trans (hS.2.1 x h1 h2), hS.2.2⟩
theorem n_new (F : FN p s m args c cc nL own G A) {C : String} {T : u_T} {N ci index K i : Nat} (hin : ∀ w ∈ u_ws C T N, w ∈ wsL_law) (ty : Nat → FieldType) (hty : ∀ k, k < N → parseFieldDescriptor (T k).2.2.1 = some (ty k)) (hcl : Cond.classLink own index C ∈ wsL_law) (hinst : Cond.instantiable C N ∈ wsL_law) (hini : Cond.initialized C ∈ wsL_law) (hc : vwCl[ci]? = some (C, T, N)) {fs : List Value} (hfs : ∀ j, j < N → defaultValue (ty j) = vp_V fs j) (hcells : ce + 1 ≤ R.cells) (hslots : sl + N ≤ R.slots) (hi : i < cbK K) (hK : G.2.2 K i = sz) (hd : decode cc pc = .ok (.new index, 3))
    (kk : GN p l e R s m args below meth c G A nL (ce + 1) (sl + N) Q (adS S K i) (upE E K i (.inr (ci, fs))) (sz + 1) L (pc + 3) (.ref (G.2.2 K i) :: rest)) : GN p l e R s m args below meth c G A nL ce sl Q S E sz L pc rest := by
  intro H locs ls h1 h2 h3
  have hKn := F.2.1.1 ci _ hc
  have w := F.1.2.2.2.2
  refine W.newcK F.1.1 F.1.2.1 F.1.2.2.2.1 (w _ hcl) (w _ hinst) (w _ hini) rfl hd hcells hslots hKn.2.1 rfl fun H1 kC hkC e1 z1 o1 => ?_
  have hz := h1.1
  rw [hz] at e1 z1 o1 ⊢
  have := kk H1 locs ls (h1.push hi hK z1 o1 ⟨_, hc, (u_born ty w hin hKn hkC e1 hty).to hfs⟩) (vaS_push h2 (by rw [z1, hz]) (by rw [hz]; exact o1)) h3
  rw [hK] at this
  exact this
theorem n_newa (F : FN p s m args c cc nL own G A) {atype : ArrayType} {ty : FieldType} (hty : newarray.typeOf atype = ty) (harr : Cond.arrayClass ty ∈ wsL_law) (t0 : Nat) (ht : (tyz G)[t0]? = some (G.2.1 t0, ty)) (hra : va_RA s (G.2.1 t0) ty → s.vm.findClass ("[" ++ ty.toString) = some (G.2.1 t0)) (hdf : defaultValue ty = .int 0) {K i N' : Nat} {n : Int32} (hn : ¬ n < 0) (hN : n.toNatClampNeg = N') (hbytes : N' * componentBytes ty ≤ 536870912) (hcells : ce + 1 ≤ R.cells) (hslots : sl + N' ≤ R.slots) (hi : i < cbK K) (hK : G.2.2 K i = sz) (hd : decode cc pc = .ok (.newarray atype, 2))
    (kk : GN p l e R s m args below meth c G A nL (ce + 1) (sl + N') Q (adS S K i) (upE E K i (.inl (G.2.1 t0, N', .inl (fun _ => 0)))) (sz + 1) L (pc + 2) (.ref (G.2.2 K i) :: rest)) : GN p l e R s m args below meth c G A nL ce sl Q S E sz L pc (.int n :: rest) := by
  subst hty
  intro H locs ls h1 h2 h3
  have hz := h1.1
  refine va_newaK F.1.1 F.1.2.1 (F.1.2.2.2.2 _ harr) rfl hd rfl hn hN hbytes hcells hslots hz fun H1 cA e1 z1 o1 hAr hNm => ?_
  have hcA : cA = G.2.1 t0 := Option.some.inj (hNm.symm.trans (hra (F.2.1.2 t0 _ ht).2))
  subst hcA
  have := kk H1 locs ls (h1.push hi hK z1 o1 (show H1[sz]? = some (vp_cell _ _) by rw [e1, hdf]; rfl)) (vaS_push h2 (by rw [z1, hz]) (by rw [hz]; exact o1)) h3
  rw [hK] at this
  exact this
theorem n_newq (F : FN p s m args c cc nL own G A) {C : String} {index : Nat} (hcl : Cond.classLink own index C ∈ wsL_law) (hao : va_AO C s) (t0 : Nat) (ht : (tyz G)[t0]? = some (G.2.1 t0, .object C)) {K i N' : Nat} {n : Int32} (hn : ¬ n < 0) (hN : n.toNatClampNeg = N') (hbytes : N' * 4 ≤ 536870912) (hcells : ce + 1 ≤ R.cells) (hslots : sl + N' ≤ R.slots) (hi : i < cbK K) (hK : G.2.2 K i = sz) (hd : decode cc pc = .ok (.anewarray index, 3))
    (kk : GN p l e R s m args below meth c G A nL (ce + 1) (sl + N') Q (adS S K i) (upE E K i (.inl (G.2.1 t0, N', .inr (.inr (.inr (.inr (fun _ => none))))))) (sz + 1) L (pc + 3) (.ref (G.2.2 K i) :: rest)) : GN p l e R s m args below meth c G A nL ce sl Q S E sz L pc (.int n :: rest) := by
  subst hN
  intro H locs ls h1 h2 h3
  have hz := h1.1
  refine W.anew F.1.1 F.1.2.1 F.1.2.2.2.1 (F.1.2.2.2.2 _ hcl) (va_AO.use hao) rfl hd rfl hn hbytes hcells hslots fun cA kA comp f1 f2 f3 f4 => ?_
  obtain ⟨kA2, comp2, g1, g2, g3, g4⟩ := (F.2.1.2 t0 _ ht).2
  have hcA : cA = G.2.1 t0 := Option.some.inj (f1.symm.trans g4)
  subst hcA
  generalize hH1 : H.push ({ cls := G.2.1 t0, slots := Array.replicate n.toNatClampNeg .null, vm := .none } : Cell) = H1
  have z1 : H1.size = sz + 1 := by rw [← hH1, Array.size_push, hz]
  have e1 : H1[sz]? = some (arrV (G.2.1 t0) n.toNatClampNeg (fun _ => .null)) := by rw [← hz, ← hH1, Array.getElem?_push_size, ← arrV_new]
  have o1 : ∀ q : Nat, q < sz → H1[q]? = H[q]? := fun q hq => by rw [← hH1, Array.getElem?_push, if_neg (by omega)]
  have := kk H1 locs ls (h1.push hi hK z1 o1 (show H1[sz]? = some (vp_cell _ _) by rw [e1]; rfl)) (vaS_push h2 (by rw [z1, hz]) (by rw [hz]; exact o1)) h3
  rw [hK] at this
  rw [hz]
  exact this
theorem n_put (F : FN p s m args c cc nL own G A) {C : String} {T : u_T} {N ci index K i : Nat} {fs : List Value} {v : Value} {ty : FieldType} (hin : ∀ w ∈ u_ws C T N, w ∈ wsL_law) (ty0 : Nat → FieldType) (hty : ∀ k, k < N → parseFieldDescriptor (T k).2.2.1 = some (ty0 k)) (hnm : ∀ a, a < N → ∀ b, b < N → a ≠ b → (T a).2.1 ≠ (T b).2.1) (hc : vwCl[ci]? = some (C, T, N)) (hSK : S K i) (he : E K i = .inr (ci, fs)) (k : Nat) (hk : k < N) (hw : Cond.fieldLink own index (T k).1 (T k).2.1 (T k).2.2.1 ∈ wsL_law) (hfin : (T k).2.2.2 = false ∨ ((T k).2.2.2 = true ∧ meth.name = "<init>" ∧ (T k).1 = own)) (hdt : parseFieldDescriptor (T k).2.2.1 = some ty) (hn : narrow ty v = v) (hfit : fits ty v = true) (hl : k < fs.length) (hAK : A (G.2.2 K i)) (hd : decode cc pc = .ok (.putfield index, 3))
    (kk : GN p l e R s m args below meth c G A nL ce sl Q S (upE E K i (.inr (ci, fs.set k v))) sz L (pc + 3) rest) : GN p l e R s m args below meth c G A nL ce sl Q S E sz L pc (v :: .ref (G.2.2 K i) :: rest) := by
  intro H locs ls h1 h2 h3
  have hP : va_P G.1 vwCl [(G.2.2 K i, .inr (ci, fs))] H := fun j q hq => by
    cases j with
    | zero =>
      cases hq
      have := (h1.2 K i hSK).2.2
      rw [he] at this
      exact this
    | succ j => simp at hq
  have hD : va_D (fun q => q = G.2.2 K i) [(G.2.2 K i, .inr (ci, fs))] := ⟨fun a b x y ha hb _ => by
    cases a with
    | zero => cases b with
      | zero => rfl
      | succ b => simp at hb
    | succ a => simp at ha, fun j q hq => by
    cases j with
    | zero => cases hq; rfl
    | succ j => simp at hq⟩
  have fin : ∀ H' : Heap, H'.size = H.size → (∀ q : Nat, q ≠ G.2.2 K i → H'[q]? = H[q]?) → va_at G.1 vwCl (G.2.2 K i, .inr (ci, fs.set k v)) H' → ∀ locs1, va_S A s.heap H' locs1 → W p l e R s m args below meth c H' locs1 ce sl Q (F0 m (pc + 3) ls rest) := fun H' z oq hv locs1 hS1 => kk H' locs1 ls (h1.set F.2.2.2.1 hSK z oq hv) hS1 h3
  have hap := va_apart (own := own) F.1.2.2.2.2 hin ty0 hty hnm F.2.1 hc
  have h10 := hP 0 _ rfl
  obtain ⟨r, g1, cell, q1, q2, q3, q4⟩ := h10
  have hr : r = (C, T, N) := Option.some.inj (g1.symm.trans hc)
  subst hr
  obtain ⟨hS, hfc, kC, hkC, hkind⟩ := F.2.1.1 ci _ hc
  obtain ⟨cf, kf, fi, f, hi2, hsl⟩ := hS k hk
  have hlay := F.1.2.2.2.2 _ (hin _ (u_in_lay hk))
  unfold u_lay at hlay
  have hst := (u_facts hfc hkC (u_lays F.1.2.2.2.2 hin hk) hi2).1
  rcases hfin with hfin | ⟨hfin, hin2, hdecl⟩
  · rw [if_neg (by rw [hfin]; decide)] at hlay
    have h6 := u_store hfc hkC hkind hlay hi2 hdt hn hfit
    refine W.putK F.1.1 F.1.2.1 (f := f) ⟨F.1.2.2.2.1, F.1.2.2.2.2 _ hw, ⟨_, _, _, hi2⟩, hst⟩ (by rw [q2]; exact h6) q1 q3 (by rw [hsl]; exact k2_hasslot (q4 k hk)) rfl rfl hd fun H' e1 e2 e3 => ?_
    rw [hsl] at e1 ⊢
    exact fin H' e2 e3 ⟨_, hc, t_OB.to (V := updV (vp_V fs) k v) ⟨_, e1, q2, q3, t_set q4 hap hk v⟩ (fun j _ => vp_updV_set hl v j)⟩ _ (h2.put e2 e3 hAK)
  · rw [if_pos hfin] at hlay
    have hcf : m.cls = cf := by
      obtain ⟨_, _, c', _, _, _, -, -, hf', -, -, -, hown2, -⟩ := Cond.laysFinal_spec hlay
      have e1 : c' = cf := by have := hi2.symm.trans hf'; simp at this; exact this.1.symm
      rw [hdecl] at hown2
      rw [← e1]; exact Option.some.inj (F.1.2.2.2.1.symm.trans hown2)
    have h6 := u_fits hfc hkC hkind (Or.inr hlay) hi2 hdt hn hfit
    refine W.putFinK F.1.1 F.1.2.1 F.1.2.2.2.1 (F.1.2.2.2.2 _ hw) hi2 hst hcf hin2 (by rw [q2]; exact h6) q1 q3 (by rw [hsl]; exact k2_hasslot (q4 k hk)) rfl rfl hd fun H' e1 e2 e3 => ?_
    rw [hsl] at e1 ⊢
    exact fin H' e2 e3 ⟨_, hc, t_OB.to (V := updV (vp_V fs) k v) ⟨_, e1, q2, q3, t_set q4 hap hk v⟩ (fun j _ => vp_updV_set hl v j)⟩ _ (h2.put e2 e3 hAK)
theorem n_objInit (F : FN p s m args c cc nL own G A) {idx a : Nat} (hw : Cond.methodLink own idx objectInit ∈ wsL_law) (hm : Cond.instanceMethod objectInit ∈ wsL_law) (hco : Cond.code objectInit ⟨#[0xb1]⟩ 1 none ∈ wsL_law) (hml : c.maxLocals = nL) (hfr : 1 ≤ R.frames) (hlo : 2 * (F0 m pc (#[] : Array Slot) []).monitorRoom + (rest.map fun v => v.category).sum + 12 ≤ R.locals) (hd : decode cc pc = .ok (.invokespecial idx, 3)) (kk : GN p l e R s m args below meth c G A nL ce sl Q S E sz L (pc + 3) rest) : GN p l e R s m args below meth c G A nL ce sl Q S E sz L pc (.ref a :: rest) := fun H locs ls h1 h2 h3 =>
  W.objInit F.1.1 F.1.2.1 F.1.2.2.2.1 (F.1.2.2.2.2 _ hw) (F.1.2.2.2.2 _ hm) (F.1.2.2.2.2 _ hco) rfl (by rw [hml]; exact h3.1) rfl hd hfr hlo (kk H locs ls h1 h2 h3)
theorem WQ.one {H : Heap} {K i : Nat} {v : va_E} (h : WQ G S E sz H) (hSK : S K i) (he : E K i = v) : va_P G.1 vwCl [(G.2.2 K i, v)] H := fun j q hq => by
  cases j with
  | zero =>
    cases hq
    have := (h.2 K i hSK).2.2
    rw [he] at this
    exact this
  | succ j => simp at hq
theorem n_get (F : FN p s m args c cc nL own G A) {C : String} {T : u_T} {N ci index K i : Nat} {fs : List Value} {v : Value} (hin : ∀ w ∈ u_ws C T N, w ∈ wsL_law) (hc : vwCl[ci]? = some (C, T, N)) (hSK : S K i) (he : E K i = .inr (ci, fs)) (k : Nat) (hk : k < N) (hw : Cond.fieldLink own index (T k).1 (T k).2.1 (T k).2.2.1 ∈ wsL_law) (hv : fs[k]? = some v) (hd : decode cc pc = .ok (.getfield index, 3)) (kk : GN p l e R s m args below meth c G A nL ce sl Q S E sz L (pc + 3) (v :: rest)) : GN p l e R s m args below meth c G A nL ce sl Q S E sz L pc (.ref (G.2.2 K i) :: rest) := fun H locs ls h1 h2 h3 =>
  va_get (D := G.1) (cl := vwCl) (tys := tyz G) (ws := [(G.2.2 K i, .inr (ci, fs))]) F.1.1 F.1.2.1 F.1.2.2.2.2 hin F.1.2.2.2.1 F.2.1 (h1.one hSK he) 0 rfl hc k hk (F.1.2.2.2.2 _ hw) (fun _ h => h) hv hd (kk H locs ls h1 h2 h3)
theorem n_ast (F : FN p s m args c cc nL own G A) {K i K' i' n t0 ci : Nat} {r : vw_C} {vs : List Value} {f : Nat → Option Nat} {j : Int32} (hSK : S K i) (he : E K i = .inl (G.2.1 t0, n, .inr (.inr (.inr (.inr f))))) (ht : (tyz G)[t0]? = some (G.2.1 t0, .object r.1)) (hSv : S K' i') (hev : E K' i' = .inr (ci, vs)) (hc : vwCl[ci]? = some r) (hx : vp_in j n) (hAK : A (G.2.2 K i)) (hd : decode cc pc = .ok (.aastore, 1))
    (kk : GN p l e R s m args below meth c G A nL ce sl Q S (upE E K i (.inl (G.2.1 t0, n, .inr (.inr (.inr (.inr (va_up f j.toNatClampNeg (some (G.2.2 K' i'))))))))) sz L (pc + 1) rest) : GN p l e R s m args below meth c G A nL ce sl Q S E sz L pc (.ref (G.2.2 K' i') :: .int j :: .ref (G.2.2 K i) :: rest) := by
  intro H locs ls h1 h2 h3
  have hlt : j.toNatClampNeg < n := Nat.not_le.mp fun q => hx (Or.inr q)
  have h0 : ¬ j < 0 := fun q => hx (Or.inl q)
  have hV := (h1.2 K' i' hSv).2.2
  rw [hev] at hV
  obtain ⟨r', hr', cellV, g1, g2, g3, -⟩ := hV
  have hcls := (F.2.1.1 ci r hc).2
  obtain ⟨kA, comp, k1, k2, k3, -⟩ := (F.2.1.2 t0 _ ht).2
  have hcomp : comp = G.1.1 ci := Option.some.inj (k3.symm.trans hcls.1)
  subst hcomp
  obtain ⟨kC, hkC, -⟩ := hcls.2
  have hcell := (h1.2 K i hSK).2.2
  rw [he] at hcell
  refine W.aast F.1.1 F.1.2.1 (H := H) hcell (fun q h => by cases h) (fun h => by cases h) k1 k2 rfl hkC ⟨h0, by show _ < (arrV _ _ _).slots.size; rw [arrV_size]; exact hlt⟩ g1 (fun q h => by rw [g3] at h; cases h) (by rw [g2]; exact hkC) (by rw [g2]; exact va_assign hcls) rfl rfl hd fun H1 e1 z oq => ?_
  refine kk H1 _ ls (h1.set F.2.2.2.1 hSK z oq ?_) (h2.put z oq hAK) h3
  show H1[G.2.2 K i]? = some (vp_cell _ _)
  rw [e1]
  rw [vp_cell_q, vp_cell_q, arrV_store]
  congr 2
  funext q
  by_cases hq : q = j.toNatClampNeg
  · subst hq
    simp [updV, va_up, va_rf]
  · simp [updV, va_up, hq]
end NROWS
end
section
/-! PART 52: constructors' contracts -/
def PN (G : Gm) (S : Nat → Nat → Prop) (E : Nat → Nat → va_E) (sz : Nat) : State → Prop := fun U => WQ G S E sz U.heap ∧ va_K G.1 vwCl (tyz G) U ∧ NC U
def AQ (a sz : Nat) : Nat → Prop := fun q => q = a ∨ sz ≤ q
def rmC (d dc ds : Nat) : Room := { frames := d, cells := dc, slots := ds, locals := 27 * d }
/-- a constructor of the object at a -/
def CN (l : Launch) (G : Gm) (y : MethodName) (ws : List Cond) (rm : Room) (a : Nat) (S : Nat → Nat → Prop) (E : Nat → Nat → va_E) (sz : Nat) (S' : Nat → Nat → Prop) (E' : Nat → Nat → va_E) (sz' dc ds : Nat) : Prop := Met l y ws rm (va_Pc [.ref a] (PN G S E sz)) (va_Qv (fun _ : Unit => True) (fun _ t => WQ G S' E' sz' t.heap) (AQ a sz)) dc ds (AQ a sz)
theorem PN.blind {G : Gm} {S : Nat → Nat → Prop} {E : Nat → Nat → va_E} {sz : Nat} {av : List Value} : FrameBlind (va_Pc av (PN G S E sz)) := fun a U g mk q => ⟨q.1, q.2.1, va_K.moved (u := U) (U := U.calling g mk a) (Vm.Alike.refl U.vm) q.2.2.1, NC.same rfl q.2.2.2⟩
section CTOR
variable {l : Launch} {G : Gm} {y : MethodName} {b : ByteArray} {n : Nat} {rm : Room} {a : Nat} {S S' : Nat → Nat → Prop} {E E' : Nat → Nat → va_E} {sz sz' dc ds : Nat}
theorem CN.walk (hj : Aj G) (hy : plainName y.cls = true) (hy1 : y.name = "<init>") (hn : 1 ≤ n)
    (body : ∀ (p : Program) (e : Env) (s : State) (m : MethodId) (args : Array Value) (below : List Frame) (meth : Method) (c : Code), FN p s m args c b n y.cls G (AQ a sz) → meth.sig.returnType = none → meth.locks = false → meth.name = "<init>" → c.maxLocals = n → GN p l e rm s m args below meth c G (AQ a sz) n 0 0 (MQ below (va_Qv (fun _ : Unit => True) (fun _ t => WQ G S' E' sz' t.heap) (AQ a sz)) args s dc ds (AQ a sz)) S E sz (lv_args 0 [.ref a]) 0 []) : CN l G y (wz y b n none) rm a S E sz S' E' sz' dc ds := by
  refine Met.ofW (cc := b) (maxL := n) (ret := none) hy rfl ?_
  intro p e s m args below meth c s₁ B hml hP
  obtain ⟨rfl, hW, hK, hN⟩ := hP
  have hts := atoms_spec (ws := wz y b n none) B.pre
  have hl := lv_entry [.ref a] (n := n) hn
  have hin : meth.name = "<init>" := ((name_of_methodNamed B.named B.method).1).trans hy1
  have hg := body p e s m _ below meth c ⟨⟨B.exec, B.bytes, hml, findClass_of_methodNamed B.named, fun w hw => hts w (List.mem_cons_of_mem _ hw)⟩, hK, hN, hj, fun q hq => Or.inr (by rw [hW.1] at hq; exact hq)⟩ B.returns B.notSynchronized hin hml s.heap [] _ hW va_S.rf hl
  rw [← lg_entry_eq] at hg
  exact hg
end CTOR
section CCALL
variable {p : Program} {l : Launch} {e : Env} {R : Room} {s : State} {m : MethodId} {args : Array Value} {below : List Frame} {meth : Method} {c : Code} {G : Gm} {A : Nat → Prop} {nL ce sl : Nat} {Q : State → Prop} {S S' : Nat → Nat → Prop} {E E' : Nat → Nat → va_E} {sz sz' dc ds : Nat} {L : List (Nat × Value)} {pc : Nat} {st rest : List Value} {cc : ByteArray} {own : String}
theorem n_ret (F : FN p s m args c cc nL own G A) (hr : meth.sig.returnType = none) (hlocks : meth.locks = false) (hce : ce ≤ dc) (hsl : sl ≤ ds) (hd : decode cc pc = .ok (.return_, 1)) : GN p l e R s m args below meth c G A nL ce sl (MQ below (va_Qv (fun _ : Unit => True) (fun _ t => WQ G S E sz t.heap) A) args s dc ds A) S E sz L pc [] := fun H locs ls h1 h2 h3 =>
  W.widen hce hsl (W.vret F.1.1 F.1.2.1 hr (fun t ht hW => ⟨⟨(), rfl, trivial, (show WQ G S E sz t.heap by rw [ht]; exact h1)⟩, h2.F ht⟩) h2.2.2 hd hlocks)
theorem n_call (F : FN p s m args c cc nL own G A) {y : MethodName} {b : ByteArray} {n index a : Nat} {rm : Room} (hM : CN l G y (wz y b n none) rm a S E sz S' E' sz' dc ds) (hgd : GoodIn wsL_law (wz y b n none)) (hw : Cond.methodLink own index y ∈ wsL_law) (hm : Cond.instanceMethod y ∈ wsL_law) (hini : Cond.initialized y.cls ∈ wsL_law) (hy1 : y.name = "<init>") (hAa : A a) (hszA : ∀ q, sz ≤ q → A q) (hdy : y.cls ≠ "java/lang/invoke/MethodHandle" ∧ y.cls ≠ "java/lang/invoke/VarHandle" ∧ (parseMethodDescriptor y.desc).map (fun d => d.parameters.length) = some 0) (hrm : rm.cells = dc ∧ rm.slots = ds ∧ rm.frames + 1 ≤ R.frames ∧ 8 + (n + 11) + rm.locals ≤ R.locals ∧ ce + dc ≤ R.cells ∧ sl + ds ≤ R.slots ∧ (rest.map fun v => v.category).sum ≤ 8) (hd : decode cc pc = .ok (.invokespecial index, 3)) (kk : GN p l e R s m args below meth c G A nL (ce + dc) (sl + ds) Q S' E' sz' L (pc + 3) rest) : GN p l e R s m args below meth c G A nL ce sl Q S E sz L pc (.ref a :: rest) := fun H locs ls h1 h2 h3 =>
  va_callv (va_runI (As := []) (rest := rest) F.1 hM (cwI 0 F.1.2.2.2.2 hgd rfl hrm.1 hrm.2.1 (F.1.2.2.2.2 _ hini) (F.1.2.2.2.2 _ hw) (F.1.2.2.2.2 _ hm) hy1 hdy ⟨hrm.2.2.1, hrm.2.2.2.1⟩) ⟨PN.blind, fun U hU hW => ⟨rfl, by rw [hU]; exact h1, va_K.moved hW.alike F.2.1, NC.warm hW F.2.2.1⟩⟩ rfl rfl h3.1 rfl (lv_room hrm.2.2.2.2.2.2) hd ⟨hrm.2.2.2.2.1, hrm.2.2.2.2.2.1⟩) h2 (fun q _ hq => hq.elim (fun e => by rw [e]; exact hAa) (hszA q)) (fun q hq => hq.elim (fun e => by rw [e]; exact hAa) (hszA q)) (fun u t H1 locs1 ht hvm hw hB hz hk hS => kk H1 locs1 ls (by rw [← ht]; exact hB) hS h3)
theorem n_callN (F : FN p s m args c cc nL own G A) {y : MethodName} {b : ByteArray} {n index a : Nat} {host : String} {rm : Room} (hM : CN l G y (wz y b n none) rm a S E sz S' E' sz' dc ds) (hgd : GoodIn wsL_law (wz y b n none)) (hnest : va_Nw (.methodLinkNest own index y host) s) (hm : Cond.instanceMethod y ∈ wsL_law) (hini : Cond.initialized y.cls ∈ wsL_law) (hy1 : y.name = "<init>") (hAa : A a) (hszA : ∀ q, sz ≤ q → A q) (hdy : y.cls ≠ "java/lang/invoke/MethodHandle" ∧ y.cls ≠ "java/lang/invoke/VarHandle" ∧ (parseMethodDescriptor y.desc).map (fun d => d.parameters.length) = some 0) (hrm : rm.cells = dc ∧ rm.slots = ds ∧ rm.frames + 1 ≤ R.frames ∧ 8 + (n + 11) + rm.locals ≤ R.locals ∧ ce + dc ≤ R.cells ∧ sl + ds ≤ R.slots ∧ (rest.map fun v => v.category).sum ≤ 8) (hd : decode cc pc = .ok (.invokespecial index, 3)) (kk : GN p l e R s m args below meth c G A nL (ce + dc) (sl + ds) Q S' E' sz' L (pc + 3) rest) : GN p l e R s m args below meth c G A nL ce sl Q S E sz L pc (.ref a :: rest) := fun H locs ls h1 h2 h3 =>
  va_callv (va_runIN (As := []) (rest := rest) F.1 hM ⟨va_cnB 0 F.1.2.2.2.2 hgd rfl hrm.1 hrm.2.1 hnest (F.1.2.2.2.2 _ hini) hdy ⟨hrm.2.2.1, hrm.2.2.2.1⟩, hy1, F.1.2.2.2.2 _ hm⟩ ⟨PN.blind, fun U hU hW => ⟨rfl, by rw [hU]; exact h1, va_K.moved hW.alike F.2.1, NC.warm hW F.2.2.1⟩⟩ rfl rfl h3.1 rfl (lv_room hrm.2.2.2.2.2.2) hd ⟨hrm.2.2.2.2.1, hrm.2.2.2.2.2.1⟩) h2 (fun q _ hq => hq.elim (fun e => by rw [e]; exact hAa) (hszA q)) (fun q hq => hq.elim (fun e => by rw [e]; exact hAa) (hszA q)) (fun u t H1 locs1 ht hvm hw hB hz hk hS => kk H1 locs1 ls (by rw [← ht]; exact hB) hS h3)
end CCALL
end
section
/-! PART 53: the constructors -/
/-- the first state: every int 0, locos in their order -/
def E0 (G : Gm) : Nat → Nat → va_E := fun K i => cvv G.2.1 G.2.2 (fun _ _ _ => 0) (fun _ r => r) K i
theorem WQ.mono {G : Gm} {S S' : Nat → Nat → Prop} {E E' : Nat → Nat → va_E} {sz : Nat} {H : Heap} (h : WQ G S E sz H) (hs : ∀ K i, S' K i → S K i ∧ E' K i = E K i) : WQ G S' E' sz H := ⟨h.1, fun K i q => by
  obtain ⟨a, b⟩ := hs K i q
  rw [b]
  exact h.2 K i a⟩
section CT
variable {p : Program} {l : Launch} {e : Env} {R : Room} {s : State} {m : MethodId} {args : Array Value} {below : List Frame} {meth : Method} {c : Code} {G : Gm} {A : Nat → Prop} {nL ce sl : Nat} {S S' : Nat → Nat → Prop} {E E' : Nat → Nat → va_E} {sz dc ds : Nat} {L : List (Nat × Value)} {pc : Nat} {cc : ByteArray} {own : String}
theorem n_end (F : FN p s m args c cc nL own G A) (hr : meth.sig.returnType = none) (hlocks : meth.locks = false) (hce : ce ≤ dc) (hsl : sl ≤ ds) (hd : decode cc pc = .ok (.return_, 1)) (hs : ∀ K i, S' K i → S K i ∧ E' K i = E K i) : GN p l e R s m args below meth c G A nL ce sl (MQ below (va_Qv (fun _ : Unit => True) (fun _ t => WQ G S' E' sz t.heap) A) args s dc ds A) S E sz L pc [] := fun H locs ls h1 h2 h3 => n_ret F hr hlocks hce hsl hd H locs ls (h1.mono hs) h2 h3
end CT
set_option maxHeartbeats 4000000 in
theorem k_X2 {l : Launch} {G : Gm} (hj : Aj G) {S : Nat → Nat → Prop} {E : Nat → Nat → va_E} {sz a : Nat} : CN l G yX2_init (wz yX2_init cX2_init 1 none) (rmC 1 0 0) a S E sz S E sz 0 0 := by
  refine CN.walk hj (by decide +kernel) rfl (Nat.le_refl _) ?_
  intro p e s m args below meth c F hr hlk hin hml
  refine n_aload_n F 0 dX2_init_0 rfl rfl ?_
  refine n_objInit F mML_X2_3 mIM_objectInit mCO_objectInit hml (Nat.le_of_ble_eq_true rfl) (Nat.le_of_ble_eq_true rfl) dX2_init_1 ?_
  exact n_ret F hr hlk (Nat.le_refl _) (Nat.le_refl _) dX2_init_4
set_option maxHeartbeats 4000000 in
theorem k_X4 {l : Launch} {G : Gm} (hj : Aj G) {S : Nat → Nat → Prop} {E : Nat → Nat → va_E} {sz k : Nat} (hk : k < 11) (h2 : S 2 k) (e2 : E 2 k = .inr (4, [.null, .null, .null, .int 0])) (a3 : G.2.2 3 k = sz) (a4 : G.2.2 4 k = sz + 1) (a5 : G.2.2 5 k = sz + 2) : CN l G yX4_init (wz yX4_init cX4_init 1 none) (rmC 1 3 60) (G.2.2 2 k) S E sz (fun K i => S K i ∨ ((3 ≤ K ∧ K ≤ 5) ∧ i = k)) (fun K i => if (2 ≤ K ∧ K ≤ 5) ∧ i = k then E0 G K i else E K i) (sz + 3) 3 60 := by
  refine CN.walk hj (by decide +kernel) rfl (Nat.le_refl _) ?_
  intro p e s m args below meth c F hr hlk hin hml
  refine n_aload_n F 0 dX4_init_0 rfl rfl ?_
  refine n_objInit F mML_X4_3 mIM_objectInit mCO_objectInit hml (Nat.le_of_ble_eq_true rfl) (Nat.le_of_ble_eq_true rfl) dX4_init_1 ?_
  refine n_aload_n F 0 dX4_init_4 rfl rfl ?_
  refine n_bipush (v := 20) F dX4_init_5 (by decide) ?_
  refine n_newa (ty := .int) F rfl mAC_int 1 rfl (fun h => h) rfl (K := 3) (i := k) (by decide) rfl (Nat.le_of_ble_eq_true rfl) (Nat.le_of_ble_eq_true rfl) (Nat.le_of_ble_eq_true rfl) hk a3 dX4_init_7 ?_
  refine n_put (ci := 4) (ty := .array .int) (fs := [.null, .null, .null, .int 0]) F inlX4 tyX4 tyX4_ok nmX4 rfl (Or.inl h2) (by simp [upE, e2]) 0 (by decide) mFL_X4_9 (Or.inr ⟨rfl, hin, rfl⟩) (by decide +kernel) rfl rfl (Nat.le_of_ble_eq_true rfl) (Or.inl rfl) dX4_init_9 ?_
  refine n_aload_n F 0 dX4_init_12 rfl rfl ?_
  refine n_bipush (v := 20) F dX4_init_13 (by decide) ?_
  refine n_newa (ty := .int) F rfl mAC_int 1 rfl (fun h => h) rfl (K := 4) (i := k) (by decide) rfl (Nat.le_of_ble_eq_true rfl) (Nat.le_of_ble_eq_true rfl) (Nat.le_of_ble_eq_true rfl) hk a4 dX4_init_15 ?_
  refine n_put (ci := 4) (ty := .array .int) (fs := [.ref (G.2.2 3 k), .null, .null, .int 0]) F inlX4 tyX4 tyX4_ok nmX4 rfl (Or.inl (Or.inl h2)) (by simp [upE]) 1 (by decide) mFL_X4_15 (Or.inr ⟨rfl, hin, rfl⟩) (by decide +kernel) rfl rfl (Nat.le_of_ble_eq_true rfl) (Or.inl rfl) dX4_init_17 ?_
  refine n_aload_n F 0 dX4_init_20 rfl rfl ?_
  refine n_bipush (v := 20) F dX4_init_21 (by decide) ?_
  refine n_newa (ty := .int) F rfl mAC_int 1 rfl (fun h => h) rfl (K := 5) (i := k) (by decide) rfl (Nat.le_of_ble_eq_true rfl) (Nat.le_of_ble_eq_true rfl) (Nat.le_of_ble_eq_true rfl) hk a5 dX4_init_23 ?_
  refine n_put (ci := 4) (ty := .array .int) (fs := [.ref (G.2.2 3 k), .ref (G.2.2 4 k), .null, .int 0]) F inlX4 tyX4 tyX4_ok nmX4 rfl (Or.inl (Or.inl (Or.inl h2))) (by simp [upE]) 2 (by decide) mFL_X4_18 (Or.inr ⟨rfl, hin, rfl⟩) (by decide +kernel) rfl rfl (Nat.le_of_ble_eq_true rfl) (Or.inl rfl) dX4_init_25 ?_
  refine n_end F hr hlk (Nat.le_of_ble_eq_true rfl) (Nat.le_of_ble_eq_true rfl) dX4_init_28 (fun K i h => ?_)
  refine ⟨?_, ?_⟩
  · rcases h with h | ⟨h, rfl⟩
    · exact Or.inl (Or.inl (Or.inl h))
    · rcases (show K = 3 ∨ K = 4 ∨ K = 5 by omega) with rfl | rfl | rfl
      · exact Or.inl (Or.inl (Or.inr ⟨rfl, rfl⟩))
      · exact Or.inl (Or.inr ⟨rfl, rfl⟩)
      · exact Or.inr ⟨rfl, rfl⟩
  · by_cases q : (2 ≤ K ∧ K ≤ 5) ∧ i = k
    · obtain ⟨q1, rfl⟩ := q
      rcases (show K = 2 ∨ K = 3 ∨ K = 4 ∨ K = 5 by omega) with rfl | rfl | rfl | rfl <;> simp [upE, E0, cvv]
    · rw [if_neg q]
      simp only [upE]
      rw [if_neg (by omega), if_neg (by omega), if_neg (by omega), if_neg (by omega), if_neg (by omega), if_neg (by omega)]
end
section
/-! PART 54: constructors of Pad and of the reference -/
set_option maxHeartbeats 4000000 in
theorem k_X3 {l : Launch} {G : Gm} (hj : Aj G) {S : Nat → Nat → Prop} {E : Nat → Nat → va_E} {sz : Nat} (h0 : S 13 0) (e0 : E 13 0 = .inr (3, [.null, .int 0, .int 0, .int 0, .null, .int 0])) (a14 : G.2.2 14 0 = sz) (a15 : G.2.2 15 0 = sz + 1) : CN l G yX3_init (wz yX3_init cX3_init 1 none) (rmC 1 2 83) (G.2.2 13 0) S E sz (fun K i => S K i ∨ ((14 ≤ K ∧ K ≤ 15) ∧ i = 0)) (fun K i => if (13 ≤ K ∧ K ≤ 15) ∧ i = 0 then E0 G K i else E K i) (sz + 2) 2 83 := by
  refine CN.walk hj (by decide +kernel) rfl (Nat.le_refl _) ?_
  intro p e s m args below meth c F hr hlk hin hml
  refine n_aload_n F 0 dX3_init_0 rfl rfl ?_
  refine n_objInit F mML_X3_3 mIM_objectInit mCO_objectInit hml (Nat.le_of_ble_eq_true rfl) (Nat.le_of_ble_eq_true rfl) dX3_init_1 ?_
  refine n_aload_n F 0 dX3_init_4 rfl rfl ?_
  refine n_bipush (v := 80) F dX3_init_5 (by decide) ?_
  refine n_newa (ty := .char) F rfl mAC_char 0 rfl (fun h => h) rfl (K := 14) (i := 0) (by decide) rfl (Nat.le_of_ble_eq_true rfl) (Nat.le_of_ble_eq_true rfl) (Nat.le_of_ble_eq_true rfl) (by decide) a14 dX3_init_7 ?_
  refine n_put (ci := 3) (ty := .array .char) (fs := [.null, .int 0, .int 0, .int 0, .null, .int 0]) F inlX3 tyX3 tyX3_ok nmX3 rfl (Or.inl h0) (by simp [upE, e0]) 0 (by decide) mFL_X3_9 (Or.inr ⟨rfl, hin, rfl⟩) (by decide +kernel) rfl rfl (Nat.le_of_ble_eq_true rfl) (Or.inl rfl) dX3_init_9 ?_
  refine n_aload_n F 0 dX3_init_12 rfl rfl ?_
  refine n_iconst (v := 3) F dX3_init_13 (by decide) ?_
  refine n_newa (ty := .int) F rfl mAC_int 1 rfl (fun h => h) rfl (K := 15) (i := 0) (by decide) rfl (Nat.le_of_ble_eq_true rfl) (Nat.le_of_ble_eq_true rfl) (Nat.le_of_ble_eq_true rfl) (by decide) a15 dX3_init_14 ?_
  refine n_put (ci := 3) (ty := .array .int) (fs := [.ref (G.2.2 14 0), .int 0, .int 0, .int 0, .null, .int 0]) F inlX3 tyX3 tyX3_ok nmX3 rfl (Or.inl (Or.inl h0)) (by simp [upE]) 4 (by decide) mFL_X3_15 (Or.inr ⟨rfl, hin, rfl⟩) (by decide +kernel) rfl rfl (Nat.le_of_ble_eq_true rfl) (Or.inl rfl) dX3_init_16 ?_
  refine n_end F hr hlk (Nat.le_of_ble_eq_true rfl) (Nat.le_of_ble_eq_true rfl) dX3_init_19 (fun K i h => ?_)
  refine ⟨?_, ?_⟩
  · rcases h with h | ⟨h, rfl⟩
    · exact (Or.inl (Or.inl h))
    · rcases (show K = 14 ∨ K = 15 by omega) with rfl | rfl
      · exact (Or.inl (Or.inr ⟨rfl, rfl⟩))
      · exact (Or.inr ⟨rfl, rfl⟩)
  · by_cases q : (13 ≤ K ∧ K ≤ 15) ∧ i = 0
    · obtain ⟨q1, rfl⟩ := q
      rcases (show K = 13 ∨ K = 14 ∨ K = 15 by omega) with rfl | rfl | rfl <;> simp [upE, E0, cvv]
    · rw [if_neg q]
      simp only [upE]
      rw [if_neg (by omega), if_neg (by omega), if_neg (by omega), if_neg (by omega)]
end
section
/-! PART 55: the constructor of a layout -/
section MN
variable {p : Program} {l : Launch} {e : Env} {R : Room} {s : State} {m : MethodId} {args : Array Value} {below : List Frame} {meth : Method} {c : Code} {G : Gm} {A : Nat → Prop} {nL ce sl ce' sl' : Nat} {Q : State → Prop} {S S' : Nat → Nat → Prop} {E E' : Nat → Nat → va_E} {sz : Nat} {L : List (Nat × Value)} {pc : Nat} {st : List Value}
theorem n_mono (hs : ∀ K i, S' K i → S K i ∧ E' K i = E K i) (k : GN p l e R s m args below meth c G A nL ce sl Q S' E' sz L pc st) : GN p l e R s m args below meth c G A nL ce sl Q S E sz L pc st := fun H locs ls h1 h2 h3 => k H locs ls (h1.mono hs) h2 h3
end MN
def SL (S : Nat → Nat → Prop) (k j : Nat) : Nat → Nat → Prop := fun K i => S K i ∨ ((1 ≤ K ∧ K ≤ 6) ∧ i = k) ∨ (K = 7 ∧ 8 * k ≤ i ∧ i < 8 * k + j)
def EL (G : Gm) (E : Nat → Nat → va_E) (k j : Nat) : Nat → Nat → va_E := fun K i => if (K = 0 ∨ (2 ≤ K ∧ K ≤ 6)) ∧ i = k then E0 G K i else if K = 1 ∧ i = k then .inl (G.2.1 4, 8, .inr (.inr (.inr (.inr (fun r => if r < j then some (G.2.2 7 (8 * k + r)) else none))))) else if K = 7 ∧ 8 * k ≤ i ∧ i < 8 * k + 8 then E0 G K i else E K i
theorem WQ.monoV {G : Gm} {S S' : Nat → Nat → Prop} {E E' : Nat → Nat → va_E} {sz : Nat} {H : Heap} (h : WQ G S E sz H) (hs : ∀ K i, S' K i → S K i ∧ (va_at G.1 vwCl (G.2.2 K i, E K i) H → va_at G.1 vwCl (G.2.2 K i, E' K i) H)) : WQ G S' E' sz H := ⟨h.1, fun K i q => by
  obtain ⟨a, b⟩ := hs K i q
  obtain ⟨h1, h2, h3⟩ := h.2 K i a
  exact ⟨h1, h2, b h3⟩⟩
theorem va_row {D : va_G} {cl : List vw_C} {q : Nat} {cA : ClassId} {n : Nat} {f g : Nat → Option Nat} {H : Heap} (h : ∀ r, r < n → f r = g r) (hv : va_at D cl (q, .inl (cA, n, .inr (.inr (.inr (.inr f))))) H) : va_at D cl (q, .inl (cA, n, .inr (.inr (.inr (.inr g))))) H := by
  have e : arrV cA n (fun j => va_rf (f j)) = arrV cA n (fun j => va_rf (g j)) := by
    unfold arrV
    congr 1
    apply Array.ext
    · simp
    · intro i h1 h2
      simp at h1 ⊢
      rw [h i (by omega)]
  show H[q]? = some (arrV cA n (fun j => va_rf (g j)))
  rw [← e]
  exact hv
section MNV
variable {p : Program} {l : Launch} {e : Env} {R : Room} {s : State} {m : MethodId} {args : Array Value} {below : List Frame} {meth : Method} {c : Code} {G : Gm} {A : Nat → Prop} {nL ce sl : Nat} {S S' : Nat → Nat → Prop} {E E' : Nat → Nat → va_E} {sz dc ds : Nat} {L : List (Nat × Value)} {pc : Nat} {cc : ByteArray} {own : String}
theorem n_endV (F : FN p s m args c cc nL own G A) (hr : meth.sig.returnType = none) (hlocks : meth.locks = false) (hce : ce ≤ dc) (hsl : sl ≤ ds) (hd : decode cc pc = .ok (.return_, 1)) (hs : ∀ H K i, S' K i → S K i ∧ (va_at G.1 vwCl (G.2.2 K i, E K i) H → va_at G.1 vwCl (G.2.2 K i, E' K i) H)) : GN p l e R s m args below meth c G A nL ce sl (MQ below (va_Qv (fun _ : Unit => True) (fun _ t => WQ G S' E' sz t.heap) A) args s dc ds A) S E sz L pc [] := fun H locs ls h1 h2 h3 => n_ret F hr hlocks hce hsl hd H locs ls (h1.monoV (hs H)) h2 h3
end MNV
def EF (G : Gm) (E : Nat → Nat → va_E) (k : Nat) : Nat → Nat → va_E := fun K i => if (K ≤ 6 ∧ i = k) ∨ (K = 7 ∧ 8 * k ≤ i ∧ i < 8 * k + 8) then E0 G K i else E K i
theorem el_ef {G : Gm} {E : Nat → Nat → va_E} {k K i : Nat} {H : Heap} (h : va_at G.1 vwCl (G.2.2 K i, EL G E k 8 K i) H) : va_at G.1 vwCl (G.2.2 K i, EF G E k K i) H := by
  by_cases q1 : K = 1 ∧ i = k
  · obtain ⟨rfl, rfl⟩ := q1
    have e1 : EL G E i 8 1 i = .inl (G.2.1 4, 8, .inr (.inr (.inr (.inr (fun r => if r < 8 then some (G.2.2 7 (8 * i + r)) else none))))) := by simp [EL]
    have e2 : EF G E i 1 i = .inl (G.2.1 4, 8, .inr (.inr (.inr (.inr (fun r => some (G.2.2 7 (8 * i + r))))))) := by simp [EF, E0, cvv]
    rw [e1] at h
    rw [e2]
    exact va_row (fun r hr => if_pos hr) h
  · have e : EL G E k 8 K i = EF G E k K i := by
      unfold EL EF
      by_cases c0 : (K = 0 ∨ (2 ≤ K ∧ K ≤ 6)) ∧ i = k
      · rw [if_pos c0, if_pos (by omega)]
      · rw [if_neg c0, if_neg q1]
        by_cases c7 : K = 7 ∧ 8 * k ≤ i ∧ i < 8 * k + 8
        · rw [if_pos c7, if_pos (Or.inr c7)]
        · rw [if_neg c7, if_neg (by omega)]
    rw [← e]
    exact h
set_option maxHeartbeats 4000000 in
theorem k_X1 {l : Launch} {G : Gm} (hj : Aj G) {S : Nat → Nat → Prop} {E : Nat → Nat → va_E} {sz k : Nat} (hk : k < 11) (h0 : S 0 k) (h7 : ∀ j, j < 8 → ¬ S 7 (8 * k + j)) (e0 : E 0 k = .inr (1, [.null, .null, .null, .int 0, .int 0, .int 0, .int 0, .int 0, .int 0, .int 0])) (a1 : G.2.2 1 k = sz) (a2 : G.2.2 2 k = sz + 1) (a3 : G.2.2 3 k = sz + 2) (a4 : G.2.2 4 k = sz + 3) (a5 : G.2.2 5 k = sz + 4) (a6 : G.2.2 6 k = sz + 5) (a7 : ∀ j, j < 8 → G.2.2 7 (8 * k + j) = sz + 6 + j) : CN l G yX1_init (wz yX1_init cX1_init 2 none) (rmC 2 14 168) (G.2.2 0 k) S E sz (SL S k 8) (EF G E k) (sz + 14) 14 168 := by
  refine CN.walk hj (by decide +kernel) rfl (Nat.le_of_ble_eq_true rfl) ?_
  intro p e s m args below meth c F hr hlk hin hml
  have LOOP : ∀ j, j ≤ 8 → ∀ xj, xj = nI j → GN p l e (rmC 2 14 168) s m args below meth c G (AQ (G.2.2 0 k) sz) 2 (6 + j) (80 + 11 * j) (MQ below (va_Qv (fun _ : Unit => True) (fun _ t => WQ G (SL S k 8) (EF G E k) (sz + 14) t.heap) (AQ (G.2.2 0 k) sz)) args s 14 168 (AQ (G.2.2 0 k) sz)) (SL S k j) (EL G E k j) (sz + 6 + j) [(0, .ref (G.2.2 0 k)), (1, .int xj)] 34 [] := by
    refine dn_ind ?_
    intro j hj8 ih xj ej
    refine n_iload_n F 1 dX1_init_34 rfl rfl ?_
    refine n_bipush (v := 8) F dX1_init_35 (by decide) ?_
    refine n_icmp_ge F 59 dX1_init_37 (by decide) (fun c1 => ?_) (fun c1 => ?_)
    · have n1 := nx_get (a := j) (b := 8) ej rfl (by omega) (by omega) c1
      have e8 : j = 8 := by omega
      subst e8
      exact n_endV F hr hlk (Nat.le_of_ble_eq_true rfl) (Nat.le_of_ble_eq_true rfl) dX1_init_59 (fun H K i h => ⟨h, el_ef⟩)
    · have n1 := nx_gef (a := j) (b := 8) ej rfl (by omega) (by omega) c1
      refine n_aload_n F 0 dX1_init_40 rfl rfl ?_
      refine n_get (ci := 1) (fs := [.ref (G.2.2 1 k), .ref (G.2.2 2 k), .ref (G.2.2 6 k), .int 0, .int 0, .int 0, .int 0, .int 0, .int 0, .int 0]) F inlX1 rfl (Or.inl h0) (by simp [EL, E0, cvv]) 0 (by decide) mFL_X1_11 rfl dX1_init_41 ?_
      refine n_iload_n F 1 dX1_init_44 rfl rfl ?_
      refine n_new (K := 7) (i := 8 * k + j) F inlX2 tyX2 tyX2_ok mCL_X1_9 mIS_RX2 mIN_RX2 (ci := 2) (fs := [.int 0, .int 0, .int 0, .int 0, .int 0, .int 0, .int 0, .int 0, .int 0, .int 0, .int 0]) rfl (by decide) (by show _ ≤ 14; omega) (by show _ ≤ 168; omega) (by show _ < 88; omega) (a7 j (by omega)) dX1_init_45 ?_
      refine n_dup F dX1_init_48 rfl ?_
      refine n_callN F (k_X2 hj) (gw mCO_yX2_init) F.2.2.1.2.1 mIM_yX2_init mIN_RX2 rfl (Or.inr (by rw [a7 j (by omega)]; omega)) (fun q h => Or.inr (by omega)) (by decide +kernel) ⟨rfl, rfl, Nat.le_of_ble_eq_true rfl, Nat.le_of_ble_eq_true rfl, (by show _ ≤ 14; omega), (by show _ ≤ 168; omega), Nat.le_of_ble_eq_true rfl⟩ dX1_init_49 ?_
      refine n_ast (K := 1) (i := k) (t0 := 4) (n := 8) (ci := 2) (f := fun r => if r < j then some (G.2.2 7 (8 * k + r)) else none) F (Or.inl (Or.inr (Or.inl ⟨⟨by decide, by decide⟩, rfl⟩))) (by simp [upE, EL]) rfl (Or.inr ⟨rfl, rfl⟩) (by simp [upE] <;> rfl) rfl (vp_in_e ej n1 (by decide)) (Or.inr (by rw [a1]; exact Nat.le_refl _)) dX1_init_52 ?_
      refine n_iinc (v := xj + 1) (L' := [(1, .int (xj + 1)), (0, .ref (G.2.2 0 k))]) F 1 dX1_init_53 rfl rfl (by decide) rfl ?_
      refine n_goto F 34 dX1_init_56 (by decide) ?_
      refine n_sub [1, 0] rfl ?_
      refine n_mono (S' := SL S k (j + 1)) (E' := EL G E k (j + 1)) (fun K i h => ⟨?_, ?_⟩) (ih n1 _ (nx_add ej rfl))
      · rcases h with h | h | ⟨rfl, h1, h2⟩
        · exact Or.inl (Or.inl h)
        · exact Or.inl (Or.inr (Or.inl h))
        · by_cases q : i = 8 * k + j
          · exact Or.inr ⟨rfl, q⟩
          · exact Or.inl (Or.inr (Or.inr ⟨rfl, h1, by omega⟩))
      · rw [cl_e ej n1 (by decide)]
        have key : (fun r => if r < j + 1 then some (G.2.2 7 (8 * k + r)) else none) = va_up (fun r => if r < j then some (G.2.2 7 (8 * k + r)) else none) j (some (G.2.2 7 (8 * k + j))) := by
          funext r
          unfold va_up
          by_cases q : r = j
          · rw [if_pos (by omega), if_pos q, q]
          · rw [if_neg q]
            dsimp only
            by_cases z : r < j
            · rw [if_pos (by omega), if_pos z]
            · rw [if_neg (by omega), if_neg z]
        by_cases q1 : K = 1 ∧ i = k
        · obtain ⟨rfl, rfl⟩ := q1
          unfold EL upE
          rw [if_neg (by omega), if_pos ⟨rfl, rfl⟩, key, if_pos ⟨rfl, rfl⟩]
        · by_cases q7 : K = 7 ∧ i = 8 * k + j
          · obtain ⟨rfl, rfl⟩ := q7
            unfold EL upE
            rw [if_neg (by omega), if_neg (by omega), if_pos (by omega), if_neg (by omega), if_pos ⟨rfl, rfl⟩]
            rfl
          · unfold EL upE
            dsimp only
            rw [if_neg q1, if_neg q1, if_neg q7, if_neg q1]
  refine n_aload_n F 0 dX1_init_0 rfl rfl ?_
  refine n_objInit F mML_X1_3 mIM_objectInit mCO_objectInit hml (Nat.le_of_ble_eq_true rfl) (Nat.le_of_ble_eq_true rfl) dX1_init_1 ?_
  refine n_aload_n F 0 dX1_init_4 rfl rfl ?_
  refine n_bipush (v := 8) F dX1_init_5 (by decide) ?_
  refine n_newq (K := 1) (i := k) F mCL_X1_9 F.2.2.1.2.2.2.2 4 rfl (by decide) rfl (Nat.le_of_ble_eq_true rfl) (Nat.le_of_ble_eq_true rfl) (Nat.le_of_ble_eq_true rfl) hk a1 dX1_init_7 ?_
  refine n_put (ci := 1) (ty := .array (.object "LocoFrames$Loco")) (fs := [.null, .null, .null, .int 0, .int 0, .int 0, .int 0, .int 0, .int 0, .int 0]) F inlX1 tyX1 tyX1_ok nmX1 rfl (Or.inl h0) (by simp [upE, e0]) 0 (by decide) mFL_X1_11 (Or.inr ⟨rfl, hin, rfl⟩) (by decide +kernel) rfl rfl (Nat.le_of_ble_eq_true rfl) (Or.inl rfl) dX1_init_10 ?_
  refine n_aload_n F 0 dX1_init_13 rfl rfl ?_
  refine n_new (K := 2) (i := k) F inlX4 tyX4 tyX4_ok mCL_X1_17 mIS_RX4 mIN_RX4 (ci := 4) (fs := [.null, .null, .null, .int 0]) rfl (fun j hj => by rcases (show j = 0 ∨ j = 1 ∨ j = 2 ∨ j = 3 by omega) with rfl | rfl | rfl | rfl <;> rfl) (Nat.le_of_ble_eq_true rfl) (Nat.le_of_ble_eq_true rfl) hk a2 dX1_init_14 ?_
  refine n_dup F dX1_init_17 rfl ?_
  refine n_callN F (k_X4 hj hk (Or.inr ⟨rfl, rfl⟩) (by simp [upE]) a3 a4 a5) (gw mCO_yX4_init) F.2.2.1.1 mIM_yX4_init mIN_RX4 rfl (Or.inr (by rw [a2]; omega)) (fun q h => Or.inr (by omega)) (by decide +kernel) ⟨rfl, rfl, Nat.le_of_ble_eq_true rfl, Nat.le_of_ble_eq_true rfl, Nat.le_of_ble_eq_true rfl, Nat.le_of_ble_eq_true rfl, Nat.le_of_ble_eq_true rfl⟩ dX1_init_18 ?_
  refine n_put (ci := 1) (ty := .object "LocoFrames$Station") (fs := [.ref (G.2.2 1 k), .null, .null, .int 0, .int 0, .int 0, .int 0, .int 0, .int 0, .int 0]) F inlX1 tyX1 tyX1_ok nmX1 rfl (Or.inl (Or.inl (Or.inl h0))) (by simp [upE]) 1 (by decide) mFL_X1_20 (Or.inr ⟨rfl, hin, rfl⟩) (by decide +kernel) rfl rfl (Nat.le_of_ble_eq_true rfl) (Or.inl rfl) dX1_init_21 ?_
  refine n_aload_n F 0 dX1_init_24 rfl rfl ?_
  refine n_bipush (v := 8) F dX1_init_25 (by decide) ?_
  refine n_newa (ty := .int) F rfl mAC_int 1 rfl (fun h => h) rfl (K := 6) (i := k) (by decide) rfl (Nat.le_of_ble_eq_true rfl) (Nat.le_of_ble_eq_true rfl) (Nat.le_of_ble_eq_true rfl) hk a6 dX1_init_27 ?_
  refine n_put (ci := 1) (ty := .array .int) (fs := [.ref (G.2.2 1 k), .ref (G.2.2 2 k), .null, .int 0, .int 0, .int 0, .int 0, .int 0, .int 0, .int 0]) F inlX1 tyX1 tyX1_ok nmX1 rfl (Or.inl (Or.inl (Or.inl (Or.inl h0)))) (by simp [upE]) 2 (by decide) mFL_X1_24 (Or.inr ⟨rfl, hin, rfl⟩) (by decide +kernel) rfl rfl (Nat.le_of_ble_eq_true rfl) (Or.inl rfl) dX1_init_29 ?_
  refine n_iconst (v := 0) F dX1_init_32 (by decide) ?_
  refine n_istore_n (L' := [(1, .int 0), (0, .ref (G.2.2 0 k))]) F dX1_init_33 rfl (by decide) rfl ?_
  refine n_sub [1, 0] rfl ?_
  refine n_mono (S' := SL S k 0) (E' := EL G E k 0) (fun K i h => ⟨?_, ?_⟩) (LOOP 0 (Nat.zero_le _) _ rfl)
  · rcases h with h | ⟨h, rfl⟩ | ⟨-, h1, h2⟩
    · exact Or.inl (Or.inl (Or.inl (Or.inl h)))
    · rcases (show K = 1 ∨ K = 2 ∨ (3 ≤ K ∧ K ≤ 5) ∨ K = 6 by omega) with rfl | rfl | h | rfl
      · exact Or.inl (Or.inl (Or.inl (Or.inr ⟨rfl, rfl⟩)))
      · exact Or.inl (Or.inl (Or.inr ⟨rfl, rfl⟩))
      · exact Or.inl (Or.inr ⟨h, rfl⟩)
      · exact Or.inr ⟨rfl, rfl⟩
    · omega
  · by_cases q : K ≤ 6 ∧ i = k
    · obtain ⟨q1, rfl⟩ := q
      rcases (show K = 0 ∨ K = 1 ∨ K = 2 ∨ K = 3 ∨ K = 4 ∨ K = 5 ∨ K = 6 by omega) with rfl | rfl | rfl | rfl | rfl | rfl | rfl <;> simp [upE, EL, E0, cvv]
    · rcases h with h | ⟨h, rfl⟩ | ⟨-, h1, h2⟩
      · have q7 : ¬ (K = 7 ∧ 8 * k ≤ i ∧ i < 8 * k + 8) := fun z => by
          obtain ⟨rfl, z1, z2⟩ := z
          have := h7 (i - 8 * k) (by omega)
          rw [show 8 * k + (i - 8 * k) = i by omega] at this
          exact this h
        unfold EL upE
        dsimp only
        rw [if_neg (by omega), if_neg (by omega), if_neg q7]
        simp only [show ¬ (K = 0 ∧ i = k) from fun z => q ⟨by omega, z.2⟩, show ¬ (K = 1 ∧ i = k) from fun z => q ⟨by omega, z.2⟩, show ¬ (K = 2 ∧ i = k) from fun z => q ⟨by omega, z.2⟩, show ¬ (K = 6 ∧ i = k) from fun z => q ⟨by omega, z.2⟩, show ¬ ((2 ≤ K ∧ K ≤ 5) ∧ i = k) from fun z => q ⟨by omega, z.2⟩, if_false]
      · omega
      · omega
end
section
/-! PART 56: the constructor of the history -/
def SH (S : Nat → Nat → Prop) (j : Nat) : Nat → Nat → Prop := fun K i => S K i ∨ (K = 10 ∧ i = 0) ∨ (K ≤ 6 ∧ 4 ≤ i ∧ i < 4 + j) ∨ (K = 7 ∧ 32 ≤ i ∧ i < 32 + 8 * j)
def EH (G : Gm) (E : Nat → Nat → va_E) (j : Nat) : Nat → Nat → va_E := fun K i => if K = 9 ∧ i = 0 then E0 G 9 0 else if K = 10 ∧ i = 0 then .inl (G.2.1 3, 7, .inr (.inr (.inr (.inr (fun r => if r < j then some (G.2.2 0 (4 + r)) else none))))) else if (K ≤ 6 ∧ 4 ≤ i ∧ i < 4 + j) ∨ (K = 7 ∧ 32 ≤ i ∧ i < 32 + 8 * j) then E0 G K i else E K i
theorem eh_e0 {G : Gm} {E : Nat → Nat → va_E} {K i : Nat} {H : Heap} (h : va_at G.1 vwCl (G.2.2 K i, EH G E 7 K i) H) : va_at G.1 vwCl (G.2.2 K i, if (K = 9 ∧ i = 0) ∨ (K = 10 ∧ i = 0) ∨ (K ≤ 6 ∧ 4 ≤ i ∧ i < 11) ∨ (K = 7 ∧ 32 ≤ i ∧ i < 88) then E0 G K i else E K i) H := by
  by_cases q1 : K = 10 ∧ i = 0
  · obtain ⟨rfl, rfl⟩ := q1
    have e1 : EH G E 7 10 0 = .inl (G.2.1 3, 7, .inr (.inr (.inr (.inr (fun r => if r < 7 then some (G.2.2 0 (4 + r)) else none))))) := by simp [EH]
    rw [e1] at h
    rw [if_pos (Or.inr (Or.inl ⟨rfl, rfl⟩))]
    exact va_row (fun r hr => if_pos hr) h
  · have e : EH G E 7 K i = (if (K = 9 ∧ i = 0) ∨ (K = 10 ∧ i = 0) ∨ (K ≤ 6 ∧ 4 ≤ i ∧ i < 11) ∨ (K = 7 ∧ 32 ≤ i ∧ i < 88) then E0 G K i else E K i) := by
      unfold EH
      by_cases c9 : K = 9 ∧ i = 0
      · obtain ⟨rfl, rfl⟩ := c9
        rw [if_pos ⟨rfl, rfl⟩, if_pos (Or.inl ⟨rfl, rfl⟩)]
      · rw [if_neg c9, if_neg q1]
        by_cases c7 : (K ≤ 6 ∧ 4 ≤ i ∧ i < 4 + 7) ∨ (K = 7 ∧ 32 ≤ i ∧ i < 32 + 8 * 7)
        · rw [if_pos c7, if_pos (by omega)]
        · rw [if_neg c7, if_neg (by omega)]
    rw [← e]
    exact h
theorem eh_step {G : Gm} {E : Nat → Nat → va_E} {j K i : Nat} (v : va_E) : EH G E (j + 1) K i = upE (EF G (upE (EH G E j) 0 (4 + j) v) (4 + j)) 10 0 (.inl (G.2.1 3, 7, .inr (.inr (.inr (.inr (va_up (fun r => if r < j then some (G.2.2 0 (4 + r)) else none) j (some (G.2.2 0 (4 + j))))))))) K i := by
  have key : (fun r => if r < j + 1 then some (G.2.2 0 (4 + r)) else none) = va_up (fun r => if r < j then some (G.2.2 0 (4 + r)) else none) j (some (G.2.2 0 (4 + j))) := by
    funext r
    unfold va_up
    by_cases q : r = j
    · rw [if_pos (by omega), if_pos q, q]
    · rw [if_neg q]
      dsimp only
      by_cases z : r < j
      · rw [if_pos (by omega), if_pos z]
      · rw [if_neg (by omega), if_neg z]
  by_cases q10 : K = 10 ∧ i = 0
  · obtain ⟨rfl, rfl⟩ := q10
    unfold EH upE
    rw [if_neg (by omega), if_pos ⟨rfl, rfl⟩, if_pos ⟨rfl, rfl⟩, key]
  · unfold upE EF
    dsimp only
    rw [if_neg q10]
    by_cases c : (K ≤ 6 ∧ i = 4 + j) ∨ (K = 7 ∧ 8 * (4 + j) ≤ i ∧ i < 8 * (4 + j) + 8)
    · rw [if_pos c]
      unfold EH
      rw [if_neg (by omega), if_neg q10, if_pos (by omega)]
    · rw [if_neg c, if_neg (by omega)]
      unfold EH
      by_cases c9 : K = 9 ∧ i = 0
      · rw [if_pos c9, if_pos c9]
      · rw [if_neg c9, if_neg c9, if_neg q10, if_neg q10]
        by_cases c7 : (K ≤ 6 ∧ 4 ≤ i ∧ i < 4 + j) ∨ (K = 7 ∧ 32 ≤ i ∧ i < 32 + 8 * j)
        · rw [if_pos c7, if_pos (by omega)]
        · rw [if_neg c7, if_neg (by omega)]
theorem sh_step {S : Nat → Nat → Prop} {j K i : Nat} (h : SH S (j + 1) K i) : SL (adS (SH S j) 0 (4 + j)) (4 + j) 8 K i := by
  rcases h with h | ⟨rfl, rfl⟩ | ⟨h1, h2, h3⟩ | ⟨rfl, h2, h3⟩
  · exact Or.inl (Or.inl (Or.inl h))
  · exact Or.inl (Or.inl (Or.inr (Or.inl ⟨rfl, rfl⟩)))
  · by_cases q : i = 4 + j
    · by_cases z : K = 0
      · exact Or.inl (Or.inr ⟨z, q⟩)
      · exact Or.inr (Or.inl ⟨⟨by omega, h1⟩, q⟩)
    · exact Or.inl (Or.inl (Or.inr (Or.inr (Or.inl ⟨h1, h2, by omega⟩))))
  · by_cases q : 8 * (4 + j) ≤ i
    · exact Or.inr (Or.inr ⟨rfl, q, by omega⟩)
    · exact Or.inl (Or.inl (Or.inr (Or.inr (Or.inr ⟨rfl, h2, by omega⟩))))
set_option maxHeartbeats 4000000 in
theorem k_X0 {l : Launch} {G : Gm} (hj : Aj G) {S : Nat → Nat → Prop} {E : Nat → Nat → va_E} {sz : Nat} (h0 : S 9 0) (hn : ∀ K i, S K i → ¬ ((K ≤ 6 ∧ 4 ≤ i) ∨ (K = 7 ∧ 32 ≤ i))) (e0 : E 9 0 = .inr (0, [.null, .int 0, .int 0])) (a10 : G.2.2 10 0 = sz) (aL : ∀ j, j < 7 → G.2.2 0 (4 + j) = sz + 1 + 15 * j ∧ (∀ K, 1 ≤ K → K ≤ 6 → G.2.2 K (4 + j) = sz + 1 + 15 * j + K) ∧ ∀ r, r < 8 → G.2.2 7 (8 * (4 + j) + r) = sz + 1 + 15 * j + 7 + r) : CN l G yX0_init (wz yX0_init cX0_init 2 none) (rmC 3 106 1253) (G.2.2 9 0) S E sz (SH S 7) (fun K i => if (K = 9 ∧ i = 0) ∨ (K = 10 ∧ i = 0) ∨ (K ≤ 6 ∧ 4 ≤ i ∧ i < 11) ∨ (K = 7 ∧ 32 ≤ i ∧ i < 88) then E0 G K i else E K i) (sz + 106) 106 1253 := by
  refine CN.walk hj (by decide +kernel) rfl (Nat.le_of_ble_eq_true rfl) ?_
  intro p e s m args below meth c F hr hlk hin hml
  have LOOP : ∀ j, j ≤ 7 → ∀ xj, xj = nI j → GN p l e (rmC 3 106 1253) s m args below meth c G (AQ (G.2.2 9 0) sz) 2 (1 + 15 * j) (7 + 178 * j) (MQ below (va_Qv (fun _ : Unit => True) (fun _ t => WQ G (SH S 7) (fun K i => if (K = 9 ∧ i = 0) ∨ (K = 10 ∧ i = 0) ∨ (K ≤ 6 ∧ 4 ≤ i ∧ i < 11) ∨ (K = 7 ∧ 32 ≤ i ∧ i < 88) then E0 G K i else E K i) (sz + 106) t.heap) (AQ (G.2.2 9 0) sz)) args s 106 1253 (AQ (G.2.2 9 0) sz)) (SH S j) (EH G E j) (sz + 1 + 15 * j) [(0, .ref (G.2.2 9 0)), (1, .int xj)] 15 [] := by
    refine dn_ind ?_
    intro j hj8 ih xj ej
    refine n_iload_n F 1 dX0_init_15 rfl rfl ?_
    refine n_bipush (v := 7) F dX0_init_16 (by decide) ?_
    refine n_icmp_ge F 40 dX0_init_18 (by decide) (fun c1 => ?_) (fun c1 => ?_)
    · have n1 := nx_get (a := j) (b := 7) ej rfl (by omega) (by omega) c1
      have e7 : j = 7 := by omega
      subst e7
      exact n_endV F hr hlk (Nat.le_of_ble_eq_true rfl) (Nat.le_of_ble_eq_true rfl) dX0_init_40 (fun H K i h => ⟨h, eh_e0⟩)
    · have n1 := nx_gef (a := j) (b := 7) ej rfl (by omega) (by omega) c1
      refine n_aload_n F 0 dX0_init_21 rfl rfl ?_
      refine n_get (ci := 0) (fs := [.ref (G.2.2 10 0), .int 0, .int 0]) F inlX0 rfl (Or.inl h0) (by simp [EH, E0, cvv]) 0 (by decide) mFL_X0_11 rfl dX0_init_22 ?_
      refine n_iload_n F 1 dX0_init_25 rfl rfl ?_
      refine n_new (K := 0) (i := 4 + j) F inlX1 tyX1 tyX1_ok mCL_X0_9 mIS_RX1 mIN_RX1 (ci := 1) (fs := [.null, .null, .null, .int 0, .int 0, .int 0, .int 0, .int 0, .int 0, .int 0]) rfl (by decide) (by show _ ≤ 106; omega) (by show _ ≤ 1253; omega) (by show _ < 11; omega) (aL j n1).1 dX0_init_26 ?_
      refine n_dup F dX0_init_29 rfl ?_
      have hL := aL j n1
      have g1 : ∀ K, 1 ≤ K → K ≤ 6 → G.2.2 K (4 + j) = sz + 1 + 15 * j + 1 + (K - 1) := fun K z1 z2 => by rw [hL.2.1 K z1 z2]; omega
      have g7 : ∀ r, r < 8 → G.2.2 7 (8 * (4 + j) + r) = sz + 1 + 15 * j + 1 + 6 + r := fun r hr8 => by have := hL.2.2 r hr8; omega
      refine n_call F (k_X1 hj (k := 4 + j) (by omega) (Or.inr ⟨rfl, rfl⟩) (fun r hr8 h => by
        rcases h with h | ⟨h, -⟩
        · rcases h with h | ⟨h, -⟩ | ⟨h, -⟩ | ⟨-, h1, h2⟩
          · exact hn 7 _ h (Or.inr ⟨rfl, by omega⟩)
          · omega
          · omega
          · omega
        · omega) (by simp [upE]) (g1 1 (by decide) (by decide)) (g1 2 (by decide) (by decide)) (g1 3 (by decide) (by decide)) (g1 4 (by decide) (by decide)) (g1 5 (by decide) (by decide)) (g1 6 (by decide) (by decide)) g7) (gw mCO_yX1_init) mML_X0_17 mIM_yX1_init mIN_RX1 rfl (Or.inr (by rw [hL.1]; omega)) (fun q h => Or.inr (by omega)) (by decide +kernel) ⟨rfl, rfl, Nat.le_of_ble_eq_true rfl, Nat.le_of_ble_eq_true rfl, (by show _ ≤ 106; omega), (by show _ ≤ 1253; omega), Nat.le_of_ble_eq_true rfl⟩ dX0_init_30 ?_
      refine n_ast (K := 10) (i := 0) (K' := 0) (i' := 4 + j) (t0 := 3) (n := 7) (ci := 1) (f := fun r => if r < j then some (G.2.2 0 (4 + r)) else none) (vs := [.ref (G.2.2 1 (4 + j)), .ref (G.2.2 2 (4 + j)), .ref (G.2.2 6 (4 + j)), .int 0, .int 0, .int 0, .int 0, .int 0, .int 0, .int 0]) F (Or.inl (Or.inl (Or.inr (Or.inl ⟨rfl, rfl⟩)))) (by simp [EF, upE, EH]) rfl (Or.inl (Or.inr ⟨rfl, rfl⟩)) (by simp [EF, E0, cvv]) rfl (vp_in_e ej n1 (by decide)) (Or.inr (by rw [a10]; exact Nat.le_refl _)) dX0_init_33 ?_
      refine n_iinc (v := xj + 1) (L' := [(1, .int (xj + 1)), (0, .ref (G.2.2 9 0))]) F 1 dX0_init_34 rfl rfl (by decide) rfl ?_
      refine n_goto F 15 dX0_init_37 (by decide) ?_
      refine n_sub [1, 0] rfl ?_
      have K1 := ih n1 _ (nx_add ej rfl)
      rw [show sz + 1 + 15 * (j + 1) = sz + 1 + 15 * j + 1 + 14 by omega, show 1 + 15 * (j + 1) = 1 + 15 * j + 1 + 14 by omega, show 7 + 178 * (j + 1) = 7 + 178 * j + 10 + 168 by omega] at K1
      refine n_mono (S' := SH S (j + 1)) (E' := EH G E (j + 1)) (fun K i h => ⟨sh_step h, ?_⟩) K1
      rw [cl_e ej n1 (by decide)]
      exact eh_step _
  refine n_aload_n F 0 dX0_init_0 rfl rfl ?_
  refine n_objInit F mML_X0_3 mIM_objectInit mCO_objectInit hml (Nat.le_of_ble_eq_true rfl) (Nat.le_of_ble_eq_true rfl) dX0_init_1 ?_
  refine n_aload_n F 0 dX0_init_4 rfl rfl ?_
  refine n_bipush (v := 7) F dX0_init_5 (by decide) ?_
  refine n_newq (K := 10) (i := 0) F mCL_X0_9 F.2.2.1.2.2.2.1 3 rfl (by decide) rfl (Nat.le_of_ble_eq_true rfl) (Nat.le_of_ble_eq_true rfl) (Nat.le_of_ble_eq_true rfl) (by decide) a10 dX0_init_7 ?_
  refine n_put (ci := 0) (ty := .array (.object "LocoFrames$Layout")) (fs := [.null, .int 0, .int 0]) F inlX0 tyX0 tyX0_ok nmX0 rfl (Or.inl h0) (by simp [upE, e0]) 0 (by decide) mFL_X0_11 (Or.inr ⟨rfl, hin, rfl⟩) (by decide +kernel) rfl rfl (Nat.le_of_ble_eq_true rfl) (Or.inl rfl) dX0_init_10 ?_
  refine n_iconst (v := 0) F dX0_init_13 (by decide) ?_
  refine n_istore_n (L' := [(1, .int 0), (0, .ref (G.2.2 9 0))]) F dX0_init_14 rfl (by decide) rfl ?_
  refine n_sub [1, 0] rfl ?_
  refine n_mono (S' := SH S 0) (E' := EH G E 0) (fun K i h => ⟨?_, ?_⟩) (LOOP 0 (Nat.zero_le _) _ rfl)
  · rcases h with h | h | ⟨-, h1, h2⟩ | ⟨-, h1, h2⟩
    · exact Or.inl h
    · exact Or.inr h
    · omega
    · omega
  · unfold EH upE
    by_cases c9 : K = 9 ∧ i = 0
    · rw [if_pos c9, if_pos c9]
      rfl
    · rw [if_neg c9, if_neg c9]
      by_cases c10 : K = 10 ∧ i = 0
      · rw [if_pos c10, if_pos c10]
        rfl
      · rw [if_neg c10, if_neg c10, if_neg (by omega)]
end
section
/-! PART 57: addresses; the constructor of the class -/
def layB (B i : Nat) : Nat := if i < 2 then B + 1 + 15 * i else if i < 4 then B + 113 + 15 * i else B + 33 + 15 * (i - 4)
def adB (B : Nat) : Nat → Nat → Nat := fun K i => if K ≤ 6 then layB B i + K else if K = 7 then layB B (i / 8) + 7 + i % 8 else if K = 8 then B else if K = 9 then B + 31 else if K = 10 then B + 32 else if K ≤ 15 then B + 127 + K else B + 157 + K
section AD
variable {G : Gm} {B K i k r : Nat}
theorem ad_lo (h : G.2.2 = adB B) (hK : K ≤ 6) : G.2.2 K i = layB B i + K := by rw [h]; unfold adB; rw [if_pos hK]
theorem ad_7 (h : G.2.2 = adB B) (hr : r < 8) : G.2.2 7 (8 * k + r) = layB B k + 7 + r := by
  rw [h]
  unfold adB
  rw [if_neg (by decide), if_pos rfl, show (8 * k + r) / 8 = k by omega, show (8 * k + r) % 8 = r by omega]
theorem ad_hi (h : G.2.2 = adB B) (h1 : 11 ≤ K) (h2 : K ≤ 15) : G.2.2 K i = B + 127 + K := by
  rw [h]
  unfold adB
  rw [if_neg (by omega), if_neg (by omega), if_neg (by omega), if_neg (by omega), if_neg (by omega), if_pos h2]
theorem ad_rf (h : G.2.2 = adB B) (h1 : 16 ≤ K) : G.2.2 K i = B + 157 + K := by
  rw [h]
  unfold adB
  rw [if_neg (by omega), if_neg (by omega), if_neg (by omega), if_neg (by omega), if_neg (by omega), if_neg (by omega)]
theorem ad_8 (h : G.2.2 = adB B) : G.2.2 8 i = B := by rw [h]; rfl
theorem ad_9 (h : G.2.2 = adB B) : G.2.2 9 i = B + 31 := by rw [h]; rfl
theorem ad_10 (h : G.2.2 = adB B) : G.2.2 10 i = B + 32 := by rw [h]; rfl
end AD
def SZ (X : Nat → Nat → Prop) (t : Nat) : Nat → Nat → Prop := fun K i => X K i ∨ (K = 8 ∧ i = 0) ∨ (K ≤ 6 ∧ i < t) ∨ (K = 7 ∧ i < 8 * t)
def XH (u : Nat) : Nat → Nat → Prop := fun K i => ((9 ≤ K ∧ K ≤ u) ∧ i = 0) ∨ (K ≤ 6 ∧ 4 ≤ i ∧ i < 11) ∨ (K = 7 ∧ 32 ≤ i ∧ i < 88)
def EC (G : Gm) (fs : List Value) (j : Nat) : Nat → Nat → va_E := fun K i => if K = 8 ∧ i = 0 then .inr (5, fs) else if K = 11 ∧ i = 0 then .inl (G.2.1 3, 2, .inr (.inr (.inr (.inr (fun r => if r < j then some (G.2.2 0 (2 + r)) else none))))) else E0 G K i
theorem ec_put {G : Gm} {fs fs' : List Value} {j K i : Nat} : EC G fs' j K i = upE (EC G fs j) 8 0 (.inr (5, fs')) K i := by
  unfold EC upE
  dsimp only
  by_cases q : K = 8 ∧ i = 0
  · rw [if_pos q, if_pos q]
  · rw [if_neg q, if_neg q, if_neg q]
theorem ec_e0 {G : Gm} {fs : List Value} {j K i : Nat} (h : K ≠ 8) (h1 : K ≠ 11) : EC G fs j K i = E0 G K i := by
  unfold EC
  rw [if_neg (fun q => h q.1), if_neg (fun q => h1 q.1)]
/-- one more cell that is as E0 says -/
theorem ec_one {G : Gm} {fs : List Value} {j a b K i : Nat} {v : va_E} (hv : EC G fs j a b = v) : EC G fs j K i = upE (EC G fs j) a b v K i := by
  unfold upE
  try dsimp only
  by_cases q : K = a ∧ i = b
  · rw [if_pos q, q.1, q.2, hv]
  · rw [if_neg q]
section NL
variable {p : Program} {l : Launch} {e : Env} {R : Room} {s : State} {m : MethodId} {args : Array Value} {below : List Frame} {meth : Method} {c : Code} {G : Gm} {A : Nat → Prop} {nL ce sl : Nat} {Q : State → Prop} {sz : Nat} {L : List (Nat × Value)} {pc : Nat} {rest : List Value} {cc : ByteArray}
set_option maxHeartbeats 4000000 in
theorem n_layout (F : FN p s m args c cc nL RX5 G A) (hj : Aj G) {B k : Nat} (hG : G.2.2 = adB B) (hk : k < 4) {X : Nat → Nat → Prop} {EE : Nat → Nat → va_E} (hX : ∀ r, r < 8 → ¬ X 7 (8 * k + r)) (hE : ∀ K i, K ≤ 7 → EE K i = E0 G K i) (hsz : layB B k = sz) (hszA : ∀ q, sz ≤ q → A q) (hR : 3 ≤ R.frames ∧ 75 ≤ R.locals ∧ ce + 1 + 14 ≤ R.cells ∧ sl + 10 + 168 ≤ R.slots ∧ ((Value.ref (G.2.2 0 k) :: rest).map fun v => v.category).sum ≤ 8)
    (d1 : decode cc pc = .ok (.new 9, 3)) (d2 : decode cc (pc + 3) = .ok (.dup, 1)) (d3 : decode cc (pc + 3 + 1) = .ok (.invokespecial 11, 3))
    (kk : GN p l e R s m args below meth c G A nL (ce + 1 + 14) (sl + 10 + 168) Q (SZ X (k + 1)) EE (sz + 1 + 14) L (pc + 3 + 1 + 3) (.ref (G.2.2 0 k) :: rest)) : GN p l e R s m args below meth c G A nL ce sl Q (SZ X k) EE sz L pc rest := by
  have g0 : ∀ K, K ≤ 6 → G.2.2 K k = sz + K := fun K z => by rw [ad_lo hG z, hsz]
  have g7 : ∀ r, r < 8 → G.2.2 7 (8 * k + r) = sz + 1 + 6 + r := fun r z => by rw [ad_7 hG z, hsz]
  refine n_new (K := 0) (i := k) F inlX1 tyX1 tyX1_ok mCL_X5_9 mIS_RX1 mIN_RX1 (ci := 1) (fs := [.null, .null, .null, .int 0, .int 0, .int 0, .int 0, .int 0, .int 0, .int 0]) rfl (by decide) (by omega) (by omega) (by show _ < 11; omega) (g0 0 (by decide)) d1 ?_
  refine n_dup F d2 rfl ?_
  refine n_call F (k_X1 hj (k := k) (by omega) (Or.inr ⟨rfl, rfl⟩) (fun r hr8 h => by
    rcases h with h | ⟨h, -⟩
    · rcases h with h | ⟨h, -⟩ | ⟨h, -⟩ | ⟨-, h1⟩
      · exact hX r hr8 h
      · omega
      · omega
      · omega
    · omega) (by simp [upE]) (g0 1 (by decide)) (g0 2 (by decide)) (g0 3 (by decide)) (g0 4 (by decide)) (g0 5 (by decide)) (g0 6 (by decide)) g7) (gw mCO_yX1_init) mML_X5_11 mIM_yX1_init mIN_RX1 rfl (hszA _ (by rw [g0 0 (by decide)]; exact Nat.le_add_right _ _)) (fun q h => hszA q (by omega)) (by decide +kernel) ⟨rfl, rfl, hR.1, hR.2.1, hR.2.2.1, hR.2.2.2.1, hR.2.2.2.2⟩ d3 ?_
  refine n_mono (S' := SZ X (k + 1)) (E' := EE) (fun K i h => ⟨?_, ?_⟩) kk
  · rcases h with h | h | ⟨h1, h2⟩ | ⟨rfl, h2⟩
    · exact Or.inl (Or.inl (Or.inl h))
    · exact Or.inl (Or.inl (Or.inr (Or.inl h)))
    · by_cases q : i = k
      · by_cases z : K = 0
        · exact Or.inl (Or.inr ⟨z, q⟩)
        · exact Or.inr (Or.inl ⟨⟨by omega, h1⟩, q⟩)
      · exact Or.inl (Or.inl (Or.inr (Or.inr (Or.inl ⟨h1, by omega⟩))))
    · by_cases q : 8 * k ≤ i
      · exact Or.inr (Or.inr ⟨rfl, q, by omega⟩)
      · exact Or.inl (Or.inl (Or.inr (Or.inr (Or.inr ⟨rfl, by omega⟩))))
  · unfold EF upE
    try dsimp only
    by_cases c1 : (K ≤ 6 ∧ i = k) ∨ (K = 7 ∧ 8 * k ≤ i ∧ i < 8 * k + 8)
    · rw [if_pos c1, hE K i (by omega)]
    · rw [if_neg c1, if_neg (by omega)]
end NL
/-- all names of the class -/
def S15 : Nat → Nat → Prop := fun K i => K ≤ 15 ∧ i < cbK K
theorem s15_of {K i : Nat} (h : S15 K i) : SZ (XH 15) 4 K i := by
  obtain ⟨h1, h2⟩ := h
  unfold SZ XH
  rcases (show K = 0 ∨ K = 1 ∨ K = 2 ∨ K = 3 ∨ K = 4 ∨ K = 5 ∨ K = 6 ∨ K = 7 ∨ K = 8 ∨ K = 9 ∨ K = 10 ∨ K = 11 ∨ K = 12 ∨ K = 13 ∨ K = 14 ∨ K = 15 by omega) with rfl | rfl | rfl | rfl | rfl | rfl | rfl | rfl | rfl | rfl | rfl | rfl | rfl | rfl | rfl | rfl <;> simp only [cbK] at h2 <;> omega
theorem ec_end {G : Gm} {K i : Nat} {H : Heap} (h : va_at G.1 vwCl (G.2.2 K i, EC G [.ref (G.2.2 0 0), .ref (G.2.2 0 1), .ref (G.2.2 9 0), .ref (G.2.2 11 0), .ref (G.2.2 12 0), .ref (G.2.2 13 0)] 2 K i) H) : va_at G.1 vwCl (G.2.2 K i, E0 G K i) H := by
  by_cases q1 : K = 11 ∧ i = 0
  · obtain ⟨rfl, rfl⟩ := q1
    have e1 : EC G [.ref (G.2.2 0 0), .ref (G.2.2 0 1), .ref (G.2.2 9 0), .ref (G.2.2 11 0), .ref (G.2.2 12 0), .ref (G.2.2 13 0)] 2 11 0 = .inl (G.2.1 3, 2, .inr (.inr (.inr (.inr (fun r => if r < 2 then some (G.2.2 0 (2 + r)) else none))))) := by simp [EC]
    rw [e1] at h
    exact va_row (fun r hr => if_pos hr) h
  · unfold EC at h
    by_cases q8 : K = 8 ∧ i = 0
    · obtain ⟨rfl, rfl⟩ := q8
      rw [if_pos ⟨rfl, rfl⟩] at h
      exact h
    · rw [if_neg q8, if_neg q1] at h
      exact h
theorem ec_row {G : Gm} {fs : List Value} {j K i : Nat} : EC G fs (j + 1) K i = upE (EC G fs j) 11 0 (.inl (G.2.1 3, 2, .inr (.inr (.inr (.inr (va_up (fun r => if r < j then some (G.2.2 0 (2 + r)) else none) j (some (G.2.2 0 (2 + j))))))))) K i := by
  have key : (fun r => if r < j + 1 then some (G.2.2 0 (2 + r)) else none) = va_up (fun r => if r < j then some (G.2.2 0 (2 + r)) else none) j (some (G.2.2 0 (2 + j))) := by
    funext r
    unfold va_up
    by_cases q : r = j
    · rw [if_pos (by omega), if_pos q, q]
    · rw [if_neg q]
      dsimp only
      by_cases z : r < j
      · rw [if_pos (by omega), if_pos z]
      · rw [if_neg (by omega), if_neg z]
  unfold EC upE
  dsimp only
  by_cases q11 : K = 11 ∧ i = 0
  · rw [if_neg (by omega), if_pos q11, if_pos q11, key]
  · rw [if_neg q11, if_neg q11, if_neg q11]
set_option maxHeartbeats 4000000 in
theorem k_X5 {l : Launch} {G : Gm} (hj : Aj G) {B : Nat} (hG : G.2.2 = adB B) {sz : Nat} (hsz : sz = B + 1) : CN l G yX5_init (wz yX5_init cX5_init 2 none) (rmC 4 172 2061) (G.2.2 8 0) (SZ (fun _ _ => False) 0) (EC G [.null, .null, .null, .null, .null, .null] 0) sz S15 (E0 G) (sz + 172) 172 2061 := by
  subst hsz
  refine CN.walk hj (by decide +kernel) rfl (Nat.le_of_ble_eq_true rfl) ?_
  intro p e s m args below meth c F hr hlk hin hml
  have LOOP : ∀ j, j ≤ 2 → ∀ xj, xj = nI j → GN p l e (rmC 4 172 2061) s m args below meth c G (AQ (G.2.2 8 0) (B + 1)) 2 (142 + 15 * j) (1705 + 178 * j) (MQ below (va_Qv (fun _ : Unit => True) (fun _ t => WQ G S15 (E0 G) (B + 1 + 172) t.heap) (AQ (G.2.2 8 0) (B + 1))) args s 172 2061 (AQ (G.2.2 8 0) (B + 1))) (SZ (XH 15) (2 + j)) (EC G [.ref (G.2.2 0 0), .ref (G.2.2 0 1), .ref (G.2.2 9 0), .ref (G.2.2 11 0), .ref (G.2.2 12 0), .ref (G.2.2 13 0)] j) (B + 143 + 15 * j) [(0, .ref (G.2.2 8 0)), (1, .int xj)] 65 [] := by
    refine dn_ind ?_
    intro j hj8 ih xj ej
    refine n_iload_n F 1 dX5_init_65 rfl rfl ?_
    refine n_iconst (v := 2) F dX5_init_66 (by decide) ?_
    refine n_icmp_ge F 89 dX5_init_67 (by decide) (fun c1 => ?_) (fun c1 => ?_)
    · have n1 := nx_get (a := j) (b := 2) ej rfl (by omega) (by omega) c1
      have e7 : j = 2 := by omega
      subst e7
      exact n_endV F hr hlk (Nat.le_of_ble_eq_true rfl) (Nat.le_of_ble_eq_true rfl) dX5_init_89 (fun H K i h => ⟨s15_of h, ec_end⟩)
    · have n1 := nx_gef (a := j) (b := 2) ej rfl (by omega) (by omega) c1
      refine n_aload_n F 0 dX5_init_70 rfl rfl ?_
      refine n_get (ci := 5) (fs := [.ref (G.2.2 0 0), .ref (G.2.2 0 1), .ref (G.2.2 9 0), .ref (G.2.2 11 0), .ref (G.2.2 12 0), .ref (G.2.2 13 0)]) F inlX5 rfl (Or.inr (Or.inl ⟨rfl, rfl⟩)) (by simp [EC]) 3 (by decide) mFL_X5_26 rfl dX5_init_71 ?_
      refine n_iload_n F 1 dX5_init_74 rfl rfl ?_
      refine n_layout (B := B) (k := 2 + j) F hj hG (by omega) (fun r hr8 h => ?_) (fun K i h => ec_e0 (by omega) (by omega)) (by unfold layB; rw [if_neg (by omega), if_pos (by omega)]; omega) (fun q h => Or.inr (by omega)) ⟨Nat.le_of_ble_eq_true rfl, Nat.le_of_ble_eq_true rfl, (by show _ ≤ 172; omega), (by show _ ≤ 2061; omega), Nat.le_of_ble_eq_true rfl⟩ dX5_init_75 dX5_init_78 dX5_init_79 ?_
      · unfold XH at h
        omega
      refine n_ast (K := 11) (i := 0) (K' := 0) (i' := 2 + j) (t0 := 3) (n := 2) (ci := 1) (f := fun r => if r < j then some (G.2.2 0 (2 + r)) else none) (vs := [.ref (G.2.2 1 (2 + j)), .ref (G.2.2 2 (2 + j)), .ref (G.2.2 6 (2 + j)), .int 0, .int 0, .int 0, .int 0, .int 0, .int 0, .int 0]) F (Or.inl (Or.inl ⟨⟨by decide, by decide⟩, rfl⟩)) (by simp [EC]) rfl (Or.inr (Or.inr (Or.inl ⟨by decide, by omega⟩))) (by simp [EC, E0, cvv]) rfl (vp_in_e ej n1 (by decide)) (Or.inr (by rw [ad_hi hG (by decide) (by decide)]; omega)) dX5_init_82 ?_
      refine n_iinc (v := xj + 1) (L' := [(1, .int (xj + 1)), (0, .ref (G.2.2 8 0))]) F 1 dX5_init_83 rfl rfl (by decide) rfl ?_
      refine n_goto F 65 dX5_init_86 (by decide) ?_
      refine n_sub [1, 0] rfl ?_
      have K1 := ih n1 _ (nx_add ej rfl)
      rw [show B + 143 + 15 * (j + 1) = B + 143 + 15 * j + 1 + 14 by omega, show 142 + 15 * (j + 1) = 142 + 15 * j + 1 + 14 by omega, show 1705 + 178 * (j + 1) = 1705 + 178 * j + 10 + 168 by omega] at K1
      refine n_mono (fun K i h => ⟨h, ?_⟩) K1
      rw [cl_e ej n1 (by decide)]
      exact ec_row
  have hA8 : AQ (G.2.2 8 0) (B + 1) (G.2.2 8 0) := Or.inl rfl
  refine n_aload_n F 0 dX5_init_0 rfl rfl ?_
  refine n_objInit F mML_X5_3 mIM_objectInit mCO_objectInit hml (Nat.le_of_ble_eq_true rfl) (Nat.le_of_ble_eq_true rfl) dX5_init_1 ?_
  refine n_aload_n F 0 dX5_init_4 rfl rfl ?_
  refine n_layout (B := B) (k := 0) F hj hG (by decide) (fun r hr8 h => h) (fun K i h => ec_e0 (by omega) (by omega)) rfl (fun q h => Or.inr h) ⟨Nat.le_of_ble_eq_true rfl, Nat.le_of_ble_eq_true rfl, Nat.le_of_ble_eq_true rfl, Nat.le_of_ble_eq_true rfl, Nat.le_of_ble_eq_true rfl⟩ dX5_init_5 dX5_init_8 dX5_init_9 ?_
  refine n_put (ci := 5) (ty := .object "LocoFrames$Layout") (fs := [.null, .null, .null, .null, .null, .null]) F inlX5 tyX5 tyX5_ok nmX5 rfl (Or.inr (Or.inl ⟨rfl, rfl⟩)) (by simp [EC]) 0 (by decide) mFL_X5_12 (Or.inr ⟨rfl, hin, rfl⟩) (by decide +kernel) rfl rfl (Nat.le_of_ble_eq_true rfl) hA8 dX5_init_12 ?_
  refine n_mono (S' := SZ (fun _ _ => False) 1) (E' := EC G [.ref (G.2.2 0 0), .null, .null, .null, .null, .null] 0) (fun K i h => ⟨h, ec_put⟩) ?_
  refine n_aload_n F 0 dX5_init_15 rfl rfl ?_
  refine n_layout (B := B) (k := 1) F hj hG (by decide) (fun r hr8 h => h) (fun K i h => ec_e0 (by omega) (by omega)) rfl (fun q h => Or.inr (by omega)) ⟨Nat.le_of_ble_eq_true rfl, Nat.le_of_ble_eq_true rfl, Nat.le_of_ble_eq_true rfl, Nat.le_of_ble_eq_true rfl, Nat.le_of_ble_eq_true rfl⟩ dX5_init_16 dX5_init_19 dX5_init_20 ?_
  refine n_put (ci := 5) (ty := .object "LocoFrames$Layout") (fs := [.ref (G.2.2 0 0), .null, .null, .null, .null, .null]) F inlX5 tyX5 tyX5_ok nmX5 rfl (Or.inr (Or.inl ⟨rfl, rfl⟩)) (by simp [EC]) 1 (by decide) mFL_X5_16 (Or.inr ⟨rfl, hin, rfl⟩) (by decide +kernel) rfl rfl (Nat.le_of_ble_eq_true rfl) hA8 dX5_init_23 ?_
  refine n_mono (S' := SZ (fun _ _ => False) 2) (E' := EC G [.ref (G.2.2 0 0), .ref (G.2.2 0 1), .null, .null, .null, .null] 0) (fun K i h => ⟨h, ec_put⟩) ?_
  refine n_aload_n F 0 dX5_init_26 rfl rfl ?_
  refine n_new (K := 9) (i := 0) F inlX0 tyX0 tyX0_ok mCL_X5_19 mIS_RX0 mIN_RX0 (ci := 0) (fs := [.null, .int 0, .int 0]) rfl (fun j hj => by rcases (show j = 0 ∨ j = 1 ∨ j = 2 by omega) with rfl | rfl | rfl <;> rfl) (Nat.le_of_ble_eq_true rfl) (Nat.le_of_ble_eq_true rfl) (by decide) (by rw [ad_9 hG]) dX5_init_27 ?_
  refine n_dup F dX5_init_30 rfl ?_
  refine n_call F (k_X0 hj (Or.inr ⟨rfl, rfl⟩) (fun K i h => by
    rcases h with h | ⟨h, -⟩
    · rcases h with h | ⟨h, -⟩ | ⟨h, h1⟩ | ⟨h, h1⟩
      · exact h.elim
      · omega
      · omega
      · omega
    · omega) (by simp [upE]) (by rw [ad_10 hG]) (fun j hj7 => ⟨by rw [ad_lo hG (by decide)]; unfold layB; rw [if_neg (by omega), if_neg (by omega)]; omega, fun K z1 z2 => by rw [ad_lo hG z2]; unfold layB; rw [if_neg (by omega), if_neg (by omega)]; omega, fun r hr8 => by rw [ad_7 hG hr8]; unfold layB; rw [if_neg (by omega), if_neg (by omega)]; omega⟩)) (gw mCO_yX0_init) mML_X5_21 mIM_yX0_init mIN_RX0 rfl (Or.inr (by rw [ad_9 hG]; omega)) (fun q h => Or.inr (by omega)) (by decide +kernel) ⟨rfl, rfl, Nat.le_of_ble_eq_true rfl, Nat.le_of_ble_eq_true rfl, Nat.le_of_ble_eq_true rfl, Nat.le_of_ble_eq_true rfl, Nat.le_of_ble_eq_true rfl⟩ dX5_init_31 ?_
  refine n_mono (S' := SZ (XH 10) 2) (E' := EC G [.ref (G.2.2 0 0), .ref (G.2.2 0 1), .null, .null, .null, .null] 0) (fun K i h => ⟨?_, ?_⟩) ?_
  · rcases h with h | h | h | h
    · unfold XH at h
      rcases h with ⟨⟨h1, h2⟩, rfl⟩ | h | h
      · rcases (show K = 9 ∨ K = 10 by omega) with rfl | rfl
        · exact Or.inl (Or.inr ⟨rfl, rfl⟩)
        · exact Or.inr (Or.inl ⟨rfl, rfl⟩)
      · exact Or.inr (Or.inr (Or.inl ⟨h.1, h.2.1, h.2.2⟩))
      · exact Or.inr (Or.inr (Or.inr ⟨h.1, h.2.1, h.2.2⟩))
    · exact Or.inl (Or.inl (Or.inr (Or.inl h)))
    · exact Or.inl (Or.inl (Or.inr (Or.inr (Or.inl h))))
    · exact Or.inl (Or.inl (Or.inr (Or.inr (Or.inr h))))
  · try dsimp only
    by_cases q : (K = 9 ∧ i = 0) ∨ (K = 10 ∧ i = 0) ∨ (K ≤ 6 ∧ 4 ≤ i ∧ i < 11) ∨ (K = 7 ∧ 32 ≤ i ∧ i < 88)
    · rw [if_pos q, ec_e0 (by omega) (by omega)]
    · rw [if_neg q]
      unfold upE
      rw [if_neg (by omega)]
  refine n_put (ci := 5) (ty := .object "LocoFrames$History") (fs := [.ref (G.2.2 0 0), .ref (G.2.2 0 1), .null, .null, .null, .null]) F inlX5 tyX5 tyX5_ok nmX5 rfl (Or.inr (Or.inl ⟨rfl, rfl⟩)) (by simp [EC]) 2 (by decide) mFL_X5_22 (Or.inr ⟨rfl, hin, rfl⟩) (by decide +kernel) rfl rfl (Nat.le_of_ble_eq_true rfl) hA8 dX5_init_34 ?_
  refine n_mono (S' := SZ (XH 10) 2) (E' := EC G [.ref (G.2.2 0 0), .ref (G.2.2 0 1), .ref (G.2.2 9 0), .null, .null, .null] 0) (fun K i h => ⟨h, ec_put⟩) ?_
  refine n_aload_n F 0 dX5_init_37 rfl rfl ?_
  refine n_iconst (v := 2) F dX5_init_38 (by decide) ?_
  refine n_newq (K := 11) (i := 0) F mCL_X5_9 F.2.2.1.2.2.2.1 3 rfl (by decide) rfl (Nat.le_of_ble_eq_true rfl) (Nat.le_of_ble_eq_true rfl) (Nat.le_of_ble_eq_true rfl) (by decide) (by rw [ad_hi hG (by decide) (by decide)]) dX5_init_39 ?_
  refine n_mono (S' := SZ (XH 11) 2) (E' := EC G [.ref (G.2.2 0 0), .ref (G.2.2 0 1), .ref (G.2.2 9 0), .null, .null, .null] 0) (fun K i h => ⟨?_, ec_one rfl⟩) ?_
  · unfold adS SZ XH at *
    omega
  refine n_put (ci := 5) (ty := .array (.object "LocoFrames$Layout")) (fs := [.ref (G.2.2 0 0), .ref (G.2.2 0 1), .ref (G.2.2 9 0), .null, .null, .null]) F inlX5 tyX5 tyX5_ok nmX5 rfl (Or.inr (Or.inl ⟨rfl, rfl⟩)) (by simp [EC]) 3 (by decide) mFL_X5_26 (Or.inr ⟨rfl, hin, rfl⟩) (by decide +kernel) rfl rfl (Nat.le_of_ble_eq_true rfl) hA8 dX5_init_42 ?_
  refine n_mono (S' := SZ (XH 11) 2) (E' := EC G [.ref (G.2.2 0 0), .ref (G.2.2 0 1), .ref (G.2.2 9 0), .ref (G.2.2 11 0), .null, .null] 0) (fun K i h => ⟨h, ec_put⟩) ?_
  refine n_aload_n F 0 dX5_init_45 rfl rfl ?_
  refine n_iconst (v := 2) F dX5_init_46 (by decide) ?_
  refine n_newa (ty := .boolean) F rfl mAC_boolean 2 rfl (fun h => h) rfl (K := 12) (i := 0) (by decide) rfl (Nat.le_of_ble_eq_true rfl) (Nat.le_of_ble_eq_true rfl) (Nat.le_of_ble_eq_true rfl) (by decide) (by rw [ad_hi hG (by decide) (by decide)]) dX5_init_47 ?_
  refine n_mono (S' := SZ (XH 12) 2) (E' := EC G [.ref (G.2.2 0 0), .ref (G.2.2 0 1), .ref (G.2.2 9 0), .ref (G.2.2 11 0), .null, .null] 0) (fun K i h => ⟨?_, ec_one rfl⟩) ?_
  · unfold adS SZ XH at *
    omega
  refine n_put (ci := 5) (ty := .array .boolean) (fs := [.ref (G.2.2 0 0), .ref (G.2.2 0 1), .ref (G.2.2 9 0), .ref (G.2.2 11 0), .null, .null]) F inlX5 tyX5 tyX5_ok nmX5 rfl (Or.inr (Or.inl ⟨rfl, rfl⟩)) (by simp [EC]) 4 (by decide) mFL_X5_30 (Or.inr ⟨rfl, hin, rfl⟩) (by decide +kernel) rfl rfl (Nat.le_of_ble_eq_true rfl) hA8 dX5_init_49 ?_
  refine n_mono (S' := SZ (XH 12) 2) (E' := EC G [.ref (G.2.2 0 0), .ref (G.2.2 0 1), .ref (G.2.2 9 0), .ref (G.2.2 11 0), .ref (G.2.2 12 0), .null] 0) (fun K i h => ⟨h, ec_put⟩) ?_
  refine n_aload_n F 0 dX5_init_52 rfl rfl ?_
  refine n_new (K := 13) (i := 0) F inlX3 tyX3 tyX3_ok mCL_X5_34 mIS_RX3 mIN_RX3 (ci := 3) (fs := [.null, .int 0, .int 0, .int 0, .null, .int 0]) rfl (fun j hj => by rcases (show j = 0 ∨ j = 1 ∨ j = 2 ∨ j = 3 ∨ j = 4 ∨ j = 5 by omega) with rfl | rfl | rfl | rfl | rfl | rfl <;> rfl) (Nat.le_of_ble_eq_true rfl) (Nat.le_of_ble_eq_true rfl) (by decide) (by rw [ad_hi hG (by decide) (by decide)]) dX5_init_53 ?_
  refine n_dup F dX5_init_56 rfl ?_
  refine n_callN F (k_X3 hj (Or.inr ⟨rfl, rfl⟩) (by simp [upE]) (by rw [ad_hi hG (by decide) (by decide)]) (by rw [ad_hi hG (by decide) (by decide)])) (gw mCO_yX3_init) F.2.2.1.2.2.1 mIM_yX3_init mIN_RX3 rfl (Or.inr (by rw [ad_hi hG (by decide) (by decide)]; omega)) (fun q h => Or.inr (by omega)) (by decide +kernel) ⟨rfl, rfl, Nat.le_of_ble_eq_true rfl, Nat.le_of_ble_eq_true rfl, Nat.le_of_ble_eq_true rfl, Nat.le_of_ble_eq_true rfl, Nat.le_of_ble_eq_true rfl⟩ dX5_init_57 ?_
  refine n_mono (S' := SZ (XH 15) 2) (E' := EC G [.ref (G.2.2 0 0), .ref (G.2.2 0 1), .ref (G.2.2 9 0), .ref (G.2.2 11 0), .ref (G.2.2 12 0), .null] 0) (fun K i h => ⟨?_, ?_⟩) ?_
  · try dsimp only
    unfold adS SZ XH at *
    omega
  · try dsimp only
    by_cases q : (13 ≤ K ∧ K ≤ 15) ∧ i = 0
    · rw [if_pos q, ec_e0 (by omega) (by omega)]
    · rw [if_neg q]
      unfold upE
      rw [if_neg (by omega)]
  refine n_put (ci := 5) (ty := .object "LocoFrames$Pad") (fs := [.ref (G.2.2 0 0), .ref (G.2.2 0 1), .ref (G.2.2 9 0), .ref (G.2.2 11 0), .ref (G.2.2 12 0), .null]) F inlX5 tyX5 tyX5_ok nmX5 rfl (Or.inr (Or.inl ⟨rfl, rfl⟩)) (by simp [EC]) 5 (by decide) mFL_X5_37 (Or.inr ⟨rfl, hin, rfl⟩) (by decide +kernel) rfl rfl (Nat.le_of_ble_eq_true rfl) hA8 dX5_init_60 ?_
  refine n_mono (S' := SZ (XH 15) (2 + 0)) (E' := EC G [.ref (G.2.2 0 0), .ref (G.2.2 0 1), .ref (G.2.2 9 0), .ref (G.2.2 11 0), .ref (G.2.2 12 0), .ref (G.2.2 13 0)] 0) (fun K i h => ⟨h, ec_put⟩) ?_
  refine n_iconst (v := 0) F dX5_init_63 (by decide) ?_
  refine n_istore_n (L' := [(1, .int 0), (0, .ref (G.2.2 8 0))]) F dX5_init_64 rfl (by decide) rfl ?_
  refine n_sub [1, 0] rfl ?_
  exact LOOP 0 (Nat.zero_le _) _ rfl
end
section
/-! PART 71: what holds of every state: addresses rise, urgencies fall, counts keep their order -/
def Srt (n : Nat) (σ : Sg) : Prop := (∀ r, r < n → 1 ≤ (σ (16 + 11 * r)).toInt) ∧ ∀ r r', r < r' → r' < n → (σ (16 + 11 * r)).toInt < (σ (16 + 11 * r')).toInt
def Urg (h : Nat) (σ : Sg) : Prop := (∀ j, j < h → (σ (106 + 3 * j)).toInt ≤ 3) ∧ ∀ j j', j < j' → j' < h → (σ (106 + 3 * j')).toInt ≤ (σ (106 + 3 * j)).toInt
def Cnt (k : Nat) (σ : Sg) : Prop := 0 ≤ (σ 5).toInt ∧ (σ 5).toInt ≤ (σ 4).toInt ∧ (σ 4).toInt ≤ (σ 3).toInt ∧ (σ 3).toInt ≤ k ∧ 0 ≤ (σ 0).toInt ∧ (σ 0).toInt ≤ k
def Jw (n h k : Nat) (σ : Sg) : Prop := Iv n h σ ∧ Srt n σ ∧ Urg h σ ∧ Cnt k σ
theorem Srt.cong {n : Nat} {σ σ' : Sg} (S : Srt n σ) (e : ∀ r, r < n → σ' (16 + 11 * r) = σ (16 + 11 * r)) : Srt n σ' := ⟨fun r hr => by rw [e r hr]; exact S.1 r hr, fun r r' h h' => by rw [e r (by omega), e r' h']; exact S.2 r r' h h'⟩
theorem Urg.cong {h : Nat} {σ σ' : Sg} (U : Urg h σ) (e : ∀ j, j < h → σ' (106 + 3 * j) = σ (106 + 3 * j)) : Urg h σ' := ⟨fun j hj => by rw [e j hj]; exact U.1 j hj, fun j j' h h' => by rw [e j (by omega), e j' h']; exact U.2 j j' h h'⟩
theorem Cnt.cong {k : Nat} {σ σ' : Sg} (C : Cnt k σ) (e : ∀ i, i < 6 → i ≠ 1 → i ≠ 2 → σ' i = σ i) : Cnt k σ' := by
  unfold Cnt
  rw [e 5 (by decide) (by decide) (by decide), e 4 (by decide) (by decide) (by decide), e 3 (by decide) (by decide) (by decide), e 0 (by decide) (by decide) (by decide)]
  exact C
theorem Cnt.up {k k' : Nat} {σ : Sg} (C : Cnt k σ) (h : k ≤ k') : Cnt k' σ := by
  obtain ⟨c1, c2, c3, c4, c5, c6⟩ := C
  exact ⟨c1, c2, c3, by omega, c5, by omega⟩
theorem Jw.up {n h k k' : Nat} {σ : Sg} (J : Jw n h k σ) (hk : k ≤ k') : Jw n h k' σ := ⟨J.1, J.2.1, J.2.2.1, J.2.2.2.up hk⟩
theorem rk_S (σ : Sg) (a : Int32) (j : Nat) : rkS σ a (j + 1) = if rkS σ a j < j then rkS σ a j else if σ (16 + 11 * j) = a then j else j + 1 := rfl
theorem lpos_S (σ : Sg) (a : Int32) (j : Nat) : lposS σ a (j + 1) = if a < σ (16 + 11 * j) then lposS σ a j else j + 1 := rfl
theorem ipos_S (σ : Sg) (u : Int32) (j : Nat) : iposS σ u (j + 1) = if σ (104 + 3 * j + 2) < u then iposS σ u j else j + 1 := rfl
theorem rk_ne {σ : Sg} {a : Int32} : ∀ n, ¬ rkS σ a n < n → ∀ r, r < n → ¬ σ (16 + 11 * r) = a := by
  intro n
  induction n with
  | zero => exact fun _ r h => absurd h (Nat.not_lt_zero _)
  | succ n ih =>
    intro h r hr
    rw [rk_S] at h
    by_cases c1 : rkS σ a n < n
    · rw [if_pos c1] at h
      omega
    · rw [if_neg c1] at h
      by_cases c2 : σ (16 + 11 * n) = a
      · rw [if_pos c2] at h
        omega
      · by_cases e : r = n
        · rw [e]; exact c2
        · exact ih c1 r (by omega)
theorem Srt.rk {n k : Nat} {σ : Sg} (S : Srt n σ) (hk : k < n) : rkS σ (σ (16 + 11 * k)) n = k := rk_some (fun r hr e => by
  have := S.2 r k hr hk
  rw [e] at this
  omega) rfl n hk
theorem lpos_hi (σ : Sg) (a : Int32) : ∀ n r, lposS σ a n ≤ r → r < n → a < σ (16 + 11 * r) := by
  intro n
  induction n with
  | zero => exact fun r _ h => absurd h (Nat.not_lt_zero _)
  | succ n ih =>
    intro r h1 h2
    rw [lpos_S] at h1
    by_cases q : a < σ (16 + 11 * n)
    · rw [if_pos q] at h1
      by_cases e : r = n
      · rw [e]; exact q
      · exact ih r h1 (by omega)
    · rw [if_neg q] at h1
      omega
theorem lpos_lo (σ : Sg) (a : Int32) : ∀ n p, lposS σ a n = p + 1 → ¬ a < σ (16 + 11 * p) := by
  intro n
  induction n with
  | zero => exact fun p h => Nat.noConfusion (h : 0 = p + 1)
  | succ n ih =>
    intro p h
    rw [lpos_S] at h
    by_cases q : a < σ (16 + 11 * n)
    · rw [if_pos q] at h
      exact ih p h
    · rw [if_neg q] at h
      obtain rfl : n = p := by omega
      exact q
theorem ipos_hi (σ : Sg) (u : Int32) : ∀ n r, iposS σ u n ≤ r → r < n → σ (104 + 3 * r + 2) < u := by
  intro n
  induction n with
  | zero => exact fun r _ h => absurd h (Nat.not_lt_zero _)
  | succ n ih =>
    intro r h1 h2
    rw [ipos_S] at h1
    by_cases q : σ (104 + 3 * n + 2) < u
    · rw [if_pos q] at h1
      by_cases e : r = n
      · rw [e]; exact q
      · exact ih r h1 (by omega)
    · rw [if_neg q] at h1
      omega
theorem ipos_lo (σ : Sg) (u : Int32) : ∀ n p, iposS σ u n = p + 1 → ¬ σ (104 + 3 * p + 2) < u := by
  intro n
  induction n with
  | zero => exact fun p h => Nat.noConfusion (h : 0 = p + 1)
  | succ n ih =>
    intro p h
    rw [ipos_S] at h
    by_cases q : σ (104 + 3 * n + 2) < u
    · rw [if_pos q] at h
      exact ih p h
    · rw [if_neg q] at h
      obtain rfl : n = p := by omega
      exact q
theorem add_at {n : Nat} {a b c d : Int32} {σ : Sg} {r f : Nat} (hr : r < n + 1) (hf : f < 11) : addS n a b c d σ (16 + 11 * r + f) = if r < lposS σ a n then σ (16 + 11 * r + f) else if r = lposS σ a n then newF a b c d f else σ (16 + 11 * (r - 1) + f) := by
  have hp := lposS_le σ a n
  unfold addS
  rw [if_neg (by omega), if_pos (by omega), show (16 + 11 * r + f - 16) / 11 = r by omega, show (16 + 11 * r + f - 16) % 11 = f by omega]
  by_cases c1 : r < lposS σ a n
  · rw [if_pos c1, if_pos c1]
  · rw [if_neg c1, if_neg c1]
    by_cases c2 : r = lposS σ a n
    · rw [if_pos c2, if_pos c2]
    · rw [if_neg c2, if_neg c2]
      congr 1
      omega
theorem add_out {n i : Nat} {a b c d : Int32} {σ : Sg} (hn : n < 8) (h : i < 16 ∨ 104 ≤ i) (h6 : i ≠ 6) : addS n a b c d σ i = σ i := by
  unfold addS
  rw [if_neg h6, if_neg (by omega)]
theorem lif_at {n p r f : Nat} {σ : Sg} (hp : p < n) (hr : r < n - 1) (hf : f < 11) : lifS n p σ (16 + 11 * r + f) = if r < p then σ (16 + 11 * r + f) else σ (16 + 11 * (r + 1) + f) := by
  unfold lifS
  by_cases c1 : r < p
  · rw [if_pos c1, if_neg (by omega), if_neg (by omega), if_neg (by omega)]
  · rw [if_neg c1, if_neg (by omega), if_pos (by omega)]
    congr 1
    omega
theorem lif_out {n p i : Nat} {σ : Sg} (hn : n ≤ 8) (h : i < 16 ∨ 104 ≤ i) (h6 : i ≠ 6) (hp : p < n) : lifS n p σ i = σ i := by
  unfold lifS
  rw [if_neg h6, if_neg (by omega), if_neg (by omega)]
theorem Srt.add {n : Nat} {a b c d : Int32} {σ : Sg} (S : Srt n σ) (ha : 1 ≤ a.toInt) (hne : ∀ r, r < n → ¬ σ (16 + 11 * r) = a) : Srt (n + 1) (addS n a b c d σ) := by
  have at0 : ∀ r, r < n + 1 → addS n a b c d σ (16 + 11 * r) = if r < lposS σ a n then σ (16 + 11 * r) else if r = lposS σ a n then a else σ (16 + 11 * (r - 1)) := fun r hr => add_at (f := 0) hr (by decide)
  have hp := lposS_le σ a n
  have lo : ∀ r, r < lposS σ a n → (σ (16 + 11 * r)).toInt < a.toInt := by
    intro r hr
    obtain ⟨p, ep⟩ : ∃ p, lposS σ a n = p + 1 := ⟨lposS σ a n - 1, by omega⟩
    have h1 := i_le.mp (Int32.not_lt.mp (lpos_lo σ a n p ep))
    have h2 : (σ (16 + 11 * r)).toInt ≤ (σ (16 + 11 * p)).toInt := by
      by_cases e : r = p
      · rw [e]; exact Int.le_refl _
      · have := S.2 r p (by omega) (by omega)
        omega
    have h3 : ¬ (σ (16 + 11 * r)).toInt = a.toInt := fun e => hne r (by omega) (i_eq.mpr e)
    omega
  have hi : ∀ r, lposS σ a n ≤ r → r < n → a.toInt < (σ (16 + 11 * r)).toInt := fun r h1 h2 => i_lt.mp (lpos_hi σ a n r h1 h2)
  refine ⟨fun r hr => ?_, fun r r' h h' => ?_⟩
  · rw [at0 r hr]
    by_cases c1 : r < lposS σ a n
    · rw [if_pos c1]; exact S.1 r (by omega)
    · rw [if_neg c1]
      by_cases c2 : r = lposS σ a n
      · rw [if_pos c2]; exact ha
      · rw [if_neg c2]; exact S.1 (r - 1) (by omega)
  · rw [at0 r (by omega), at0 r' h']
    by_cases c1 : r < lposS σ a n
    · rw [if_pos c1]
      by_cases c2 : r' < lposS σ a n
      · rw [if_pos c2]; exact S.2 r r' h (by omega)
      · rw [if_neg c2]
        by_cases c3 : r' = lposS σ a n
        · rw [if_pos c3]; exact lo r c1
        · rw [if_neg c3]; exact S.2 r (r' - 1) (by omega) (by omega)
    · rw [if_neg c1, if_neg (show ¬ r' < lposS σ a n by omega), if_neg (show ¬ r' = lposS σ a n by omega)]
      by_cases c2 : r = lposS σ a n
      · rw [if_pos c2]; exact hi (r' - 1) (by omega) (by omega)
      · rw [if_neg c2]; exact S.2 (r - 1) (r' - 1) (by omega) (by omega)
theorem Srt.lift {n p : Nat} {σ : Sg} (S : Srt n σ) (hp : p < n) : Srt (n - 1) (lifS n p σ) := by
  have at0 : ∀ r, r < n - 1 → lifS n p σ (16 + 11 * r) = if r < p then σ (16 + 11 * r) else σ (16 + 11 * (r + 1)) := fun r hr => lif_at (f := 0) hp hr (by decide)
  refine ⟨fun r hr => ?_, fun r r' h h' => ?_⟩
  · rw [at0 r hr]
    split
    · exact S.1 r (by omega)
    · exact S.1 (r + 1) (by omega)
  · rw [at0 r (by omega), at0 r' h']
    by_cases c1 : r < p
    · rw [if_pos c1]
      by_cases c2 : r' < p
      · rw [if_pos c2]; exact S.2 r r' h (by omega)
      · rw [if_neg c2]; exact S.2 r (r' + 1) (by omega) (by omega)
    · rw [if_neg c1, if_neg (show ¬ r' < p by omega)]
      exact S.2 (r + 1) (r' + 1) (by omega) (by omega)
theorem Urg.ord {h : Nat} {a d t : Int32} {σ : Sg} (U : Urg h σ) (ht : t.toInt ≤ 3) : Urg (h + 1) (ordS h a d t σ) := by
  have at2 : ∀ j, j < h + 1 → ordS h a d t σ (106 + 3 * j) = if j < iposS σ t h then σ (106 + 3 * j) else if j = iposS σ t h then t else σ (106 + 3 * (j - 1)) := by
    intro j hj
    have o2 := ord_at (a := a) (d := d) (t := t) (σ := σ) hj (show 2 < 3 by decide)
    rw [show 106 + 3 * j = 104 + 3 * j + 2 by omega, o2]
    by_cases c1 : j < iposS σ t h
    · rw [if_pos c1, if_pos c1]
    · rw [if_neg c1, if_neg c1]
      by_cases c2 : j = iposS σ t h
      · rw [if_pos c2, if_pos c2, if_neg (by decide), if_neg (by decide)]
      · rw [if_neg c2, if_neg c2]
        congr 1
        omega
  have hp := iposS_le σ t h
  have lo : ∀ r, r < iposS σ t h → t.toInt ≤ (σ (106 + 3 * r)).toInt := by
    intro r hr
    obtain ⟨p, ep⟩ : ∃ p, iposS σ t h = p + 1 := ⟨iposS σ t h - 1, by omega⟩
    have h1 := i_le.mp (Int32.not_lt.mp (ipos_lo σ t h p ep))
    rw [show 104 + 3 * p + 2 = 106 + 3 * p by omega] at h1
    by_cases e : r = p
    · rw [e]; exact h1
    · have := U.2 r p (by omega) (by omega)
      omega
  have hi : ∀ r, iposS σ t h ≤ r → r < h → (σ (106 + 3 * r)).toInt < t.toInt := fun r h1 h2 => by
    have := i_lt.mp (ipos_hi σ t h r h1 h2)
    rw [show 104 + 3 * r + 2 = 106 + 3 * r by omega] at this
    exact this
  refine ⟨fun r hr => ?_, fun r r' h h' => ?_⟩
  · rw [at2 r hr]
    by_cases c1 : r < iposS σ t h
    · rw [if_pos c1]; exact U.1 r (by omega)
    · rw [if_neg c1]
      by_cases c2 : r = iposS σ t h
      · rw [if_pos c2]; exact ht
      · rw [if_neg c2]; exact U.1 (r - 1) (by omega)
  · rename_i hh
    rw [at2 r (by omega), at2 r' h']
    by_cases c1 : r < iposS σ t hh
    · rw [if_pos c1]
      by_cases c2 : r' < iposS σ t hh
      · rw [if_pos c2]; exact U.2 r r' h (by omega)
      · rw [if_neg c2]
        by_cases c3 : r' = iposS σ t hh
        · rw [if_pos c3]; exact lo r c1
        · rw [if_neg c3]; exact U.2 r (r' - 1) (by omega) (by omega)
    · rw [if_neg c1, if_neg (show ¬ r' < iposS σ t hh by omega), if_neg (show ¬ r' = iposS σ t hh by omega)]
      by_cases c2 : r = iposS σ t hh
      · rw [if_pos c2]; exact Int.le_of_lt (hi (r' - 1) (by omega) (by omega))
      · rw [if_neg c2]; exact U.2 (r - 1) (r' - 1) (by omega) (by omega)
/-- places that hearing leaves as they are -/
theorem hear_keep {σ : Sg} {r i : Nat} {d : Int32} (h : ¬ (21 + 11 * r ≤ i ∧ i ≤ 25 + 11 * r)) : hearS r d σ i = σ i := by
  unfold hearS
  have n9 : i ≠ 16 + 11 * r + 9 := by omega
  have n6 : i ≠ 16 + 11 * r + 6 := by omega
  have n7 : i ≠ 16 + 11 * r + 7 := by omega
  have n5 : i ≠ 16 + 11 * r + 5 := by omega
  have n8 : i ≠ 16 + 11 * r + 8 := by omega
  split
  · rw [upd_n n5, upd_n n6, upd_n n9]
  · split
    · rw [upd_n n8, upd_n n9]
    · split
      · rw [upd_n n7, upd_n n6, upd_n n9]
      · rw [upd_n n9]
theorem cml_keep {a d : Int32} {i : Nat} {q : Sg × Int32} : ∀ j, (∀ r, r < j → ¬ (21 + 11 * r ≤ i ∧ i ≤ 25 + 11 * r)) → (cmL a d j q).1 i = q.1 i := by
  intro j
  induction j with
  | zero => exact fun _ => rfl
  | succ j ih =>
    intro h
    show (cmStep a d j (cmL a d j q)).1 i = q.1 i
    unfold cmStep
    split
    · show hearS j d (cmL a d j q).1 i = q.1 i
      rw [hear_keep (h j (by omega)), ih (fun r hr => h r (by omega))]
    · exact ih (fun r hr => h r (by omega))
theorem com_keep {n i : Nat} {a d c : Int32} {σ : Sg} (h3 : i ≠ 3) (h4 : i ≠ 4) (h : ∀ r, r < n → ¬ (21 + 11 * r ≤ i ∧ i ≤ 25 + 11 * r)) : (comS n a d c σ).1 i = σ i := by
  unfold comS
  split
  · rw [cml_keep n h]
    exact upd_n h3
  · show upd (upd σ 3 (σ 3 + 1)) 4 (σ 4 + 1) i = σ i
    rw [upd_n h4, upd_n h3]
theorem com_3 {n : Nat} {a d c : Int32} {σ : Sg} : (comS n a d c σ).1 3 = σ 3 + 1 := by
  unfold comS
  split
  · rw [cml_keep n (fun r _ => by omega)]
    show upd σ 3 (σ 3 + 1) 3 = _
    exact upd_s
  · show upd (upd σ 3 (σ 3 + 1)) 4 (σ 4 + 1) 3 = _
    rw [upd_n (by decide), upd_s]
theorem com_4 {n : Nat} {a d c : Int32} {σ : Sg} : (comS n a d c σ).1 4 = if c = a ^^^ d then σ 4 else σ 4 + 1 := by
  unfold comS
  by_cases q : c = a ^^^ d
  · rw [if_pos q, if_pos q, cml_keep n (fun r _ => by omega)]
    show upd σ 3 (σ 3 + 1) 4 = _
    exact upd_n (by decide)
  · rw [if_neg q, if_neg q]
    show upd (upd σ 3 (σ 3 + 1)) 4 (σ 4 + 1) 4 = _
    exact upd_s
theorem Cnt.com {n k : Nat} {a d c : Int32} {σ : Sg} (C : Cnt k σ) (hk : k < 1000000) : Cnt (k + 1) (comS n a d c σ).1 := by
  obtain ⟨c1, c2, c3, c4, c5, c6⟩ := C
  have e1 : (1 : Int32).toInt = 1 := rfl
  have a3 : (σ 3 + 1).toInt = (σ 3).toInt + 1 := Kit.i32_add (by omega) (by omega)
  have a4 : (σ 4 + 1).toInt = (σ 4).toInt + 1 := Kit.i32_add (by omega) (by omega)
  unfold Cnt
  rw [com_3, com_4, com_keep (i := 5) (by decide) (by decide) (fun r _ => by omega), com_keep (i := 0) (by decide) (by decide) (fun r _ => by omega), a3]
  split
  · exact ⟨c1, c2, by omega, by omega, c5, by omega⟩
  · rw [a4]
    exact ⟨c1, by omega, by omega, by omega, c5, by omega⟩
theorem Srt.com {n : Nat} {a d c : Int32} {σ : Sg} (S : Srt n σ) : Srt n (comS n a d c σ).1 := S.cong (fun r _ => com_keep (by omega) (by omega) (fun r' _ => by omega))
theorem Urg.com {n h : Nat} {a d c : Int32} {σ : Sg} (U : Urg h σ) (hn : n ≤ 8) : Urg h (comS n a d c σ).1 := U.cong (fun j _ => com_keep (by omega) (by omega) (fun r' _ => by omega))
theorem drop_at {h j w : Nat} {σ : Sg} (hj : j + 1 < h) (hw : w < 3) : dropS h σ (104 + 3 * j + w) = σ (104 + 3 * (j + 1) + w) := by
  unfold dropS
  rw [if_neg (by omega), if_pos (by omega)]
  congr 1
  omega
theorem Urg.drop {h : Nat} {σ : Sg} (U : Urg h σ) : Urg (h - 1) (dropS h σ) := by
  have at2 : ∀ j, j < h - 1 → dropS h σ (106 + 3 * j) = σ (106 + 3 * (j + 1)) := by
    intro j hj
    have := drop_at (σ := σ) (h := h) (j := j) (w := 2) (by omega) (by decide)
    rw [show 106 + 3 * j = 104 + 3 * j + 2 by omega, show 106 + 3 * (j + 1) = 104 + 3 * (j + 1) + 2 by omega]
    exact this
  refine ⟨fun r hr => ?_, fun r r' h1 h' => ?_⟩
  · rw [at2 r hr]; exact U.1 (r + 1) (by omega)
  · rw [at2 r (by omega), at2 r' h']; exact U.2 (r + 1) (r' + 1) (by omega) (by omega)
theorem spoil_out {h i : Nat} {σ : Sg} (h2 : i ≠ 2) (h5 : i ≠ 5) : spoilS σ h i = dropS h σ i := by
  unfold spoilS
  split
  · rw [upd_n h5, upd_n h2]
  · rfl
theorem chk_ne {σ : Sg} (h0 : 0 ≤ (σ 104).toInt ∧ (σ 104).toInt ≤ 99) (h1 : 0 ≤ (σ 105).toInt ∧ (σ 105).toInt ≤ 255) (hs : 0 < σ 1 ∧ σ 1 ≤ σ 2) : ¬ chkS σ = σ 104 ^^^ σ 105 := by
  have e0 := nat_of h0.1
  have e1 := nat_of h1.1
  have hx : (σ 104).toInt.toNat ^^^ (σ 105).toInt.toNat < 2 ^ 8 := Nat.xor_lt_two_pow (by omega) (by omega)
  have ex : σ 104 ^^^ σ 105 = nI ((σ 104).toInt.toNat ^^^ (σ 105).toInt.toNat) := by rw [← nx_xor, ← e0, ← e1]
  have e2 : ((σ 104 ^^^ σ 105) + 1) % 256 = nI ((((σ 104).toInt.toNat ^^^ (σ 105).toInt.toNat) + 1) % 256) := nx_rem (nx_add ex (b := 1) rfl) (b := 256) rfl (by omega) (by decide) (by decide)
  unfold chkS
  rw [if_pos hs, e2, ex]
  intro q
  have := (nI_eq (by omega) (by omega)).mp q
  omega
/-- the sending, place by place -/
theorem send_lo {n h i : Nat} {σ : Sg} (hi : i < 104) (h2 : i ≠ 2) (h3 : i ≠ 3) (h4 : i ≠ 4) (h5 : i ≠ 5) (h7 : i ≠ 7) (hk : ∀ r, r < n → ¬ (21 + 11 * r ≤ i ∧ i ≤ 25 + 11 * r)) : (sendS n h σ).1 i = σ i := by
  unfold sendS
  split
  · rfl
  · show (comS n (σ 104) (σ 105) (chkS σ) (spoilS σ h)).1 i = σ i
    rw [com_keep h3 h4 hk, spoil_out h2 h5, drop_lo hi h7]
theorem Jw.send {n h k : Nat} {σ : Sg} (J : Jw n h k σ) (hk : k < 1000000) : Jw n (h - 1) (k + 1) (sendS n h σ).1 := by
  obtain ⟨V, S, U, C⟩ := J
  have hn8 := V.2.1
  refine ⟨V.send, S.cong (fun r hr => send_lo (by omega) (by omega) (by omega) (by omega) (by omega) (by omega) (fun r' _ => by omega)), ?_, ?_⟩
  · unfold sendS
    split
    · rename_i e
      subst e
      exact U
    · exact ((U.drop.cong (fun j hj => spoil_out (by omega) (by omega))) : Urg (h - 1) (spoilS σ h)).com hn8
  · unfold sendS
    split
    · exact C.up (by omega)
    · rename_i e
      have b := V.2.2.2.2.2.2.2 0 (by omega)
      have e1 : (1 : Int32).toInt = 1 := rfl
      have d5 : ∀ i, i < 6 → dropS h σ i = σ i := fun i hi => drop_lo (by omega) (by omega)
      by_cases q : 0 < σ 1 ∧ σ 1 ≤ σ 2
      · have hc := chk_ne b.1 b.2 q
        obtain ⟨c1, c2, c3, c4, c5, c6⟩ := C
        have a3 : (σ 3 + 1).toInt = (σ 3).toInt + 1 := Kit.i32_add (by omega) (by omega)
        have a4 : (σ 4 + 1).toInt = (σ 4).toInt + 1 := Kit.i32_add (by omega) (by omega)
        have a5 : (σ 5 + 1).toInt = (σ 5).toInt + 1 := Kit.i32_add (by omega) (by omega)
        have s5 : spoilS σ h 5 = σ 5 + 1 := by unfold spoilS; rw [if_pos q, upd_s]
        show Cnt (k + 1) (comS n (σ 104) (σ 105) (chkS σ) (spoilS σ h)).1
        unfold Cnt
        rw [com_3, com_4, if_neg hc, com_keep (i := 5) (by decide) (by decide) (fun r _ => by omega), com_keep (i := 0) (by decide) (by decide) (fun r _ => by omega), s5, spoil_out (i := 3) (by decide) (by decide), spoil_out (i := 4) (by decide) (by decide), spoil_out (i := 0) (by decide) (by decide), d5 3 (by decide), d5 4 (by decide), d5 0 (by decide), a3, a4, a5]
        exact ⟨by omega, by omega, by omega, by omega, c5, by omega⟩
      · have es : spoilS σ h = dropS h σ := by unfold spoilS; rw [if_neg q]
        show Cnt (k + 1) (comS n (σ 104) (σ 105) (chkS σ) (spoilS σ h)).1
        rw [es]
        exact (C.cong (fun i hi _ _ => d5 i hi)).com hk
theorem send_0 {n h : Nat} {σ : Sg} : (sendS n h σ).1 0 = σ 0 := send_lo (by decide) (by decide) (by decide) (by decide) (by decide) (by decide) (fun r _ => by omega)
theorem tick_out {n h i : Nat} {σ : Sg} (h0 : i ≠ 0) (h2 : i ≠ 2) (hs : i < 8 ∨ 16 ≤ i) : tickS n h σ i = drvS n (sendS n h σ).1 i := by
  unfold tickS bothS
  rw [upd_n h2, upd_n h0, sho_out hs]
theorem drv_addr {n r : Nat} {σ : Sg} : drvS n σ (16 + 11 * r) = σ (16 + 11 * r) := by
  by_cases hr : r < n
  · have := drv_at (σ := σ) hr (show 0 < 11 by decide)
    rw [Nat.add_zero] at this
    rw [this, if_neg (by decide), if_neg (by decide), if_neg (by decide), if_neg (by decide)]
  · exact drv_out (Or.inr (by omega))
theorem Jw.tick {n h k : Nat} {σ : Sg} (J : Jw n h k σ) (hk : k < 1000000) : Jw n (h - 1) (k + 1) (tickS n h σ) := by
  have V := J.1
  have hn8 := V.2.1
  have J1 := J.send hk
  obtain ⟨-, S, U, c1, c2, c3, c4, c5, c6⟩ := J1
  have lo : ∀ i, i < 6 → i ≠ 0 → i ≠ 2 → tickS n h σ i = (sendS n h σ).1 i := fun i hi h0 h2 => by rw [tick_out h0 h2 (Or.inl (by omega)), drv_out (Or.inl (by omega))]
  refine ⟨V.tick, S.cong (fun r hr => by rw [tick_out (by omega) (by omega) (Or.inr (by omega)), drv_addr]), U.cong (fun j hj => by rw [tick_out (by omega) (by omega) (Or.inr (by omega)), drv_out (Or.inr (by omega))]), ?_⟩
  have e0 : tickS n h σ 0 = σ 0 + 1 := by
    unfold tickS bothS
    rw [upd_n (by decide), upd_s, sho_out (by omega), drv_out (by omega), send_0]
  have e1 : (1 : Int32).toInt = 1 := rfl
  have d5 := J.2.2.2.2.2.2.2.1
  have d6 := J.2.2.2.2.2.2.2.2
  have a0 : (σ 0 + 1).toInt = (σ 0).toInt + 1 := Kit.i32_add (by omega) (by omega)
  unfold Cnt
  rw [lo 5 (by decide) (by decide) (by decide), lo 4 (by decide) (by decide) (by decide), lo 3 (by decide) (by decide) (by decide), e0, a0]
  exact ⟨c1, c2, c3, c4, by omega, by omega⟩
theorem Jw.it {n h k : Nat} {σ : Sg} (J : Jw n h k σ) : ∀ m, k + m < 1000000 → Jw n (h - m) (k + m) (itS n h σ m).1 := by
  intro m
  induction m with
  | zero => exact fun _ => J
  | succ m ih =>
    intro hm
    have := (ih (by omega)).tick (by omega)
    rw [Nat.sub_sub] at this
    exact this
end
section
/-! PART 72: what the law looks at, of the row s alone -/
def Jv (k : Nat) (σ : Sg) : Prop := Jw (nof σ) (hof σ) k σ
theorem Jw.v {n h k : Nat} {σ : Sg} (J : Jw n h k σ) : Jv k σ := by
  unfold Jv
  rw [J.1.nofe, J.1.hofe]
  exact J
theorem Jv.up {k k' : Nat} {σ : Sg} (J : Jv k σ) (h : k ≤ k') : Jv k' σ := Jw.up J h
theorem ord_lo {h i : Nat} {a d t : Int32} {σ : Sg} (hi : i < 104) (h7 : i ≠ 7) : ordS h a d t σ i = σ i := by
  unfold ordS
  rw [if_neg h7, if_neg (by omega)]
theorem locoR.J {k : Nat} {a b c d : Int32} {σ : Sg} {q : Int32 × Sg} (J : Jv k σ) (H : locoR a b c d σ q) : Jv k q.2 := by
  rcases H with ⟨-, rfl⟩ | ⟨-, -, rfl⟩ | ⟨-, -, -, rfl⟩ | ⟨hb, hr, h8, rfl⟩
  · exact J
  · exact J
  · exact J
  · obtain ⟨V, S, U, C⟩ := J
    have ha : 1 ≤ a.toInt := i_le.mp hb.1.1
    exact Jw.v (n := nof σ + 1) (h := hof σ) ⟨V.add h8 hb, S.add ha (rk_ne _ hr), U.cong (fun j _ => add_out h8 (by omega) (by omega)), C.cong (fun i hi _ _ => add_out h8 (by omega) (by omega))⟩
theorem liftR.J {k : Nat} {a : Int32} {σ : Sg} {q : Int32 × Sg} (J : Jv k σ) (H : liftR a σ q) : Jv k q.2 := by
  rcases H with ⟨-, rfl⟩ | ⟨hr, rfl⟩
  · exact J
  · obtain ⟨V, S, U, C⟩ := J
    have h8 := V.2.1
    exact Jw.v (n := nof σ - 1) (h := hof σ) ⟨V.lift hr, S.lift hr, U.cong (fun j _ => lif_out h8 (by omega) (by omega) hr), C.cong (fun i hi _ _ => lif_out h8 (by omega) (by omega) hr)⟩
theorem noiseR.J {k : Nat} {x : Int32} {σ : Sg} {q : Int32 × Sg} (J : Jv k σ) (H : noiseR x σ q) : Jv k q.2 := by
  rcases H with ⟨-, rfl⟩ | ⟨hx, rfl⟩
  · exact J
  · obtain ⟨V, S, U, C⟩ := J
    exact Jw.v (n := nof σ) (h := hof σ) ⟨V.noise hx, S.cong (fun r _ => upd_n (by omega)), U.cong (fun j _ => upd_n (by omega)), C.cong (fun i _ h1 _ => upd_n h1)⟩
theorem ordR.J {k : Nat} {a d t : Int32} {σ : Sg} {q : Int32 × Sg} (J : Jv k σ) (H : ordR a d t σ q) : Jv k q.2 := by
  rcases H with ⟨-, rfl⟩ | ⟨-, -, rfl⟩ | ⟨hb, hh, rfl⟩
  · exact J
  · exact J
  · obtain ⟨V, S, U, C⟩ := J
    have h8 := V.2.1
    have ht : t.toInt ≤ 3 := i_le.mp hb.2.2.2
    exact Jw.v (n := nof σ) (h := hof σ + 1) ⟨V.ord hh hb, S.cong (fun r _ => ord_lo (by omega) (by omega)), U.ord ht, C.cong (fun i hi _ _ => ord_lo (by omega) (by omega))⟩
theorem frmR.J {k : Nat} {a d c : Int32} {σ : Sg} {q : Int32 × Sg} (J : Jv k σ) (hk : k < 900000) (H : frmR a d c σ q) : Jv (k + 100) q.2 := by
  rcases H with ⟨-, rfl⟩ | ⟨hb, rfl⟩
  · exact J.up (by omega)
  · obtain ⟨V, S, U, C⟩ := J
    have h8 := V.2.1
    exact (Jw.v (n := nof σ) (h := hof σ) ⟨V.com ⟨i_le.mp hb.2.1.1, i_le.mp hb.2.1.2⟩, S.com, U.com h8, C.com (by omega)⟩ : Jv (k + 1) _).up (by omega)
theorem shoR.J {k : Nat} {b t : Int32} {σ : Sg} {q : Int32 × Sg} (J : Jv k σ) (H : shoR b t σ q) : Jv k q.2 := by
  rcases H with ⟨-, rfl⟩ | ⟨-, -, rfl⟩ | ⟨hb, ht, rfl⟩
  · exact J
  · exact J
  · obtain ⟨V, S, U, C⟩ := J
    have hr := rng (M := 7) (m := 7) rfl hb.1 hb.2
    have h7 := hr.1
    exact Jw.v (n := nof σ) (h := hof σ) ⟨V.short (by omega) ht, S.cong (fun r _ => upd_n (by omega)), U.cong (fun j _ => upd_n (by omega)), C.cong (fun i _ h1 _ => upd_n (by omega))⟩
theorem pasR.J {k : Nat} {x : Int32} {σ : Sg} {q : Int32 × Sg} (J : Jv k σ) (hk : k < 900000) (H : pasR x σ q) : Jv (k + 100) q.2 := by
  rcases H with ⟨-, rfl⟩ | ⟨-, -, rfl⟩ | ⟨hb, -, rfl⟩
  · exact J.up (by omega)
  · exact J.up (by omega)
  · have hr := rng (x := x) (M := 99) (m := 99) rfl (Int32.le_trans (by decide) hb.1) hb.2
    have h9 := hr.1
    exact ((Jw.it J x.toInt.toNat (by omega)).v : Jv (k + x.toInt.toNat) _).up (by omega)
/-- the law's own numbers -/
def lowF (v n : Int32) : Int32 := (v &&& 2147483647) % n
def adF (v : Int32) : Int32 := lowF (v >>> (4 &&& 31)) (if ¬ v >>> (20 &&& 31) &&& 7 = 0 then 9 else 101)
def dtF (w : Int32) : Int32 := if 0 < w &&& 3 then lowF (w >>> (2 &&& 31)) 29 + (128 : Int32) * (w >>> (8 &&& 31) &&& 1) else lowF (w >>> (2 &&& 31)) 258
def ckF (v w : Int32) : Int32 := if w >>> (20 &&& 31) &&& 3 = 0 then lowF (w >>> (3 &&& 31)) 256 else (adF v ^^^ dtF w) &&& 255
def ptF (w : Int32) : Int32 := lowF w (if ¬ w >>> (8 &&& 31) &&& 3 = 0 then 12 else 101)
def resR (w : Int32) (σ s0 : Sg) (q : Int32 × Sg) : Prop := (w &&& 1 = 0 ∧ q = (s0 6, s0)) ∨ (w &&& 1 = 1 ∧ q = (-5, σ))
def actR (v w : Int32) (σ s0 : Sg) (q : Int32 × Sg) : Prop :=
  if v &&& 15 = 0 ∨ v &&& 15 = 1 ∨ v &&& 15 = 2 then locoR (adF v) (lowF w 21) (lowF (w >>> (5 &&& 31)) 4) (lowF (w >>> (7 &&& 31)) 801) σ q
  else if v &&& 15 = 3 then (if w &&& 3 = 0 then liftR (adF v) σ q else noiseR (lowF (w >>> (2 &&& 31)) 11) σ q)
  else if v &&& 15 = 4 ∨ v &&& 15 = 5 ∨ v &&& 15 = 6 then ordR (adF v) (dtF w) (lowF (w >>> (20 &&& 31)) 4) σ q
  else if v &&& 15 = 7 ∨ v &&& 15 = 8 then frmR (adF v) (dtF w) (ckF v w) σ q
  else if v &&& 15 = 9 then shoR (lowF w 9) (lowF (w >>> (4 &&& 31)) 20) σ q
  else if v &&& 15 = 10 then resR w σ s0 q
  else pasR (ptF w) σ q
theorem locoR.fn {a b c d : Int32} {σ : Sg} {q q' : Int32 × Sg} (H : locoR a b c d σ q) (H' : locoR a b c d σ q') : q = q' := by
  rcases H with ⟨k0, rfl⟩ | ⟨k0, k1, rfl⟩ | ⟨k0, k1, k2, rfl⟩ | ⟨k0, k1, k2, rfl⟩
  all_goals
    rcases H' with ⟨y0, rfl⟩ | ⟨y0, y1, rfl⟩ | ⟨y0, y1, y2, rfl⟩ | ⟨y0, y1, y2, rfl⟩
    all_goals first
    | rfl
    | contradiction
    | omega
theorem liftR.fn {a : Int32} {σ : Sg} {q q' : Int32 × Sg} (H : liftR a σ q) (H' : liftR a σ q') : q = q' := by
  rcases H with ⟨k0, rfl⟩ | ⟨k0, rfl⟩
  all_goals
    rcases H' with ⟨y0, rfl⟩ | ⟨y0, rfl⟩
    all_goals first
    | rfl
    | contradiction
    | omega
theorem noiseR.fn {x : Int32} {σ : Sg} {q q' : Int32 × Sg} (H : noiseR x σ q) (H' : noiseR x σ q') : q = q' := by
  rcases H with ⟨k0, rfl⟩ | ⟨k0, rfl⟩
  all_goals
    rcases H' with ⟨y0, rfl⟩ | ⟨y0, rfl⟩
    all_goals first
    | rfl
    | contradiction
    | omega
theorem ordR.fn {a d t : Int32} {σ : Sg} {q q' : Int32 × Sg} (H : ordR a d t σ q) (H' : ordR a d t σ q') : q = q' := by
  rcases H with ⟨k0, rfl⟩ | ⟨k0, k1, rfl⟩ | ⟨k0, k1, rfl⟩
  all_goals
    rcases H' with ⟨y0, rfl⟩ | ⟨y0, y1, rfl⟩ | ⟨y0, y1, rfl⟩
    all_goals first
    | rfl
    | contradiction
    | omega
theorem frmR.fn {a d c : Int32} {σ : Sg} {q q' : Int32 × Sg} (H : frmR a d c σ q) (H' : frmR a d c σ q') : q = q' := by
  rcases H with ⟨k0, rfl⟩ | ⟨k0, rfl⟩
  all_goals
    rcases H' with ⟨y0, rfl⟩ | ⟨y0, rfl⟩
    all_goals first
    | rfl
    | contradiction
    | omega
theorem shoR.fn {b t : Int32} {σ : Sg} {q q' : Int32 × Sg} (H : shoR b t σ q) (H' : shoR b t σ q') : q = q' := by
  rcases H with ⟨k0, rfl⟩ | ⟨k0, k1, rfl⟩ | ⟨k0, k1, rfl⟩
  all_goals
    rcases H' with ⟨y0, rfl⟩ | ⟨y0, y1, rfl⟩ | ⟨y0, y1, rfl⟩
    all_goals first
    | rfl
    | contradiction
    | omega
theorem pasR.fn {x : Int32} {σ : Sg} {q q' : Int32 × Sg} (H : pasR x σ q) (H' : pasR x σ q') : q = q' := by
  rcases H with ⟨k0, rfl⟩ | ⟨k0, k1, rfl⟩ | ⟨k0, k1, rfl⟩
  all_goals
    rcases H' with ⟨y0, rfl⟩ | ⟨y0, y1, rfl⟩ | ⟨y0, y1, rfl⟩
    all_goals first
    | rfl
    | contradiction
    | omega
theorem resR.fn {w : Int32} {σ s0 : Sg} {q q' : Int32 × Sg} (H : resR w σ s0 q) (H' : resR w σ s0 q') : q = q' := by
  rcases H with ⟨k0, rfl⟩ | ⟨k0, rfl⟩
  all_goals
    rcases H' with ⟨y0, rfl⟩ | ⟨y0, rfl⟩
    all_goals first
    | rfl
    | (exact absurd (k0.symm.trans y0) (by decide))
theorem actR.fn {v w : Int32} {σ s0 : Sg} {q q' : Int32 × Sg} (H : actR v w σ s0 q) (H' : actR v w σ s0 q') : q = q' := by
  unfold actR at H H'
  by_cases c1 : v &&& 15 = 0 ∨ v &&& 15 = 1 ∨ v &&& 15 = 2
  · rw [if_pos c1] at H H'
    exact locoR.fn H H'
  · rw [if_neg c1] at H H'
    by_cases c2 : v &&& 15 = 3
    · rw [if_pos c2] at H H'
      by_cases c3 : w &&& 3 = 0
      · rw [if_pos c3] at H H'
        exact liftR.fn H H'
      · rw [if_neg c3] at H H'
        exact noiseR.fn H H'
    · rw [if_neg c2] at H H'
      by_cases c4 : v &&& 15 = 4 ∨ v &&& 15 = 5 ∨ v &&& 15 = 6
      · rw [if_pos c4] at H H'
        exact ordR.fn H H'
      · rw [if_neg c4] at H H'
        by_cases c5 : v &&& 15 = 7 ∨ v &&& 15 = 8
        · rw [if_pos c5] at H H'
          exact frmR.fn H H'
        · rw [if_neg c5] at H H'
          by_cases c6 : v &&& 15 = 9
          · rw [if_pos c6] at H H'
            exact shoR.fn H H'
          · rw [if_neg c6] at H H'
            by_cases c7 : v &&& 15 = 10
            · rw [if_pos c7] at H H'
              exact resR.fn H H'
            · rw [if_neg c7] at H H'
              exact pasR.fn H H'
theorem actR.J {k : Nat} {v w : Int32} {σ s0 : Sg} {q : Int32 × Sg} (J : Jv k σ) (J0 : Jv k s0) (hk : k < 900000) (H : actR v w σ s0 q) : Jv (k + 100) q.2 := by
  have hu : k ≤ k + 100 := by omega
  unfold actR at H
  by_cases c1 : v &&& 15 = 0 ∨ v &&& 15 = 1 ∨ v &&& 15 = 2
  · rw [if_pos c1] at H
    exact (locoR.J J H).up hu
  · rw [if_neg c1] at H
    by_cases c2 : v &&& 15 = 3
    · rw [if_pos c2] at H
      by_cases c3 : w &&& 3 = 0
      · rw [if_pos c3] at H
        exact (liftR.J J H).up hu
      · rw [if_neg c3] at H
        exact (noiseR.J J H).up hu
    · rw [if_neg c2] at H
      by_cases c4 : v &&& 15 = 4 ∨ v &&& 15 = 5 ∨ v &&& 15 = 6
      · rw [if_pos c4] at H
        exact (ordR.J J H).up hu
      · rw [if_neg c4] at H
        by_cases c5 : v &&& 15 = 7 ∨ v &&& 15 = 8
        · rw [if_pos c5] at H
          exact frmR.J J hk H
        · rw [if_neg c5] at H
          by_cases c6 : v &&& 15 = 9
          · rw [if_pos c6] at H
            exact (shoR.J J H).up hu
          · rw [if_neg c6] at H
            by_cases c7 : v &&& 15 = 10
            · rw [if_pos c7] at H
              rcases H with ⟨-, rfl⟩ | ⟨-, rfl⟩
              · exact J0.up hu
              · exact J.up hu
            · rw [if_neg c7] at H
              exact pasR.J J hk H
theorem actR.res {v w : Int32} {σ s0 : Sg} {q : Int32 × Sg} (H : actR v w σ s0 q) (hc : v &&& 15 = 10) (hq : ¬ q.1 < 0) : q.2 = s0 := by
  unfold actR at H
  rw [hc, if_neg (by decide), if_neg (by decide), if_neg (by decide), if_neg (by decide), if_neg (by decide), if_pos rfl] at H
  rcases H with ⟨-, rfl⟩ | ⟨-, rfl⟩
  · rfl
  · exact absurd (show (-5 : Int32) < 0 by decide) hq
theorem and1 (w : Int32) : w &&& 1 = 0 ∨ w &&& 1 = 1 := by
  have h : (w &&& 1).toBitVec = w.toBitVec &&& 1#32 := rfl
  rw [BitVec.and_one_eq_setWidth_ofBool_getLsbD] at h
  cases hb : w.toBitVec.getLsbD 0
  · exact Or.inl (Int32.toBitVec_inj.1 (by rw [h, hb]; rfl))
  · exact Or.inr (Int32.toBitVec_inj.1 (by rw [h, hb]; rfl))
theorem mask_nn (v : Int32) : 0 ≤ (v &&& 2147483647).toInt := by
  have h1 : (v &&& 2147483647).toBitVec.msb = false := by
    show (v.toBitVec &&& (2147483647 : Int32).toBitVec).msb = false
    rw [BitVec.msb_and]
    show (v.toBitVec.msb && false) = false
    exact Bool.and_false _
  have h2 : (v &&& 2147483647).toBitVec.msb = decide ((v &&& 2147483647).toInt < 0) := BitVec.msb_eq_toInt
  rw [h1] at h2
  have := of_decide_eq_false h2.symm
  omega
theorem low_nI (v : Int32) {n : Nat} (h0 : 0 < n) (h1 : n < 1000) : ∃ j, j < n ∧ lowF v (nI n) = nI j := by
  have e := nat_of (mask_nn v)
  have hl : (v &&& 2147483647).toInt < 2 ^ 31 := Int32.toInt_lt _
  exact ⟨(v &&& 2147483647).toInt.toNat % n, Nat.mod_lt _ h0, nx_rem e rfl (by omega) h0 (by omega)⟩
theorem cnt_1 {σ : Sg} {hn pl : Nat} : cntS σ hn pl 1 = σ 6 := by unfold cntS; rw [if_neg (by decide), if_pos rfl]
theorem cnt_2 {σ : Sg} {hn pl : Nat} : cntS σ hn pl 2 = σ 7 := by unfold cntS; rw [if_neg (by decide), if_neg (by decide), if_pos rfl]
theorem cnt_4 {σ : Sg} {hn pl : Nat} : cntS σ hn pl 4 = σ 3 := by unfold cntS; rw [if_neg (by decide), if_neg (by decide), if_neg (by decide), if_neg (by decide), if_pos rfl]
theorem cnt_5 {σ : Sg} {hn pl : Nat} : cntS σ hn pl 5 = σ 4 := by unfold cntS; rw [if_neg (by decide), if_neg (by decide), if_neg (by decide), if_neg (by decide), if_neg (by decide), if_pos rfl]
theorem cnt_6 {σ : Sg} {hn pl : Nat} : cntS σ hn pl 6 = σ 5 := by unfold cntS; rw [if_neg (by decide), if_neg (by decide), if_neg (by decide), if_neg (by decide), if_neg (by decide), if_neg (by decide), if_pos rfl]
theorem cnt_9 {σ : Sg} {hn pl : Nat} : cntS σ hn pl 9 = ssS σ (nof σ) + 10000 := by unfold cntS; rw [if_neg (by decide), if_neg (by decide), if_neg (by decide), if_neg (by decide), if_neg (by decide), if_neg (by decide), if_neg (by decide), if_neg (by decide), if_neg (by decide), if_pos rfl]
theorem cnt_11 {σ : Sg} {hn pl : Nat} : cntS σ hn pl 11 = nI hn := by unfold cntS; rw [if_neg (by decide), if_neg (by decide), if_neg (by decide), if_neg (by decide), if_neg (by decide), if_neg (by decide), if_neg (by decide), if_neg (by decide), if_neg (by decide), if_neg (by decide), if_neg (by decide), if_pos rfl]
theorem cnt_lo {σ : Sg} {hn pl j : Nat} (hj : j < 10) : cntS σ hn pl (nI j) = cntS σ 0 0 (nI j) := by
  have h10 : ¬ nI j = 10 := fun e => by have := (nI_eq (a := j) (b := 10) (by omega) (by decide)).mp e; omega
  have h11 : ¬ nI j = 11 := fun e => by have := (nI_eq (a := j) (b := 11) (by omega) (by decide)).mp e; omega
  unfold cntS
  simp only [if_neg h10, if_neg h11]
theorem adr_at {σ : Sg} {k : Nat} (hk : k < nof σ) (h8 : nof σ ≤ 8) : adrS σ (nI k) = σ (16 + 11 * k) := by
  unfold adrS
  have e : (nI k).toInt.toNat = k := by rw [nI_toInt (by omega)]; rfl
  rw [if_pos ((lq_n h8).mpr ⟨k, hk, rfl⟩), e]
theorem of_at {σ : Sg} {k : Nat} (hk : k < nof σ) (S : Srt (nof σ) σ) (w : Int32) : ofS σ (σ (16 + 11 * k)) w = tldS σ k w := by
  unfold ofS
  rw [S.rk hk, if_pos hk]
theorem wait_at {σ : Sg} {k : Nat} (hk : k < hof σ) (h20 : hof σ ≤ 20) : waitS (hof σ) σ (nI k) 2 = σ (106 + 3 * k) := by
  unfold waitS
  have e : (nI k).toInt.toNat = k := by rw [nI_toInt (by omega)]; rfl
  have hc : 0 ≤ nI k ∧ nI k ≤ nI (hof σ) - 1 := by
    refine ⟨nI_pos' (by omega), ?_⟩
    rw [show nI (hof σ) - 1 = nI (hof σ - 1) from nx_sub rfl (b := 1) rfl (by omega)]
    exact (nI_leI (by omega) (by omega)).mpr (by omega)
  rw [if_pos hc, e, if_neg (by decide), if_neg (by decide), if_pos rfl]
theorem blk_at {σ : Sg} {b : Nat} (hb : b < 8) (w : Int32) : blockS σ (nI b) w = if w = 0 then σ (8 + b) else if w = 1 then lcS σ (nI b) (nof σ) else -2 := by
  unfold blockS
  have e : (nI b).toInt.toNat = b := by rw [nI_toInt (by omega)]; rfl
  have hc : 0 ≤ nI b ∧ nI b ≤ 7 := ⟨nI_pos' (by omega), (nI_leI (a := b) (b := 7) (by omega) (by decide)).mpr (by omega)⟩
  rw [if_pos hc, e]
theorem stl_at {σ : Sg} {k : Nat} (hk : k < nof σ) (S : Srt (nof σ) σ) : settS σ (σ (16 + 11 * k)) = stlS σ k := by
  unfold settS
  rw [S.rk hk, if_pos hk]
theorem rch_at {σ : Sg} {k : Nat} (hk : k < nof σ) (S : Srt (nof σ) σ) (L : LcOk σ k) : reachS σ (σ (16 + 11 * k)) (σ (16 + 11 * k + 3) / 100) = 0 := by
  have hb := blk_lt L
  have e := blk_eq L
  have hc : 0 ≤ nI (blkS σ k) ∧ nI (blkS σ k) ≤ 7 := ⟨nI_pos' (by omega), (nI_leI (a := blkS σ k) (b := 7) (by omega) (by decide)).mpr (by omega)⟩
  unfold reachS
  rw [S.rk hk, if_pos ⟨hk, by rw [e]; exact hc⟩]
  exact unt_at (j := 0) (fun i hi => absurd hi (Nat.not_lt_zero _)) (decide_eq_true rfl) (by decide)
/-- each loco is in one of the eight blocks -/
def sumB (σ : Sg) (n : Nat) : Nat → Int32
  | 0 => 0
  | b + 1 => sumB σ n b + lcS σ (nI b) n
theorem sumB_S {σ : Sg} {n x : Nat} (e : σ (16 + 11 * n + 3) / 100 = nI x) (hx : x < 8) : ∀ m, m ≤ 8 → sumB σ (n + 1) m = sumB σ n m + (if x < m then 1 else 0) := by
  intro m
  induction m with
  | zero => exact fun _ => by rw [if_neg (Nat.not_lt_zero _)]; rfl
  | succ m ih =>
    intro hm
    have e1 : lcS σ (nI m) (n + 1) = if x = m then lcS σ (nI m) n + 1 else lcS σ (nI m) n := by
      show (if σ (16 + 11 * n + 3) / 100 = nI m then lcS σ (nI m) n + 1 else lcS σ (nI m) n) = _
      by_cases q : x = m
      · rw [if_pos q, if_pos (by rw [e, q])]
      · rw [if_neg q, if_neg (fun z => q ((nI_eq (by omega) (by omega)).mp (e.symm.trans z)))]
    show sumB σ (n + 1) m + lcS σ (nI m) (n + 1) = sumB σ n m + lcS σ (nI m) n + _
    rw [ih (by omega), e1]
    by_cases q : x = m
    · rw [if_pos q, if_neg (by omega), if_pos (by omega), Int32.add_zero, Int32.add_assoc]
    · rw [if_neg q]
      by_cases z : x < m
      · rw [if_pos z, if_pos (by omega), Int32.add_assoc, Int32.add_comm 1, ← Int32.add_assoc]
      · rw [if_neg z, if_neg (by omega), Int32.add_zero, Int32.add_zero]
theorem sumB_n {σ : Sg} : ∀ n, (∀ r, r < n → LcOk σ r) → sumB σ n 8 = nI n := by
  intro n
  induction n with
  | zero => exact fun _ => by show (0 : Int32) + 0 + 0 + 0 + 0 + 0 + 0 + 0 + 0 = nI 0; decide
  | succ n ih =>
    intro h
    have L := h n (by omega)
    rw [sumB_S (blk_eq L) (blk_lt L) 8 (Nat.le_refl _), ih (fun r hr => h r (by omega)), if_pos (blk_lt L)]
    exact nI_1 n
theorem back1 (x : Int32) : x + 1000 - 1000 = x := Int32.add_sub_cancel x 1000
theorem back2 (x : Int32) : x + 10000 - 10000 = x := Int32.add_sub_cancel x 10000
end
section
/-! PART 73: places and tenths since a tick ago are what speeds add up to; what is told -/
section GOES
variable {n h r : Nat} {σ : Sg}
theorem send_f (V : Iv n h σ) (hr : r < n) {f : Nat} (hf : f < 11) (h5 : f < 5 ∨ f = 10) : (sendS n h σ).1 (16 + 11 * r + f) = σ (16 + 11 * r + f) := by
  have h8 := V.2.1
  exact send_lo (by omega) (by omega) (by omega) (by omega) (by omega) (by omega) (fun r' _ => by omega)
theorem send_b {b : Nat} (hb : b < 8) : (sendS n h σ).1 (8 + b) = σ (8 + b) := send_lo (by omega) (by omega) (by omega) (by omega) (by omega) (by omega) (fun r' _ => by omega)
theorem tick_f (hr : r < n) {f : Nat} (hf : f < 11) : tickS n h σ (16 + 11 * r + f) = drvS n (sendS n h σ).1 (16 + 11 * r + f) := tick_out (by omega) (by omega) (Or.inr (by omega))
theorem tick_5 (hr : r < n) : tickS n h σ (16 + 11 * r + 5) = spdS (sendS n h σ).1 r := by
  rw [tick_f hr (by decide), drv_at hr (by decide), if_neg (by decide), if_neg (by decide), if_pos rfl]
theorem tick_0 (V : Iv n h σ) (hr : r < n) : tickS n h σ (16 + 11 * r) = σ (16 + 11 * r) := by
  rw [tick_out (by omega) (by omega) (Or.inr (by omega)), drv_addr]
  exact send_f V hr (f := 0) (by decide) (by decide)
theorem tick_1 (V : Iv n h σ) (hr : r < n) : tickS n h σ (16 + 11 * r + 1) = σ (16 + 11 * r + 1) := by
  rw [tick_f hr (by decide), drv_at hr (by decide), if_neg (by decide), if_neg (by decide), if_neg (by decide), if_neg (by decide)]
  exact send_f V hr (f := 1) (by decide) (by decide)
theorem blk_send (V : Iv n h σ) (hr : r < n) : blkS (sendS n h σ).1 r = blkS σ r := by
  unfold blkS
  rw [send_f V hr (f := 3) (by decide) (by decide)]
theorem tick_dark (V : Iv n h σ) (hr : r < n) (hd : 0 < σ (8 + blkS σ r)) : tickS n h σ (16 + 11 * r + 5) = 0 := by
  have hb := blk_lt (V.2.2.2.2.1 r hr)
  rw [tick_5 hr]
  unfold spdS
  rw [blk_send V hr, send_b hb, if_pos hd]
theorem send_none : (sendS n 0 σ).1 = σ := by
  unfold sendS
  rw [if_pos rfl]
theorem tick_quiet (hr : r < n) (hd : ¬ 0 < σ (8 + blkS σ r)) : tickS n 0 σ (16 + 11 * r + 5) = spdM (σ (16 + 11 * r + 1)) (σ (16 + 11 * r + 2)) (σ (16 + 11 * r + 6)) (σ (16 + 11 * r + 7)) (σ (16 + 11 * r + 5)) := by
  rw [tick_5 hr, send_none]
  unfold spdS
  rw [if_neg hd]
theorem ten_split {z : Int32} (h0 : 0 ≤ z.toInt) : 10 * (z / 10) + z % 10 = z := by
  have e := nat_of h0
  have hl : z.toInt < 2 ^ 31 := Int32.toInt_lt _
  have d1 : z / 10 = nI (z.toInt.toNat / 10) := nx_div e (b := 10) rfl (by omega) (by decide) (by decide)
  have d2 : z % 10 = nI (z.toInt.toNat % 10) := nx_rem e (b := 10) rfl (by omega) (by decide) (by decide)
  have d3 : 10 * (z / 10) + z % 10 = nI (10 * (z.toInt.toNat / 10) + z.toInt.toNat % 10) := nx_add (nx_mul rfl d1 (a := 10)) d2
  rw [d3, Nat.div_add_mod, ← e]
theorem mod_back {x : Int32} (h1 : -8000 < x.toInt) (h2 : x.toInt < 16000) : (x + 8000) % 8000 + 8000 * rndC x = x := by
  have e0 : (0 : Int32).toInt = 0 := rfl
  have e8 : (8000 : Int32).toInt = 8000 := rfl
  have ha : (x + 8000).toInt = x.toInt + 8000 := Kit.i32_add (by omega) (by omega)
  have hr : ((x + 8000) % 8000).toInt = (x.toInt + 8000) % 8000 := by rw [Kit.i32_rem_nonneg (by omega), ha]; rfl
  apply i_eq.mpr
  unfold rndC
  by_cases c0 : x < 0
  · have d0 := i_lt.mp c0
    have e : (8000 * -1 : Int32).toInt = -8000 := by decide
    rw [if_pos c0, Kit.i32_add (by omega) (by omega), hr, e]
    omega
  · have d0 := i_le.mp (Int32.not_lt.mp c0)
    rw [if_neg c0]
    by_cases c1 : 8000 ≤ x
    · have d1 := i_le.mp c1
      have e : (8000 * 1 : Int32).toInt = 8000 := by decide
      rw [if_pos c1, Kit.i32_add (by omega) (by omega), hr, e]
      omega
    · have d1 := i_lt.mp (Int32.not_le.mp c1)
      have e : (8000 * 0 : Int32).toInt = 0 := by decide
      rw [if_neg c1, Kit.i32_add (by omega) (by omega), hr, e]
      omega
theorem sum_go (a b s z t u c o : Int32) (h1 : 10 * z + t = u) (h2 : u + 8000 * o = 10 * a + b + s) : 10 * z + t + 8000 * (c + o) - (10 * a + b + 8000 * c) = s := by
  rw [h1, Int32.mul_add, ← Int32.add_assoc, Int32.add_comm u, Int32.add_assoc, h2]
  rw [Int32.add_comm (8000 * c) (10 * a + b + s), Int32.add_comm (10 * a + b) s, Int32.add_assoc s, Int32.add_sub_cancel]
theorem tick_go (V : Iv n h σ) (hr : r < n) : 10 * tickS n h σ (16 + 11 * r + 3) + tickS n h σ (16 + 11 * r + 4) + 8000 * (tickS n h σ (16 + 11 * r + 10) + 1000 - 1000) - (10 * σ (16 + 11 * r + 3) + σ (16 + 11 * r + 4) + 8000 * (σ (16 + 11 * r + 10) + 1000 - 1000)) = tickS n h σ (16 + 11 * r + 5) + 1000 - 1000 := by
  have L1 := V.send.2.2.2.2.1 r hr
  have ht := ten_bd L1
  have hm := fm_eq ht.2.1 ht.2.2
  rw [hm.1] at hm
  have f3 := send_f V hr (f := 3) (by decide) (by decide)
  have f4 := send_f V hr (f := 4) (by decide) (by decide)
  have f10 := send_f V hr (f := 10) (by decide) (by decide)
  have t3 : tickS n h σ (16 + 11 * r + 3) = (tenS (sendS n h σ).1 r + 8000) % 8000 / 10 := by rw [tick_f hr (by decide), drv_at hr (by decide), if_pos rfl]
  have t4 : tickS n h σ (16 + 11 * r + 4) = (tenS (sendS n h σ).1 r + 8000) % 8000 % 10 := by rw [tick_f hr (by decide), drv_at hr (by decide), if_neg (by decide), if_pos rfl]
  have t10 : tickS n h σ (16 + 11 * r + 10) = σ (16 + 11 * r + 10) + rndC (tenS (sendS n h σ).1 r) := by rw [tick_f hr (by decide), drv_at hr (by decide), if_neg (by decide), if_neg (by decide), if_neg (by decide), if_pos rfl, f10]
  rw [back1, back1, back1, t3, t4, t10, tick_5 hr]
  refine sum_go _ _ _ _ _ _ _ _ (ten_split hm.2.1) ?_
  rw [mod_back ht.2.1 ht.2.2]
  unfold tenS
  rw [f3, f4]
end GOES
theorem spd_ok {m c st w sp x : Int32} (m1 : 1 ≤ m.toInt) (m2 : m.toInt ≤ 20) (c0 : 0 ≤ c.toInt) (c2 : c.toInt ≤ 2) (s0 : 0 ≤ st.toInt) (s1 : st.toInt ≤ 28) (p0 : -280 ≤ sp.toInt) (p1 : sp.toInt ≤ 280) (hx : x = spdM m c st w sp) : (x + 1000 - (sp + 1000) ≤ 60 / m) ∧ (sp + 1000 - (x + 1000) ≤ 60 / m) ∧ (x + 1000 = dueC c st w + 1000 ∨ x + 1000 - (sp + 1000) = 60 / m ∨ sp + 1000 - (x + 1000) = 60 / m) := by
  have hd := due_bd (w := w) c0 c2 s0 s1
  have hg := gain_bd m1 m2
  have e1 : (1000 : Int32).toInt = 1000 := rfl
  unfold spdM at hx
  obtain ⟨g, eg2⟩ : ∃ g, g = 60 / m := ⟨_, rfl⟩
  obtain ⟨d, ed⟩ : ∃ d, d = dueC c st w := ⟨_, rfl⟩
  rw [← eg2, ← ed] at hx
  rw [← eg2] at hg ⊢
  rw [← ed] at hd ⊢
  have hq : (d - sp).toInt = d.toInt - sp.toInt := Kit.i32_sub (by omega) (by omega)
  have hn : (-g).toInt = -g.toInt := Kit.i32_neg (by omega)
  have ha : (sp + g).toInt = sp.toInt + g.toInt := Kit.i32_add (by omega) (by omega)
  have hs : (sp - g).toInt = sp.toInt - g.toInt := Kit.i32_sub (by omega) (by omega)
  have ht : (sp + (d - sp)).toInt = sp.toInt + (d - sp).toInt := Kit.i32_add (by omega) (by omega)
  have hp : (sp + 1000).toInt = sp.toInt + 1000 := Kit.i32_add (by omega) (by omega)
  have hd1 : (d + 1000).toInt = d.toInt + 1000 := Kit.i32_add (by omega) (by omega)
  have key : (x.toInt = sp.toInt + g.toInt) ∨ (x.toInt = sp.toInt - g.toInt) ∨ (x.toInt = d.toInt ∧ d.toInt - sp.toInt ≤ g.toInt ∧ sp.toInt - d.toInt ≤ g.toInt) := by
    by_cases c1 : g < d - sp
    · rw [if_pos c1] at hx
      exact Or.inl (by rw [hx, ha])
    · rw [if_neg c1] at hx
      have d1 := i_le.mp (Int32.not_lt.mp c1)
      by_cases c3 : d - sp < -g
      · rw [if_pos c3] at hx
        exact Or.inr (Or.inl (by rw [hx, hs]))
      · rw [if_neg c3] at hx
        have d3 := i_le.mp (Int32.not_lt.mp c3)
        exact Or.inr (Or.inr ⟨by rw [hx]; omega, by omega, by omega⟩)
  have hx1 : (x + 1000).toInt = x.toInt + 1000 := Kit.i32_add (by omega) (by omega)
  have h1 : (x + 1000 - (sp + 1000)).toInt = x.toInt - sp.toInt := by rw [Kit.i32_sub (by omega) (by omega), hx1, hp]; omega
  have h2 : (sp + 1000 - (x + 1000)).toInt = sp.toInt - x.toInt := by rw [Kit.i32_sub (by omega) (by omega), hx1, hp]; omega
  refine ⟨i_le.mpr (by omega), i_le.mpr (by omega), ?_⟩
  rcases key with e | e | e
  · exact Or.inr (Or.inl (i_eq.mpr (by omega)))
  · exact Or.inr (Or.inr (i_eq.mpr (by omega)))
  · exact Or.inl (i_eq.mpr (by omega))
/-- what is told of all -/
def fo (f : Nat → Int32) : Nat → Int64 → Int64
  | 0, h => h
  | j + 1, h => 31 * fo f j h + (f j).toInt64
def fl (g : Nat → Int64 → Int64) : Nat → Int64 → Int64
  | 0, h => h
  | k + 1, h => g k (fl g k h)
def tl1 (σ : Sg) : Int64 := fo (fun j => cntS σ 0 0 (nI j)) 10 3
def tl2f (σ : Sg) (k : Nat) (h : Int64) : Int64 := fo (fun j => ofS σ (adrS σ (nI k)) (nI j)) 12 (31 * h + (adrS σ (nI k)).toInt64)
def tl2 (σ : Sg) : Int64 := fl (tl2f σ) (nof σ) (tl1 σ)
def tl3f (σ : Sg) (k : Nat) (h : Int64) : Int64 := fo (fun j => waitS (hof σ) σ (nI k) (nI j)) 3 h
def tl3 (σ : Sg) : Int64 := fl (tl3f σ) (hof σ) (tl2 σ)
def tolS (σ : Sg) : Int64 := fo (fun b => blockS σ (nI b) 0) 8 (tl3 σ)
end
section
/-! PART 74: rows of the law's own methods: longs, shifts, the script -/
section LROW
variable {p : Program} {l : Launch} {e : Env} {R : Room} {s : State} {m : MethodId} {args : Array Value} {below : List Frame} {meth : Method} {c : Code} {G : Gm} {A : Nat → Prop} {nL ce sl : Nat} {Q : State → Prop} {I : Ii} {pm : Pm} {L : List (Nat × Value)} {pc : Nat} {st rest : List Value} {cc : ByteArray} {own : String}
theorem g_lmul (F : FX p s m args c cc nL own G A) {x y : Int64} (hd : decode cc pc = .ok (.lmul, 1)) (k : GG p l e R s m args below meth c G A nL ce sl Q I pm L (pc + 1) (.long (x * y) :: rest)) : GG p l e R s m args below meth c G A nL ce sl Q I pm L pc (.long y :: .long x :: rest) := fun H locs ls h1 h2 h3 => lv_lmul F.1.1 F.1.2.1 hd (k H locs ls h1 h2 h3)
theorem g_ladd (F : FX p s m args c cc nL own G A) {x y : Int64} (hd : decode cc pc = .ok (.ladd, 1)) (k : GG p l e R s m args below meth c G A nL ce sl Q I pm L (pc + 1) (.long (x + y) :: rest)) : GG p l e R s m args below meth c G A nL ce sl Q I pm L pc (.long y :: .long x :: rest) := fun H locs ls h1 h2 h3 => lv_ladd F.1.1 F.1.2.1 hd (k H locs ls h1 h2 h3)
theorem g_ishr (F : FX p s m args c cc nL own G A) {x y : Int32} (hd : decode cc pc = .ok (.ishr, 1)) (k : GG p l e R s m args below meth c G A nL ce sl Q I pm L (pc + 1) (.int (x >>> (y &&& 31)) :: rest)) : GG p l e R s m args below meth c G A nL ce sl Q I pm L pc (.int y :: .int x :: rest) := fun H locs ls h1 h2 h3 => lv_ishr F.1.1 F.1.2.1 hd (k H locs ls h1 h2 h3)
theorem g_lstore_n (F : FX p s m args c cc nL own G A) {k : Fin 4} {i : Nat} {x : Int64} {L' : List (Nat × Value)} (hd : decode cc pc = .ok (.lstore_n k, 1)) (hi : (k : Nat) = i) (hn : i + 1 < nL) (hl : (i, Value.long x) :: L.filter (fun q => !(q.1 == i) && (!(q.1 == i + 1) && !(q.1 + 1 == i && q.2.category == 2))) = L') (kk : GG p l e R s m args below meth c G A nL ce sl Q I pm L' (pc + 1) rest) : GG p l e R s m args below meth c G A nL ce sl Q I pm L pc (.long x :: rest) := fun H locs ls h1 h2 h3 => lv_lstore_n F.1.1 F.1.2.1 hd hi h3 hn hl (fun ls' h' => kk H locs ls' h1 h2 h')
def CL (l : Launch) (G : Gm) (y : MethodName) (ws : List Cond) (rm : Room) (av : List Value) (I : Ii) (pm : Pm) (post : Int64 → Ii × Pm → Prop) : Prop := Met l y ws rm (va_Pc av (PP G I pm)) (va_Ql post (fun u t => Wd G u.1 u.2 t.heap) (AA G)) 0 0 (AA G)
theorem CL.walk {y : MethodName} {b : ByteArray} {n : Nat} {ret : Option FieldType} {rm : Room} {av : List Value} {post : Int64 → Ii × Pm → Prop} (hj : Aj G) (hy : plainFor y = true) (hn : (lg_sl av).length ≤ n)
    (body : ∀ (p : Program) (e : Env) (s : State) (m : MethodId) (args : Array Value) (below : List Frame) (meth : Method) (c : Code), FX p s m args c b n y.cls G (AA G) → meth.sig.returnType = ret → meth.locks = false → GG p l e rm s m args below meth c G (AA G) n 0 0 (MQ below (va_Ql post (fun u t => Wd G u.1 u.2 t.heap) (AA G)) args s 0 0 (AA G)) I pm (lv_args 0 av) 0 []) : CL l G y (wz y b n ret) rm av I pm post := walk_any hj hy hn body
theorem g_callLs (F : FX p s m args c cc nL own G A) {y : MethodName} {b : ByteArray} {n na index : Nat} {ret : Option FieldType} {rm : Room} {As : List Value} {post : Int64 → Ii × Pm → Prop} (hM : CL l G y (wz y b n ret) rm As I pm post) (hlk : GoodIn wsL_law (va_wsS own index y (wz y b n ret))) (hst : st = As.reverse ++ rest) (hna : As.length = na) (hdy : y.cls ≠ "java/lang/invoke/MethodHandle" ∧ y.cls ≠ "java/lang/invoke/VarHandle" ∧ (parseMethodDescriptor y.desc).map (fun d => d.parameters.length) = some na) (hrm : rm.cells = 0 ∧ rm.slots = 0 ∧ rm.frames + 1 ≤ R.frames ∧ 8 + (n + 11) + rm.locals ≤ R.locals ∧ ce ≤ R.cells ∧ sl ≤ R.slots ∧ (rest.map fun v => v.category).sum ≤ 8) (hd : decode cc pc = .ok (.invokestatic index, 3)) (kk : ∀ (r : Int64) (u : Ii × Pm), post r u → GG p l e R s m args below meth c G A nL ce sl Q u.1 u.2 L (pc + 3) (.long r :: rest)) : GG p l e R s m args below meth c G A nL ce sl Q I pm L pc st := fun H locs ls h1 h2 h3 => by
  subst hst
  exact va_calll (va_runS (As := As) (rest := rest) F.1 hM (va_cwS na F.1.2.2.2.2 hlk rfl hrm.1 hrm.2.1 hdy ⟨hrm.2.2.1, hrm.2.2.2.1⟩) ⟨PP.blind, fun U hU hW => ⟨rfl, by rw [hU]; exact h1, va_K.moved hW.alike F.2.1, NN.warm hW F.2.2.1⟩⟩ rfl hna h3.1 rfl (lv_room hrm.2.2.2.2.2.2) hd ⟨hrm.2.2.2.2.1, hrm.2.2.2.2.2.1⟩) h2 (fun q _ hq => by obtain ⟨a, b, hb, rfl⟩ := hq; exact F.2.2.2.2 a b hb) (fun q hq => by obtain ⟨a, b, hb, rfl⟩ := hq; exact F.2.2.2.2 a b hb) (fun r u t H1 locs1 ht hvm hw hB hz hk hS => kk r u hw H1 locs1 ls (by rw [← ht]; exact hB) hS h3)
/-- the script -/
def SC (s : State) (A : Nat → Prop) (b L : Nat) (xs : Nat → Int32) : Prop := va_X b L xs s s.heap ∧ b < s.heap.size ∧ ¬ A b ∧ L ≤ 260
theorem g_sld (F : FX p s m args c cc nL own G A) {b N a : Nat} {xs : Nat → Int32} {i : Int32} (C : SC s A b N xs) (ei : i = nI a) (ha : a < N) (hd : decode cc pc = .ok (.iaload, 1)) (kk : GG p l e R s m args below meth c G A nL ce sl Q I pm L (pc + 1) (.int (xs a) :: rest)) : GG p l e R s m args below meth c G A nL ce sl Q I pm L pc (.int i :: .ref b :: rest) := fun H locs ls h1 h2 h3 => by
  have h := va_sld F.1.1 F.1.2.1 C.1 C.2.1 C.2.2.1 h2 (i := i) (Q := Q) (vp_in_e ei ha (Nat.lt_of_le_of_lt C.2.2.2 (by decide))) hd (ls := ls) (rest := rest) (below := below) (meth := meth) (p := p) (l := l) (e := e) (R := R) (m := m) (args := args) (cells := ce) (slots := sl)
  rw [cl_e ei ha (Nat.lt_of_le_of_lt C.2.2.2 (by decide))] at h
  exact h (kk H locs ls h1 h2 h3)
theorem g_slen (F : FX p s m args c cc nL own G A) {b N : Nat} {xs : Nat → Int32} (C : SC s A b N xs) (hd : decode cc pc = .ok (.arraylength, 1)) (kk : GG p l e R s m args below meth c G A nL ce sl Q I pm L (pc + 1) (.int (nI N) :: rest)) : GG p l e R s m args below meth c G A nL ce sl Q I pm L pc (.ref b :: rest) := fun H locs ls h1 h2 h3 => va_slen F.1.1 F.1.2.1 C.1 C.2.1 C.2.2.1 h2 hd (kk H locs ls h1 h2 h3)
def PSc (G : Gm) (I : Ii) (pm : Pm) (b N : Nat) (xs : Nat → Int32) : State → Prop := fun U => PP G I pm U ∧ SC U (AA G) b N xs
theorem PSc.blind {I : Ii} {pm : Pm} {b N : Nat} {xs : Nat → Int32} {av : List Value} : FrameBlind (va_Pc av (PSc G I pm b N xs)) := fun a U g mk q => ⟨q.1, ⟨q.2.1.1, va_K.moved (u := U) (U := U.calling g mk a) (Vm.Alike.refl U.vm) q.2.1.2.1, NN.same rfl q.2.1.2.2⟩, va_X.moved (u := U) (U := U.calling g mk a) (Vm.Alike.refl U.vm) q.2.2.1, q.2.2.2⟩
def CS (l : Launch) (G : Gm) (y : MethodName) (ws : List Cond) (rm : Room) (av : List Value) (I : Ii) (pm : Pm) (b N : Nat) (xs : Nat → Int32) (post : Int32 → Ii × Pm → Prop) : Prop := Met l y ws rm (va_Pc av (PSc G I pm b N xs)) (va_Qi post (fun u t => Wd G u.1 u.2 t.heap) (AA G)) 0 0 (AA G)
theorem CS.walk {y : MethodName} {b : ByteArray} {n : Nat} {ret : Option FieldType} {rm : Room} {av : List Value} {b0 N : Nat} {xs : Nat → Int32} {post : Int32 → Ii × Pm → Prop} (hj : Aj G) (hy : plainFor y = true) (hn : (lg_sl av).length ≤ n)
    (body : ∀ (p : Program) (e : Env) (s : State) (m : MethodId) (args : Array Value) (below : List Frame) (meth : Method) (c : Code), FX p s m args c b n y.cls G (AA G) → SC s (AA G) b0 N xs → meth.sig.returnType = ret → meth.locks = false → GG p l e rm s m args below meth c G (AA G) n 0 0 (MQ below (va_Qi post (fun u t => Wd G u.1 u.2 t.heap) (AA G)) args s 0 0 (AA G)) I pm (lv_args 0 av) 0 []) : CS l G y (wz y b n ret) rm av I pm b0 N xs post := by
  unfold CS
  refine MetFree.of_bodySF (code := b) (maxLocals := n) (ret := ret) hy ?_ ?_
  · intro args s m h hn
    obtain ⟨meth, c, h1, h2, h3, h4, h5, h6, -, -⟩ := Cond.code_spec hn (atoms_spec (ws := wz y b n ret) h _ List.mem_cons_self)
    exact ⟨meth, c, h1, h2, h3, h4, h5, h6⟩
  · intro p e s m args below meth c s₁ B hml hP _
    have hh0 : s₁.heap = s.heap := by rw [B.state]; rfl
    obtain ⟨rfl, ⟨hW, hK, hN⟩, hS⟩ := hP
    have hts := atoms_spec (ws := wz y b n ret) B.pre
    have hl := lv_entry av (n := n) hn
    have hg := body p e s m av.toArray below meth c ⟨⟨B.exec, B.bytes, hml, findClass_of_methodNamed B.named, fun w hw => hts w (List.mem_cons_of_mem _ hw)⟩, hK, hN, hj, fun K i h => ⟨K, i, h, rfl⟩⟩ hS B.returns B.notSynchronized s.heap [] _ hW va_S.rf hl
    rw [← lg_entry_eq] at hg
    obtain ⟨t, a1, o, b1, b2, b3⟩ := hg s₁ hh0 (Stand.of_body B)
    exact ⟨t, o, a1, b1, b2, ⟨b3.1, b3.2⟩⟩
theorem g_callSs (F : FX p s m args c cc nL own G A) {y : MethodName} {b : ByteArray} {n na index : Nat} {ret : Option FieldType} {rm : Room} {As : List Value} {b0 N : Nat} {xs : Nat → Int32} {post : Int32 → Ii × Pm → Prop} (C : SC s A b0 N xs) (hM : CS l G y (wz y b n ret) rm As I pm b0 N xs post) (hlk : GoodIn wsL_law (va_wsS own index y (wz y b n ret))) (hst : st = As.reverse ++ rest) (hna : As.length = na) (hdy : y.cls ≠ "java/lang/invoke/MethodHandle" ∧ y.cls ≠ "java/lang/invoke/VarHandle" ∧ (parseMethodDescriptor y.desc).map (fun d => d.parameters.length) = some na) (hrm : rm.cells = 0 ∧ rm.slots = 0 ∧ rm.frames + 1 ≤ R.frames ∧ 8 + (n + 11) + rm.locals ≤ R.locals ∧ ce ≤ R.cells ∧ sl ≤ R.slots ∧ (rest.map fun v => v.category).sum ≤ 8) (hd : decode cc pc = .ok (.invokestatic index, 3)) (kk : ∀ (r : Int32) (u : Ii × Pm), post r u → GG p l e R s m args below meth c G A nL ce sl Q u.1 u.2 L (pc + 3) (.int r :: rest)) : GG p l e R s m args below meth c G A nL ce sl Q I pm L pc st := fun H locs ls h1 h2 h3 => by
  subst hst
  exact va_calli (va_runS (As := As) (rest := rest) F.1 hM (va_cwS na F.1.2.2.2.2 hlk rfl hrm.1 hrm.2.1 hdy ⟨hrm.2.2.1, hrm.2.2.2.1⟩) ⟨PSc.blind, fun U hU hW => ⟨rfl, ⟨by rw [hU]; exact h1, va_K.moved hW.alike F.2.1, NN.warm hW F.2.2.1⟩, by rw [hU]; exact va_X.moved hW.alike (C.1.kept (h2.2.1 b0 C.2.1 C.2.2.1)), by rw [hU]; exact Nat.lt_of_lt_of_le C.2.1 h2.1, fun hq => C.2.2.1 (by obtain ⟨a, b, hb, e⟩ := hq; rw [e]; exact F.2.2.2.2 a b hb), C.2.2.2⟩⟩ rfl hna h3.1 rfl (lv_room hrm.2.2.2.2.2.2) hd ⟨hrm.2.2.2.2.1, hrm.2.2.2.2.2.1⟩) h2 (fun q _ hq => by obtain ⟨a, b, hb, rfl⟩ := hq; exact F.2.2.2.2 a b hb) (fun q hq => by obtain ⟨a, b, hb, rfl⟩ := hq; exact F.2.2.2.2 a b hb) (fun r u t H1 locs1 ht hvm hw hB hz hk hS => kk r u hw H1 locs1 ls (by rw [← ht]; exact hB) hS h3)
end LROW
section LRET
variable {p : Program} {l : Launch} {e : Env} {R : Room} {s : State} {m : MethodId} {args : Array Value} {below : List Frame} {meth : Method} {c : Code} {G : Gm} {nL : Nat} {I : Ii} {pm : Pm} {L : List (Nat × Value)} {pc : Nat} {cc : ByteArray} {own : String}
theorem g_lret (F : FX p s m args c cc nL own G (AA G)) {post : Int64 → Ii × Pm → Prop} {v : Int64} (hr : meth.sig.returnType = some .long) (hlocks : meth.locks = false) (hd : decode cc pc = .ok (.lreturn, 1)) (hq : post v (I, pm)) : GG p l e R s m args below meth c G (AA G) nL 0 0 (MQ below (va_Ql post (fun u t => Wd G u.1 u.2 t.heap) (AA G)) args s 0 0 (AA G)) I pm L pc [.long v] := fun H locs ls h1 h2 h3 =>
  W.lret F.1.1 F.1.2.1 hr (fun t ht hW => ⟨⟨v, (I, pm), rfl, hq, (show Wd G I pm t.heap by rw [ht]; exact h1)⟩, h2.F ht⟩) h2.2.2 hd hlocks
end LRET
theorem lcmp_self (x : Int64) : lg_cmp x x = 0 := by
  unfold lg_cmp
  simp
end
section
/-! PART 75: low, cell, told -/
set_option maxHeartbeats 4000000 in
set_option maxRecDepth 100000 in
theorem c_L_low {l : Launch} {G : Gm} (hj : Aj G) {I : Ii} {pm : Pm} {x n : Int32} (hn : ¬ n = 0) : CI l G yL_low (wz yL_low cL_low 2 (some .int)) (rmL 0) [.int x, .int n] I pm (fun r u => r = lowF x n ∧ u = (I, pm)) := by
  refine CI.walk hj (by decide +kernel) (by show _ ≤ 2; exact Nat.le_of_ble_eq_true rfl) ?_
  intro p e s m args below meth c F hr hlk
  refine g_iload_n F 0 dL_low_0 rfl rfl ?_
  refine g_ldc F mCN_L_7 dL_low_1 ?_
  refine g_iand F dL_low_3 ?_
  refine g_iload_n F 1 dL_low_4 rfl rfl ?_
  refine g_irem F dL_low_5 hn ?_
  refine g_iret F hr hlk rfl dL_low_6 ?_
  exact ⟨rfl, rfl⟩
set_option maxHeartbeats 4000000 in
theorem c_L_cell {l : Launch} {G : Gm} (hj : Aj G) {I : Ii} {pm : Pm} {b N k : Nat} {xs : Nat → Int32} {x : Int32} (ex : x = nI k) (hk : k < 1000) : CS l G yL_cell (wz yL_cell cL_cell 2 (some .int)) (rmL 0) [.ref b, .int x] I pm b N xs (fun _ u => u = (I, pm)) := by
  refine CS.walk hj (by decide +kernel) (by show _ ≤ 2; exact Nat.le_of_ble_eq_true rfl) ?_
  intro p e s m args below meth c F C hr hlk
  refine g_iload_n F 1 dL_cell_0 rfl rfl ?_
  refine g_aload_n F 0 dL_cell_1 rfl rfl ?_
  refine g_slen F C dL_cell_2 ?_
  refine g_icmp_ge F 12 dL_cell_3 (by decide) (fun c_3 => ?_) (fun c_3 => ?_)
  · have n1 := nx_get (a := k) (b := N) ex rfl (by omega) (by have := C.2.2.2; omega) c_3
    refine g_sipush (v := 7919) F dL_cell_12 (by decide) ?_
    refine g_iload_n F 1 dL_cell_15 rfl rfl ?_
    refine g_iconst (v := 3) F dL_cell_16 (by decide) ?_
    refine g_iadd F dL_cell_17 ?_
    refine g_imul F dL_cell_18 ?_
    refine g_iload_n F 1 dL_cell_19 rfl rfl ?_
    refine g_bipush (v := 11) F dL_cell_20 (by decide) ?_
    refine g_iadd F dL_cell_22 ?_
    refine g_imul F dL_cell_23 ?_
    refine g_iret F hr hlk rfl dL_cell_24 ?_
    exact rfl
  · have n1 := nx_gef (a := k) (b := N) ex rfl (by omega) (by have := C.2.2.2; omega) c_3
    refine g_aload_n F 0 dL_cell_6 rfl rfl ?_
    refine g_iload_n F 1 dL_cell_7 rfl rfl ?_
    refine g_sld F C ex n1 dL_cell_8 ?_
    refine g_goto F 24 dL_cell_9 (by decide) ?_
    exact g_iret F hr hlk rfl dL_cell_24 rfl
set_option maxHeartbeats 4000000 in
set_option maxRecDepth 100000 in
theorem c_L_told {l : Launch} {G : Gm} (hj : Aj G) {I : Ii} {pm : Pm} {σ : Sg} {hn : Nat} {hist : Nat → Sg} {sv : Nat → Int32} {sl : Nat → Sg} {pl : Nat} {pad : Sg} (C : CR I pm σ hn hist sv sl pl pad) : CL l G yL_told (wz yL_told cL_told 6 (some .long)) (rmL 4) [.ref (G.2.2 8 0)] I pm (fun r u => r = tolS σ ∧ u = (I, pm)) := by
  refine CL.walk hj (by decide +kernel) (by show _ ≤ 6; exact Nat.le_of_ble_eq_true rfl) ?_
  intro p e s m args below meth c F hr hlk
  obtain ⟨n, h, R, V⟩ := id C.1
  have hn8 : nof σ ≤ 8 := by rw [V.nofe]; exact V.2.1
  have hh20 : hof σ ≤ 20 := by rw [V.hofe]; exact V.2.2.2.1
  have e6 : σ 6 = nI (nof σ) := by rw [V.nofe]; exact V.1
  have e7 : σ 7 = nI (hof σ) := by rw [V.hofe]; exact V.2.2.1
  have L5 : ∀ j, j ≤ 8 → ∀ xj, xj = nI j → ∀ y : Int64, y = fo (fun b => blockS σ (nI b) 0) j (tl3 σ) → GG p l e (rmL 4) s m args below meth c G (AA G) 6 0 0 (MQ below (va_Ql (fun (r : Int64) (u : Ii × Pm) => r = tolS σ ∧ u = (I, pm)) (fun (u : Ii × Pm) t => Wd G u.1 u.2 t.heap) (AA G)) args s 0 0 (AA G)) I pm [(0, .ref (G.2.2 8 0)), (1, .long y), (3, .int xj)] 146 [] := by
    refine dn_ind ?_
    intro j hjl ih xj ej y ey
    refine g_iload_n F 2 dL_told_146 rfl rfl ?_
    refine g_bipush (v := 8) F dL_told_147 (by decide) ?_
    refine g_icmp_ge F 172 dL_told_149 (by decide) (fun c_149 => ?_) (fun c_149 => ?_)
    · have n_149 := nx_get (a := j) (b := 8) ej rfl (by omega) (by omega) c_149
      refine g_lload_n F 1 dL_told_172 rfl rfl ?_
      refine g_lret F hr hlk dL_told_173 ?_
      obtain rfl : j = 8 := by omega
      exact ⟨ey, rfl⟩
    · have n_149 := nx_gef (a := j) (b := 8) ej rfl (by omega) (by omega) c_149
      refine g_ldc2 F mCN_L_10 dL_told_152 ?_
      refine g_lload_n F 1 dL_told_155 rfl rfl ?_
      refine g_lmul F dL_told_156 ?_
      refine g_aload_n F 0 dL_told_157 rfl rfl ?_
      refine g_iload_n F 2 dL_told_158 rfl rfl ?_
      refine g_iconst (v := 0) F dL_told_159 (by decide) ?_
      refine g_callIv (na := 2) F 8 _ (c_X5_block hj C) (by decide) rfl rfl lk_L_28 rfl rfl (by decide +kernel) ⟨rfl, rfl, Nat.le_of_ble_eq_true rfl, Nat.le_of_ble_eq_true rfl, Nat.le_of_ble_eq_true rfl, Nat.le_of_ble_eq_true rfl, Nat.le_of_ble_eq_true rfl⟩ dL_told_160 (fun r_160 u_160 h_160 => ?_)
      obtain ⟨rfl, rfl⟩ := h_160
      try dsimp only
      refine g_i2l F dL_told_163 ?_
      refine g_ladd F dL_told_164 ?_
      refine g_lstore_n (L' := [(1, _), (0, _), (3, _)]) F dL_told_165 rfl (by decide) rfl ?_
      refine g_iincC (q := 1) (L' := [(3, _), (1, _), (0, _)]) F 2 dL_told_166 (by decide) rfl (by decide) rfl ?_
      refine g_goto F 146 dL_told_169 (by decide) ?_
      refine g_sub [2, 1, 0] rfl ?_
      exact ih (by omega) _ (nx_add ej rfl) _ (by rw [ey, ej]; rfl)
  have L4 : ∀ k, k ≤ hof σ → ∀ xk, xk = nI k → ∀ y : Int64, y = fl (tl3f σ) k (tl2 σ) → GG p l e (rmL 4) s m args below meth c G (AA G) 6 0 0 (MQ below (va_Ql (fun (r : Int64) (u : Ii × Pm) => r = tolS σ ∧ u = (I, pm)) (fun (u : Ii × Pm) t => Wd G u.1 u.2 t.heap) (AA G)) args s 0 0 (AA G)) I pm [(0, .ref (G.2.2 8 0)), (1, .long y), (3, .int xk)] 99 [] := by
    refine dn_ind ?_
    intro k hkl ih xk ek y ey
    have L4i : k < hof σ → ∀ j, j ≤ 3 → ∀ xj, xj = nI j → ∀ z : Int64, z = fo (fun j => waitS (hof σ) σ (nI k) (nI j)) j y → GG p l e (rmL 4) s m args below meth c G (AA G) 6 0 0 (MQ below (va_Ql (fun (r : Int64) (u : Ii × Pm) => r = tolS σ ∧ u = (I, pm)) (fun (u : Ii × Pm) t => Wd G u.1 u.2 t.heap) (AA G)) args s 0 0 (AA G)) I pm [(0, .ref (G.2.2 8 0)), (1, .long z), (3, .int xk), (4, .int xj)] 111 [] := by
      intro hk
      refine dn_ind ?_
      intro j hjl ih2 xj ej z ez
      refine g_iload F 3 dL_told_111 rfl ?_
      refine g_iconst (v := 3) F dL_told_113 (by decide) ?_
      refine g_icmp_ge F 138 dL_told_114 (by decide) (fun c_114 => ?_) (fun c_114 => ?_)
      · have n_114 := nx_get (a := j) (b := 3) ej rfl (by omega) (by omega) c_114
        refine g_iincC (q := 1) (L' := [(3, _), (0, _), (1, _), (4, _)]) F 2 dL_told_138 (by decide) rfl (by decide) rfl ?_
        refine g_goto F 99 dL_told_141 (by decide) ?_
        refine g_sub [1, 2, 0] rfl ?_
        obtain rfl : j = 3 := by omega
        exact ih (by omega) _ (nx_add ek rfl) _ (by rw [ez, ey]; rfl)
      · have n_114 := nx_gef (a := j) (b := 3) ej rfl (by omega) (by omega) c_114
        refine g_ldc2 F mCN_L_10 dL_told_117 ?_
        refine g_lload_n F 1 dL_told_120 rfl rfl ?_
        refine g_lmul F dL_told_121 ?_
        refine g_aload_n F 0 dL_told_122 rfl rfl ?_
        refine g_iload_n F 2 dL_told_123 rfl rfl ?_
        refine g_iload F 3 dL_told_124 rfl ?_
        refine g_callIv (na := 2) F 8 _ (c_X5_waiting hj C) (by decide) rfl rfl lk_L_25 rfl rfl (by decide +kernel) ⟨rfl, rfl, Nat.le_of_ble_eq_true rfl, Nat.le_of_ble_eq_true rfl, Nat.le_of_ble_eq_true rfl, Nat.le_of_ble_eq_true rfl, Nat.le_of_ble_eq_true rfl⟩ dL_told_126 (fun r_126 u_126 h_126 => ?_)
        obtain ⟨rfl, rfl⟩ := h_126
        try dsimp only
        refine g_i2l F dL_told_129 ?_
        refine g_ladd F dL_told_130 ?_
        refine g_lstore_n (L' := [(1, _), (0, _), (3, _), (4, _)]) F dL_told_131 rfl (by decide) rfl ?_
        refine g_iincC (q := 1) (L' := [(4, _), (1, _), (0, _), (3, _)]) F 3 dL_told_132 (by decide) rfl (by decide) rfl ?_
        refine g_goto F 111 dL_told_135 (by decide) ?_
        refine g_sub [2, 1, 3, 0] rfl ?_
        exact ih2 (by omega) _ (nx_add ej rfl) _ (by rw [ez, ej, ek]; rfl)
    refine g_iload_n F 2 dL_told_99 rfl rfl ?_
    refine g_aload_n F 0 dL_told_100 rfl rfl ?_
    refine g_iconst (v := 2) F dL_told_101 (by decide) ?_
    refine g_callIv (na := 1) F 8 _ (c_X5_count hj C) (by decide) rfl rfl lk_L_12 rfl rfl (by decide +kernel) ⟨rfl, rfl, Nat.le_of_ble_eq_true rfl, Nat.le_of_ble_eq_true rfl, Nat.le_of_ble_eq_true rfl, Nat.le_of_ble_eq_true rfl, Nat.le_of_ble_eq_true rfl⟩ dL_told_102 (fun r_102 u_102 h_102 => ?_)
    obtain ⟨rfl, rfl⟩ := h_102
    try dsimp only
    rw [cnt_2]
    refine g_icmp_ge F 144 dL_told_105 (by decide) (fun c_105 => ?_) (fun c_105 => ?_)
    · have n_105 := nx_get (a := k) (b := hof σ) ek e7 (by omega) (by omega) c_105
      refine g_iconst (v := 0) F dL_told_144 (by decide) ?_
      refine g_istore_n (L' := [(3, _), (0, _), (1, _)]) F dL_told_145 rfl (by decide) rfl ?_
      refine g_sub [1, 2, 0] rfl ?_
      obtain rfl : k = hof σ := by omega
      exact L5 0 (by decide) _ rfl _ ey
    · have n_105 := nx_gef (a := k) (b := hof σ) ek e7 (by omega) (by omega) c_105
      refine g_iconst (v := 0) F dL_told_108 (by decide) ?_
      refine g_istore (L' := [(4, _), (0, _), (1, _), (3, _)]) F dL_told_109 (by decide) rfl ?_
      refine g_sub [1, 2, 3, 0] rfl ?_
      exact L4i n_105 0 (by decide) _ rfl _ rfl
  have L2 : ∀ k, k ≤ nof σ → ∀ xk, xk = nI k → ∀ y : Int64, y = fl (tl2f σ) k (tl1 σ) → GG p l e (rmL 4) s m args below meth c G (AA G) 6 0 0 (MQ below (va_Ql (fun (r : Int64) (u : Ii × Pm) => r = tolS σ ∧ u = (I, pm)) (fun (u : Ii × Pm) t => Wd G u.1 u.2 t.heap) (AA G)) args s 0 0 (AA G)) I pm [(0, .ref (G.2.2 8 0)), (1, .long y), (3, .int xk)] 33 [] := by
    refine dn_ind ?_
    intro k hkl ih xk ek y ey
    have L2i : k < nof σ → ∀ xa, xa = adrS σ (nI k) → ∀ j, j ≤ 12 → ∀ xj, xj = nI j → ∀ z : Int64, z = fo (fun j => ofS σ (adrS σ (nI k)) (nI j)) j (31 * y + (adrS σ (nI k)).toInt64) → GG p l e (rmL 4) s m args below meth c G (AA G) 6 0 0 (MQ below (va_Ql (fun (r : Int64) (u : Ii × Pm) => r = tolS σ ∧ u = (I, pm)) (fun (u : Ii × Pm) t => Wd G u.1 u.2 t.heap) (AA G)) args s 0 0 (AA G)) I pm [(0, .ref (G.2.2 8 0)), (1, .long z), (3, .int xk), (4, .int xa), (5, .int xj)] 62 [] := by
      intro hk xa ea
      refine dn_ind ?_
      intro j hjl ih2 xj ej z ez
      refine g_iload F 4 dL_told_62 rfl ?_
      refine g_bipush (v := 12) F dL_told_64 (by decide) ?_
      refine g_icmp_ge F 91 dL_told_66 (by decide) (fun c_66 => ?_) (fun c_66 => ?_)
      · have n_66 := nx_get (a := j) (b := 12) ej rfl (by omega) (by omega) c_66
        refine g_iincC (q := 1) (L' := [(3, _), (0, _), (1, _), (4, _), (5, _)]) F 2 dL_told_91 (by decide) rfl (by decide) rfl ?_
        refine g_goto F 33 dL_told_94 (by decide) ?_
        refine g_sub [1, 2, 0] rfl ?_
        obtain rfl : j = 12 := by omega
        exact ih (by omega) _ (nx_add ek rfl) _ (by rw [ez, ey]; rfl)
      · have n_66 := nx_gef (a := j) (b := 12) ej rfl (by omega) (by omega) c_66
        refine g_ldc2 F mCN_L_10 dL_told_69 ?_
        refine g_lload_n F 1 dL_told_72 rfl rfl ?_
        refine g_lmul F dL_told_73 ?_
        refine g_aload_n F 0 dL_told_74 rfl rfl ?_
        refine g_iload F 3 dL_told_75 rfl ?_
        refine g_iload F 4 dL_told_77 rfl ?_
        refine g_callIv (na := 2) F 8 _ (c_X5_of hj C) (by decide) rfl rfl lk_L_21 rfl rfl (by decide +kernel) ⟨rfl, rfl, Nat.le_of_ble_eq_true rfl, Nat.le_of_ble_eq_true rfl, Nat.le_of_ble_eq_true rfl, Nat.le_of_ble_eq_true rfl, Nat.le_of_ble_eq_true rfl⟩ dL_told_79 (fun r_79 u_79 h_79 => ?_)
        obtain ⟨rfl, rfl⟩ := h_79
        try dsimp only
        refine g_i2l F dL_told_82 ?_
        refine g_ladd F dL_told_83 ?_
        refine g_lstore_n (L' := [(1, _), (0, _), (3, _), (4, _), (5, _)]) F dL_told_84 rfl (by decide) rfl ?_
        refine g_iincC (q := 1) (L' := [(5, _), (1, _), (0, _), (3, _), (4, _)]) F 4 dL_told_85 (by decide) rfl (by decide) rfl ?_
        refine g_goto F 62 dL_told_88 (by decide) ?_
        refine g_sub [2, 1, 3, 4, 0] rfl ?_
        exact ih2 (by omega) _ (nx_add ej rfl) _ (by rw [ez, ej, ea]; rfl)
    refine g_iload_n F 2 dL_told_33 rfl rfl ?_
    refine g_aload_n F 0 dL_told_34 rfl rfl ?_
    refine g_iconst (v := 1) F dL_told_35 (by decide) ?_
    refine g_callIv (na := 1) F 8 _ (c_X5_count hj C) (by decide) rfl rfl lk_L_12 rfl rfl (by decide +kernel) ⟨rfl, rfl, Nat.le_of_ble_eq_true rfl, Nat.le_of_ble_eq_true rfl, Nat.le_of_ble_eq_true rfl, Nat.le_of_ble_eq_true rfl, Nat.le_of_ble_eq_true rfl⟩ dL_told_36 (fun r_36 u_36 h_36 => ?_)
    obtain ⟨rfl, rfl⟩ := h_36
    try dsimp only
    rw [cnt_1]
    refine g_icmp_ge F 97 dL_told_39 (by decide) (fun c_39 => ?_) (fun c_39 => ?_)
    · have n_39 := nx_get (a := k) (b := nof σ) ek e6 (by omega) (by omega) c_39
      refine g_iconst (v := 0) F dL_told_97 (by decide) ?_
      refine g_istore_n (L' := [(3, _), (0, _), (1, _)]) F dL_told_98 rfl (by decide) rfl ?_
      refine g_sub [1, 2, 0] rfl ?_
      obtain rfl : k = nof σ := by omega
      exact L4 0 (Nat.zero_le _) _ rfl _ ey
    · have n_39 := nx_gef (a := k) (b := nof σ) ek e6 (by omega) (by omega) c_39
      refine g_aload_n F 0 dL_told_42 rfl rfl ?_
      refine g_iload_n F 2 dL_told_43 rfl rfl ?_
      refine g_callIv (na := 1) F 8 _ (c_X5_address hj C) (by decide) rfl rfl lk_L_18 rfl rfl (by decide +kernel) ⟨rfl, rfl, Nat.le_of_ble_eq_true rfl, Nat.le_of_ble_eq_true rfl, Nat.le_of_ble_eq_true rfl, Nat.le_of_ble_eq_true rfl, Nat.le_of_ble_eq_true rfl⟩ dL_told_44 (fun r_44 u_44 h_44 => ?_)
      obtain ⟨rfl, rfl⟩ := h_44
      try dsimp only
      refine g_topi (fun x4_47 ex4_47 => ?_)
      refine g_istore (L' := [(4, _), (0, _), (1, _), (3, _)]) F dL_told_47 (by decide) rfl ?_
      refine g_ldc2 F mCN_L_10 dL_told_49 ?_
      refine g_lload_n F 2 dL_told_52 rfl rfl ?_
      refine g_lmul F dL_told_53 ?_
      refine g_iload F 0 dL_told_54 rfl ?_
      refine g_i2l F dL_told_56 ?_
      refine g_ladd F dL_told_57 ?_
      refine g_lstore_n (L' := [(1, _), (4, _), (0, _), (3, _)]) F dL_told_58 rfl (by decide) rfl ?_
      refine g_iconst (v := 0) F dL_told_59 (by decide) ?_
      refine g_istore (L' := [(5, _), (1, _), (4, _), (0, _), (3, _)]) F dL_told_60 (by decide) rfl ?_
      refine g_sub [3, 1, 4, 2, 0] rfl ?_
      exact L2i n_39 _ (by rw [ex4_47, ek]) 0 (by decide) _ rfl _ (by rw [ex4_47, ek]; rfl)
  have L1 : ∀ j, j ≤ 10 → ∀ xj, xj = nI j → ∀ y : Int64, y = fo (fun j => cntS σ 0 0 (nI j)) j 3 → GG p l e (rmL 4) s m args below meth c G (AA G) 6 0 0 (MQ below (va_Ql (fun (r : Int64) (u : Ii × Pm) => r = tolS σ ∧ u = (I, pm)) (fun (u : Ii × Pm) t => Wd G u.1 u.2 t.heap) (AA G)) args s 0 0 (AA G)) I pm [(0, .ref (G.2.2 8 0)), (1, .long y), (3, .int xj)] 6 [] := by
    refine dn_ind ?_
    intro j hjl ih xj ej y ey
    refine g_iload_n F 2 dL_told_6 rfl rfl ?_
    refine g_bipush (v := 10) F dL_told_7 (by decide) ?_
    refine g_icmp_ge F 31 dL_told_9 (by decide) (fun c_9 => ?_) (fun c_9 => ?_)
    · have n_9 := nx_get (a := j) (b := 10) ej rfl (by omega) (by omega) c_9
      refine g_iconst (v := 0) F dL_told_31 (by decide) ?_
      refine g_istore_n (L' := [(3, _), (0, _), (1, _)]) F dL_told_32 rfl (by decide) rfl ?_
      refine g_sub [1, 2, 0] rfl ?_
      obtain rfl : j = 10 := by omega
      exact L2 0 (Nat.zero_le _) _ rfl _ ey
    · have n_9 := nx_gef (a := j) (b := 10) ej rfl (by omega) (by omega) c_9
      refine g_ldc2 F mCN_L_10 dL_told_12 ?_
      refine g_lload_n F 1 dL_told_15 rfl rfl ?_
      refine g_lmul F dL_told_16 ?_
      refine g_aload_n F 0 dL_told_17 rfl rfl ?_
      refine g_iload_n F 2 dL_told_18 rfl rfl ?_
      refine g_callIv (na := 1) F 8 _ (c_X5_count hj C) (by decide) rfl rfl lk_L_12 rfl rfl (by decide +kernel) ⟨rfl, rfl, Nat.le_of_ble_eq_true rfl, Nat.le_of_ble_eq_true rfl, Nat.le_of_ble_eq_true rfl, Nat.le_of_ble_eq_true rfl, Nat.le_of_ble_eq_true rfl⟩ dL_told_19 (fun r_19 u_19 h_19 => ?_)
      obtain ⟨rfl, rfl⟩ := h_19
      try dsimp only
      refine g_i2l F dL_told_22 ?_
      refine g_ladd F dL_told_23 ?_
      refine g_lstore_n (L' := [(1, _), (0, _), (3, _)]) F dL_told_24 rfl (by decide) rfl ?_
      refine g_iincC (q := 1) (L' := [(3, _), (1, _), (0, _)]) F 2 dL_told_25 (by decide) rfl (by decide) rfl ?_
      refine g_goto F 6 dL_told_28 (by decide) ?_
      refine g_sub [2, 1, 0] rfl ?_
      exact ih (by omega) _ (nx_add ej rfl) _ (by rw [ey, ej, cnt_lo n_9]; rfl)
  refine g_ldc2 F mCN_L_8 dL_told_0 ?_
  refine g_lstore_n (L' := [(1, _), (0, _)]) F dL_told_3 rfl (by decide) rfl ?_
  refine g_iconst (v := 0) F dL_told_4 (by decide) ?_
  refine g_istore_n (L' := [(3, _), (1, _), (0, _)]) F dL_told_5 rfl (by decide) rfl ?_
  refine g_sub [2, 1, 0] rfl ?_
  exact L1 0 (Nat.zero_le _) _ rfl _ rfl
end
section
/-! PART 76: act -/
theorem act_loco {v w : Int32} {σ s0 : Sg} {q : Int32 × Sg} (hc : v &&& 15 = 0 ∨ v &&& 15 = 1 ∨ v &&& 15 = 2) (H : locoR (adF v) (lowF w 21) (lowF (w >>> (5 &&& 31)) 4) (lowF (w >>> (7 &&& 31)) 801) σ q) : actR v w σ s0 q := by
  unfold actR
  rcases hc with hc | hc | hc
  all_goals
    rw [hc]
    rw [if_pos (by decide)]
    exact H
theorem act_3 {v w : Int32} {σ s0 : Sg} {q : Int32 × Sg} (hc : v &&& 15 = 3) (H : if w &&& 3 = 0 then liftR (adF v) σ q else noiseR (lowF (w >>> (2 &&& 31)) 11) σ q) : actR v w σ s0 q := by
  unfold actR
  rw [hc]
  rw [if_neg (by decide)]
  rw [if_pos rfl]
  exact H
theorem act_order {v w : Int32} {σ s0 : Sg} {q : Int32 × Sg} (hc : v &&& 15 = 4 ∨ v &&& 15 = 5 ∨ v &&& 15 = 6) (H : ordR (adF v) (dtF w) (lowF (w >>> (20 &&& 31)) 4) σ q) : actR v w σ s0 q := by
  unfold actR
  rcases hc with hc | hc | hc
  all_goals
    rw [hc]
    rw [if_neg (by decide)]
    rw [if_neg (by decide)]
    rw [if_pos (by decide)]
    exact H
theorem act_frame {v w : Int32} {σ s0 : Sg} {q : Int32 × Sg} (hc : v &&& 15 = 7 ∨ v &&& 15 = 8) (H : frmR (adF v) (dtF w) (ckF v w) σ q) : actR v w σ s0 q := by
  unfold actR
  rcases hc with hc | hc
  all_goals
    rw [hc]
    rw [if_neg (by decide)]
    rw [if_neg (by decide)]
    rw [if_neg (by decide)]
    rw [if_pos (by decide)]
    exact H
theorem act_shorts {v w : Int32} {σ s0 : Sg} {q : Int32 × Sg} (hc : v &&& 15 = 9) (H : shoR (lowF w 9) (lowF (w >>> (4 &&& 31)) 20) σ q) : actR v w σ s0 q := by
  unfold actR
  rw [hc]
  rw [if_neg (by decide)]
  rw [if_neg (by decide)]
  rw [if_neg (by decide)]
  rw [if_neg (by decide)]
  rw [if_pos rfl]
  exact H
theorem act_restore {v w : Int32} {σ s0 : Sg} {q : Int32 × Sg} (hc : v &&& 15 = 10) (H : resR w σ s0 q) : actR v w σ s0 q := by
  unfold actR
  rw [hc]
  rw [if_neg (by decide)]
  rw [if_neg (by decide)]
  rw [if_neg (by decide)]
  rw [if_neg (by decide)]
  rw [if_neg (by decide)]
  rw [if_pos rfl]
  exact H
theorem act_pass {v w : Int32} {σ s0 : Sg} {q : Int32 × Sg} (hc : ¬ (0 ≤ (v &&& 15).toInt ∧ (v &&& 15).toInt ≤ 10)) (H : pasR (ptF w) σ q) : actR v w σ s0 q := by
  have ne : ∀ c : Int32, 0 ≤ c.toInt ∧ c.toInt ≤ 10 → ¬ v &&& 15 = c := fun c h e => hc (by rw [e]; exact h)
  unfold actR
  rw [if_neg (by rintro (e | e | e) <;> exact ne _ (by decide) e), if_neg (ne 3 (by decide)), if_neg (by rintro (e | e | e) <;> exact ne _ (by decide) e), if_neg (by rintro (e | e) <;> exact ne _ (by decide) e), if_neg (ne 9 (by decide)), if_neg (ne 10 (by decide))]
  exact H
theorem lowN1 {c : Prop} [Decidable c] : ¬ (if c then (9 : Int32) else 101) = 0 := by split <;> decide
theorem lowN2 {c : Prop} [Decidable c] : ¬ (if c then (12 : Int32) else 101) = 0 := by split <;> decide
set_option maxHeartbeats 4000000 in
set_option maxRecDepth 100000 in
theorem c_L_act {l : Launch} {G : Gm} (hj : Aj G) {I : Ii} {pm : Pm} {v w : Int32} {σ : Sg} {hn : Nat} {hist : Nat → Sg} {sv : Nat → Int32} {sl : Nat → Sg} {pl : Nat} {pad : Sg} (C : CR I pm σ hn hist sv sl pl pad) (h0 : sv 0 = 1) (h1 : sv 1 = 0) : CI l G yL_act (wz yL_act cL_act 5 (some .int)) (rmL 7) [.ref (G.2.2 8 0), .int v, .int w] I pm (fun r u => ∃ q, actR v w σ (sl 0) q ∧ CHG I u r q σ hn hist sv sl pl pad) := by
  refine CI.walk hj (by decide +kernel) (by show _ ≤ 5; exact Nat.le_of_ble_eq_true rfl) ?_
  intro p e s m args below meth c F hr hlk
  obtain ⟨n, h, R, V⟩ := id C.1
  have hs0 : ¬ sl 0 6 < 0 := by
    obtain ⟨n0, h00, R0, V0⟩ := (C.2.2.2.2.1 0 (by decide)).2.2 h0
    rw [V0.1]
    exact nneg (by have := V0.2.1; omega)
  have SW : ∀ xa, xa = adF v → ∀ xd, xd = dtF w → GG p l e (rmL 7) s m args below meth c G (AA G) 5 0 0 (MQ below (va_Qi (fun (r : Int32) (u : Ii × Pm) => ∃ q, actR v w σ (sl 0) q ∧ CHG I u r q σ hn hist sv sl pl pad) (fun (u : Ii × Pm) t => Wd G u.1 u.2 t.heap) (AA G)) args s 0 0 (AA G)) I pm [(0, .ref (G.2.2 8 0)), (1, .int v), (2, .int w), (3, .int xa)] 61 [.int xd] := by
    intro xa ea xd ed
    subst ea
    subst ed
    refine g_istore (L' := [(4, _), (0, _), (1, _), (2, _), (3, _)]) F dL_act_61 (by decide) rfl ?_
    refine g_iload_n F 2 dL_act_63 rfl rfl ?_
    refine g_bipush (v := 15) F dL_act_64 (by decide) ?_
    refine g_iand F dL_act_66 ?_
    by_cases hs_67 : 0 ≤ (v &&& 15).toInt ∧ (v &&& 15).toInt ≤ 10
    · obtain ⟨js_67, hj_67, ej_67⟩ := sw_in hs_67.1 hs_67.2 (by decide)
      rcases (show js_67 = 0 ∨ js_67 = 1 ∨ js_67 = 2 ∨ js_67 = 3 ∨ js_67 = 4 ∨ js_67 = 5 ∨ js_67 = 6 ∨ js_67 = 7 ∨ js_67 = 8 ∨ js_67 = 9 ∨ js_67 = 10 by omega) with hq | hq | hq | hq | hq | hq | hq | hq | hq | hq | hq
      · have hs_67_0 : (v &&& 15) = 0 := by rw [ej_67, hq] <;> rfl
        refine g_tableIn (off := 57) F 124 dL_act_67 (by rw [hs_67_0]; decide) (by rw [hs_67_0]; decide) (by rw [hs_67_0]; rfl) (by decide) ?_
        have hA : v &&& 15 = 0 ∨ v &&& 15 = 1 ∨ v &&& 15 = 2 := Or.inl (hs_67_0)
        refine g_aload_n F 1 dL_act_124 rfl rfl ?_
        refine g_iload_n F 4 dL_act_125 rfl rfl ?_
        refine g_iload_n F 3 dL_act_126 rfl rfl ?_
        refine g_bipush (v := 21) F dL_act_127 (by decide) ?_
        refine g_callIs (na := 2) F (c_L_low hj (by decide)) lk_L_31 rfl rfl (by decide +kernel) ⟨rfl, rfl, Nat.le_of_ble_eq_true rfl, Nat.le_of_ble_eq_true rfl, Nat.le_of_ble_eq_true rfl, Nat.le_of_ble_eq_true rfl, Nat.le_of_ble_eq_true rfl⟩ dL_act_129 (fun r_129 u_129 h_129 => ?_)
        obtain ⟨rfl, rfl⟩ := h_129
        try dsimp only
        refine g_iload_n F 3 dL_act_132 rfl rfl ?_
        refine g_iconst (v := 5) F dL_act_133 (by decide) ?_
        refine g_ishr F dL_act_134 ?_
        refine g_iconst (v := 4) F dL_act_135 (by decide) ?_
        refine g_callIs (na := 2) F (c_L_low hj (by decide)) lk_L_31 rfl rfl (by decide +kernel) ⟨rfl, rfl, Nat.le_of_ble_eq_true rfl, Nat.le_of_ble_eq_true rfl, Nat.le_of_ble_eq_true rfl, Nat.le_of_ble_eq_true rfl, Nat.le_of_ble_eq_true rfl⟩ dL_act_136 (fun r_136 u_136 h_136 => ?_)
        obtain ⟨rfl, rfl⟩ := h_136
        try dsimp only
        refine g_iload_n F 3 dL_act_139 rfl rfl ?_
        refine g_bipush (v := 7) F dL_act_140 (by decide) ?_
        refine g_ishr F dL_act_142 ?_
        refine g_sipush (v := 801) F dL_act_143 (by decide) ?_
        refine g_callIs (na := 2) F (c_L_low hj (by decide)) lk_L_31 rfl rfl (by decide +kernel) ⟨rfl, rfl, Nat.le_of_ble_eq_true rfl, Nat.le_of_ble_eq_true rfl, Nat.le_of_ble_eq_true rfl, Nat.le_of_ble_eq_true rfl, Nat.le_of_ble_eq_true rfl⟩ dL_act_146 (fun r_146 u_146 h_146 => ?_)
        obtain ⟨rfl, rfl⟩ := h_146
        try dsimp only
        refine g_callIv (na := 4) F 8 _ (c_X5_loco hj C) (by decide) rfl rfl lk_L_36 rfl rfl (by decide +kernel) ⟨rfl, rfl, Nat.le_of_ble_eq_true rfl, Nat.le_of_ble_eq_true rfl, Nat.le_of_ble_eq_true rfl, Nat.le_of_ble_eq_true rfl, Nat.le_of_ble_eq_true rfl⟩ dL_act_149 (fun r_149 u_149 h_149 => ?_)
        
        refine g_iret F hr hlk rfl dL_act_152 ?_
        obtain ⟨q, hq, hC⟩ := h_149
        exact ⟨q, act_loco hA hq, hC⟩
      · have hs_67_1 : (v &&& 15) = 1 := by rw [ej_67, hq] <;> rfl
        refine g_tableIn (off := 57) F 124 dL_act_67 (by rw [hs_67_1]; decide) (by rw [hs_67_1]; decide) (by rw [hs_67_1]; rfl) (by decide) ?_
        have hA : v &&& 15 = 0 ∨ v &&& 15 = 1 ∨ v &&& 15 = 2 := Or.inr (Or.inl (hs_67_1))
        refine g_aload_n F 1 dL_act_124 rfl rfl ?_
        refine g_iload_n F 4 dL_act_125 rfl rfl ?_
        refine g_iload_n F 3 dL_act_126 rfl rfl ?_
        refine g_bipush (v := 21) F dL_act_127 (by decide) ?_
        refine g_callIs (na := 2) F (c_L_low hj (by decide)) lk_L_31 rfl rfl (by decide +kernel) ⟨rfl, rfl, Nat.le_of_ble_eq_true rfl, Nat.le_of_ble_eq_true rfl, Nat.le_of_ble_eq_true rfl, Nat.le_of_ble_eq_true rfl, Nat.le_of_ble_eq_true rfl⟩ dL_act_129 (fun r_129 u_129 h_129 => ?_)
        obtain ⟨rfl, rfl⟩ := h_129
        try dsimp only
        refine g_iload_n F 3 dL_act_132 rfl rfl ?_
        refine g_iconst (v := 5) F dL_act_133 (by decide) ?_
        refine g_ishr F dL_act_134 ?_
        refine g_iconst (v := 4) F dL_act_135 (by decide) ?_
        refine g_callIs (na := 2) F (c_L_low hj (by decide)) lk_L_31 rfl rfl (by decide +kernel) ⟨rfl, rfl, Nat.le_of_ble_eq_true rfl, Nat.le_of_ble_eq_true rfl, Nat.le_of_ble_eq_true rfl, Nat.le_of_ble_eq_true rfl, Nat.le_of_ble_eq_true rfl⟩ dL_act_136 (fun r_136 u_136 h_136 => ?_)
        obtain ⟨rfl, rfl⟩ := h_136
        try dsimp only
        refine g_iload_n F 3 dL_act_139 rfl rfl ?_
        refine g_bipush (v := 7) F dL_act_140 (by decide) ?_
        refine g_ishr F dL_act_142 ?_
        refine g_sipush (v := 801) F dL_act_143 (by decide) ?_
        refine g_callIs (na := 2) F (c_L_low hj (by decide)) lk_L_31 rfl rfl (by decide +kernel) ⟨rfl, rfl, Nat.le_of_ble_eq_true rfl, Nat.le_of_ble_eq_true rfl, Nat.le_of_ble_eq_true rfl, Nat.le_of_ble_eq_true rfl, Nat.le_of_ble_eq_true rfl⟩ dL_act_146 (fun r_146 u_146 h_146 => ?_)
        obtain ⟨rfl, rfl⟩ := h_146
        try dsimp only
        refine g_callIv (na := 4) F 8 _ (c_X5_loco hj C) (by decide) rfl rfl lk_L_36 rfl rfl (by decide +kernel) ⟨rfl, rfl, Nat.le_of_ble_eq_true rfl, Nat.le_of_ble_eq_true rfl, Nat.le_of_ble_eq_true rfl, Nat.le_of_ble_eq_true rfl, Nat.le_of_ble_eq_true rfl⟩ dL_act_149 (fun r_149 u_149 h_149 => ?_)
        
        refine g_iret F hr hlk rfl dL_act_152 ?_
        obtain ⟨q, hq, hC⟩ := h_149
        exact ⟨q, act_loco hA hq, hC⟩
      · have hs_67_2 : (v &&& 15) = 2 := by rw [ej_67, hq] <;> rfl
        refine g_tableIn (off := 57) F 124 dL_act_67 (by rw [hs_67_2]; decide) (by rw [hs_67_2]; decide) (by rw [hs_67_2]; rfl) (by decide) ?_
        have hA : v &&& 15 = 0 ∨ v &&& 15 = 1 ∨ v &&& 15 = 2 := Or.inr (Or.inr (hs_67_2))
        refine g_aload_n F 1 dL_act_124 rfl rfl ?_
        refine g_iload_n F 4 dL_act_125 rfl rfl ?_
        refine g_iload_n F 3 dL_act_126 rfl rfl ?_
        refine g_bipush (v := 21) F dL_act_127 (by decide) ?_
        refine g_callIs (na := 2) F (c_L_low hj (by decide)) lk_L_31 rfl rfl (by decide +kernel) ⟨rfl, rfl, Nat.le_of_ble_eq_true rfl, Nat.le_of_ble_eq_true rfl, Nat.le_of_ble_eq_true rfl, Nat.le_of_ble_eq_true rfl, Nat.le_of_ble_eq_true rfl⟩ dL_act_129 (fun r_129 u_129 h_129 => ?_)
        obtain ⟨rfl, rfl⟩ := h_129
        try dsimp only
        refine g_iload_n F 3 dL_act_132 rfl rfl ?_
        refine g_iconst (v := 5) F dL_act_133 (by decide) ?_
        refine g_ishr F dL_act_134 ?_
        refine g_iconst (v := 4) F dL_act_135 (by decide) ?_
        refine g_callIs (na := 2) F (c_L_low hj (by decide)) lk_L_31 rfl rfl (by decide +kernel) ⟨rfl, rfl, Nat.le_of_ble_eq_true rfl, Nat.le_of_ble_eq_true rfl, Nat.le_of_ble_eq_true rfl, Nat.le_of_ble_eq_true rfl, Nat.le_of_ble_eq_true rfl⟩ dL_act_136 (fun r_136 u_136 h_136 => ?_)
        obtain ⟨rfl, rfl⟩ := h_136
        try dsimp only
        refine g_iload_n F 3 dL_act_139 rfl rfl ?_
        refine g_bipush (v := 7) F dL_act_140 (by decide) ?_
        refine g_ishr F dL_act_142 ?_
        refine g_sipush (v := 801) F dL_act_143 (by decide) ?_
        refine g_callIs (na := 2) F (c_L_low hj (by decide)) lk_L_31 rfl rfl (by decide +kernel) ⟨rfl, rfl, Nat.le_of_ble_eq_true rfl, Nat.le_of_ble_eq_true rfl, Nat.le_of_ble_eq_true rfl, Nat.le_of_ble_eq_true rfl, Nat.le_of_ble_eq_true rfl⟩ dL_act_146 (fun r_146 u_146 h_146 => ?_)
        obtain ⟨rfl, rfl⟩ := h_146
        try dsimp only
        refine g_callIv (na := 4) F 8 _ (c_X5_loco hj C) (by decide) rfl rfl lk_L_36 rfl rfl (by decide +kernel) ⟨rfl, rfl, Nat.le_of_ble_eq_true rfl, Nat.le_of_ble_eq_true rfl, Nat.le_of_ble_eq_true rfl, Nat.le_of_ble_eq_true rfl, Nat.le_of_ble_eq_true rfl⟩ dL_act_149 (fun r_149 u_149 h_149 => ?_)
        
        refine g_iret F hr hlk rfl dL_act_152 ?_
        obtain ⟨q, hq, hC⟩ := h_149
        exact ⟨q, act_loco hA hq, hC⟩
      · have hs_67_3 : (v &&& 15) = 3 := by rw [ej_67, hq] <;> rfl
        refine g_tableIn (off := 86) F 153 dL_act_67 (by rw [hs_67_3]; decide) (by rw [hs_67_3]; decide) (by rw [hs_67_3]; rfl) (by decide) ?_
        have hA : v &&& 15 = 3 := hs_67_3
        refine g_iload_n F 3 dL_act_153 rfl rfl ?_
        refine g_iconst (v := 3) F dL_act_154 (by decide) ?_
        refine g_iand F dL_act_155 ?_
        refine g_if_ne F 167 dL_act_156 (by decide) (fun c_156 => ?_) (fun c_156 => ?_)
        · refine g_aload_n F 1 dL_act_167 rfl rfl ?_
          refine g_iload_n F 3 dL_act_168 rfl rfl ?_
          refine g_iconst (v := 2) F dL_act_169 (by decide) ?_
          refine g_ishr F dL_act_170 ?_
          refine g_bipush (v := 11) F dL_act_171 (by decide) ?_
          refine g_callIs (na := 2) F (c_L_low hj (by decide)) lk_L_31 rfl rfl (by decide +kernel) ⟨rfl, rfl, Nat.le_of_ble_eq_true rfl, Nat.le_of_ble_eq_true rfl, Nat.le_of_ble_eq_true rfl, Nat.le_of_ble_eq_true rfl, Nat.le_of_ble_eq_true rfl⟩ dL_act_173 (fun r_173 u_173 h_173 => ?_)
          obtain ⟨rfl, rfl⟩ := h_173
          try dsimp only
          refine g_callIv (na := 1) F 8 _ (c_X5_noise hj C) (by decide) rfl rfl lk_L_43 rfl rfl (by decide +kernel) ⟨rfl, rfl, Nat.le_of_ble_eq_true rfl, Nat.le_of_ble_eq_true rfl, Nat.le_of_ble_eq_true rfl, Nat.le_of_ble_eq_true rfl, Nat.le_of_ble_eq_true rfl⟩ dL_act_176 (fun r_176 u_176 h_176 => ?_)
          
          refine g_iret F hr hlk rfl dL_act_179 ?_
          first
          | (obtain ⟨q, hq, hC⟩ := h_161; exact ⟨q, act_3 hA (by rw [if_pos c_156]; exact hq), hC⟩)
          | (obtain ⟨q, hq, hC⟩ := h_176; exact ⟨q, act_3 hA (by rw [if_neg c_156]; exact hq), hC⟩)
        · refine g_aload_n F 1 dL_act_159 rfl rfl ?_
          refine g_iload_n F 4 dL_act_160 rfl rfl ?_
          refine g_callIv (na := 1) F 8 _ (c_X5_lift hj C) (by decide) rfl rfl lk_L_40 rfl rfl (by decide +kernel) ⟨rfl, rfl, Nat.le_of_ble_eq_true rfl, Nat.le_of_ble_eq_true rfl, Nat.le_of_ble_eq_true rfl, Nat.le_of_ble_eq_true rfl, Nat.le_of_ble_eq_true rfl⟩ dL_act_161 (fun r_161 u_161 h_161 => ?_)
          
          refine g_goto F 179 dL_act_164 (by decide) ?_
          refine g_iret F hr hlk rfl dL_act_179 ?_
          first
          | (obtain ⟨q, hq, hC⟩ := h_161; exact ⟨q, act_3 hA (by rw [if_pos c_156]; exact hq), hC⟩)
          | (obtain ⟨q, hq, hC⟩ := h_176; exact ⟨q, act_3 hA (by rw [if_neg c_156]; exact hq), hC⟩)
      · have hs_67_4 : (v &&& 15) = 4 := by rw [ej_67, hq] <;> rfl
        refine g_tableIn (off := 113) F 180 dL_act_67 (by rw [hs_67_4]; decide) (by rw [hs_67_4]; decide) (by rw [hs_67_4]; rfl) (by decide) ?_
        have hA : v &&& 15 = 4 ∨ v &&& 15 = 5 ∨ v &&& 15 = 6 := Or.inl (hs_67_4)
        refine g_aload_n F 1 dL_act_180 rfl rfl ?_
        refine g_iload_n F 4 dL_act_181 rfl rfl ?_
        refine g_iload F 0 dL_act_182 rfl ?_
        refine g_iload_n F 3 dL_act_184 rfl rfl ?_
        refine g_bipush (v := 20) F dL_act_185 (by decide) ?_
        refine g_ishr F dL_act_187 ?_
        refine g_iconst (v := 4) F dL_act_188 (by decide) ?_
        refine g_callIs (na := 2) F (c_L_low hj (by decide)) lk_L_31 rfl rfl (by decide +kernel) ⟨rfl, rfl, Nat.le_of_ble_eq_true rfl, Nat.le_of_ble_eq_true rfl, Nat.le_of_ble_eq_true rfl, Nat.le_of_ble_eq_true rfl, Nat.le_of_ble_eq_true rfl⟩ dL_act_189 (fun r_189 u_189 h_189 => ?_)
        obtain ⟨rfl, rfl⟩ := h_189
        try dsimp only
        refine g_callIv (na := 3) F 8 _ (c_X5_order hj C) (by decide) rfl rfl lk_L_46 rfl rfl (by decide +kernel) ⟨rfl, rfl, Nat.le_of_ble_eq_true rfl, Nat.le_of_ble_eq_true rfl, Nat.le_of_ble_eq_true rfl, Nat.le_of_ble_eq_true rfl, Nat.le_of_ble_eq_true rfl⟩ dL_act_192 (fun r_192 u_192 h_192 => ?_)
        
        refine g_iret F hr hlk rfl dL_act_195 ?_
        obtain ⟨q, hq, hC⟩ := h_192
        exact ⟨q, act_order hA hq, hC⟩
      · have hs_67_5 : (v &&& 15) = 5 := by rw [ej_67, hq] <;> rfl
        refine g_tableIn (off := 113) F 180 dL_act_67 (by rw [hs_67_5]; decide) (by rw [hs_67_5]; decide) (by rw [hs_67_5]; rfl) (by decide) ?_
        have hA : v &&& 15 = 4 ∨ v &&& 15 = 5 ∨ v &&& 15 = 6 := Or.inr (Or.inl (hs_67_5))
        refine g_aload_n F 1 dL_act_180 rfl rfl ?_
        refine g_iload_n F 4 dL_act_181 rfl rfl ?_
        refine g_iload F 0 dL_act_182 rfl ?_
        refine g_iload_n F 3 dL_act_184 rfl rfl ?_
        refine g_bipush (v := 20) F dL_act_185 (by decide) ?_
        refine g_ishr F dL_act_187 ?_
        refine g_iconst (v := 4) F dL_act_188 (by decide) ?_
        refine g_callIs (na := 2) F (c_L_low hj (by decide)) lk_L_31 rfl rfl (by decide +kernel) ⟨rfl, rfl, Nat.le_of_ble_eq_true rfl, Nat.le_of_ble_eq_true rfl, Nat.le_of_ble_eq_true rfl, Nat.le_of_ble_eq_true rfl, Nat.le_of_ble_eq_true rfl⟩ dL_act_189 (fun r_189 u_189 h_189 => ?_)
        obtain ⟨rfl, rfl⟩ := h_189
        try dsimp only
        refine g_callIv (na := 3) F 8 _ (c_X5_order hj C) (by decide) rfl rfl lk_L_46 rfl rfl (by decide +kernel) ⟨rfl, rfl, Nat.le_of_ble_eq_true rfl, Nat.le_of_ble_eq_true rfl, Nat.le_of_ble_eq_true rfl, Nat.le_of_ble_eq_true rfl, Nat.le_of_ble_eq_true rfl⟩ dL_act_192 (fun r_192 u_192 h_192 => ?_)
        
        refine g_iret F hr hlk rfl dL_act_195 ?_
        obtain ⟨q, hq, hC⟩ := h_192
        exact ⟨q, act_order hA hq, hC⟩
      · have hs_67_6 : (v &&& 15) = 6 := by rw [ej_67, hq] <;> rfl
        refine g_tableIn (off := 113) F 180 dL_act_67 (by rw [hs_67_6]; decide) (by rw [hs_67_6]; decide) (by rw [hs_67_6]; rfl) (by decide) ?_
        have hA : v &&& 15 = 4 ∨ v &&& 15 = 5 ∨ v &&& 15 = 6 := Or.inr (Or.inr (hs_67_6))
        refine g_aload_n F 1 dL_act_180 rfl rfl ?_
        refine g_iload_n F 4 dL_act_181 rfl rfl ?_
        refine g_iload F 0 dL_act_182 rfl ?_
        refine g_iload_n F 3 dL_act_184 rfl rfl ?_
        refine g_bipush (v := 20) F dL_act_185 (by decide) ?_
        refine g_ishr F dL_act_187 ?_
        refine g_iconst (v := 4) F dL_act_188 (by decide) ?_
        refine g_callIs (na := 2) F (c_L_low hj (by decide)) lk_L_31 rfl rfl (by decide +kernel) ⟨rfl, rfl, Nat.le_of_ble_eq_true rfl, Nat.le_of_ble_eq_true rfl, Nat.le_of_ble_eq_true rfl, Nat.le_of_ble_eq_true rfl, Nat.le_of_ble_eq_true rfl⟩ dL_act_189 (fun r_189 u_189 h_189 => ?_)
        obtain ⟨rfl, rfl⟩ := h_189
        try dsimp only
        refine g_callIv (na := 3) F 8 _ (c_X5_order hj C) (by decide) rfl rfl lk_L_46 rfl rfl (by decide +kernel) ⟨rfl, rfl, Nat.le_of_ble_eq_true rfl, Nat.le_of_ble_eq_true rfl, Nat.le_of_ble_eq_true rfl, Nat.le_of_ble_eq_true rfl, Nat.le_of_ble_eq_true rfl⟩ dL_act_192 (fun r_192 u_192 h_192 => ?_)
        
        refine g_iret F hr hlk rfl dL_act_195 ?_
        obtain ⟨q, hq, hC⟩ := h_192
        exact ⟨q, act_order hA hq, hC⟩
      · have hs_67_7 : (v &&& 15) = 7 := by rw [ej_67, hq] <;> rfl
        refine g_tableIn (off := 129) F 196 dL_act_67 (by rw [hs_67_7]; decide) (by rw [hs_67_7]; decide) (by rw [hs_67_7]; rfl) (by decide) ?_
        have hA : v &&& 15 = 7 ∨ v &&& 15 = 8 := Or.inl (hs_67_7)
        refine g_aload_n F 1 dL_act_196 rfl rfl ?_
        refine g_iload_n F 4 dL_act_197 rfl rfl ?_
        refine g_iload F 0 dL_act_198 rfl ?_
        refine g_iload_n F 3 dL_act_200 rfl rfl ?_
        refine g_bipush (v := 20) F dL_act_201 (by decide) ?_
        refine g_ishr F dL_act_203 ?_
        refine g_iconst (v := 3) F dL_act_204 (by decide) ?_
        refine g_iand F dL_act_205 ?_
        refine g_if_ne F 221 dL_act_206 (by decide) (fun c_206 => ?_) (fun c_206 => ?_)
        · refine g_iload_n F 4 dL_act_221 rfl rfl ?_
          refine g_iload F 0 dL_act_222 rfl ?_
          refine g_ixor F dL_act_224 ?_
          refine g_sipush (v := 255) F dL_act_225 (by decide) ?_
          refine g_iand F dL_act_228 ?_
          refine g_callIv (na := 3) F 8 _ (c_X5_frame hj C) (by decide) rfl rfl lk_L_50 rfl rfl (by decide +kernel) ⟨rfl, rfl, Nat.le_of_ble_eq_true rfl, Nat.le_of_ble_eq_true rfl, Nat.le_of_ble_eq_true rfl, Nat.le_of_ble_eq_true rfl, Nat.le_of_ble_eq_true rfl⟩ dL_act_229 (fun r_229 u_229 h_229 => ?_)
          
          refine g_iret F hr hlk rfl dL_act_232 ?_
          obtain ⟨q, hq, hC⟩ := h_229
          first
          | exact ⟨q, act_frame hA (by unfold ckF; rw [if_pos c_206]; exact hq), hC⟩
          | exact ⟨q, act_frame hA (by unfold ckF; rw [if_neg c_206]; exact hq), hC⟩
        · refine g_iload_n F 3 dL_act_209 rfl rfl ?_
          refine g_iconst (v := 3) F dL_act_210 (by decide) ?_
          refine g_ishr F dL_act_211 ?_
          refine g_sipush (v := 256) F dL_act_212 (by decide) ?_
          refine g_callIs (na := 2) F (c_L_low hj (by decide)) lk_L_31 rfl rfl (by decide +kernel) ⟨rfl, rfl, Nat.le_of_ble_eq_true rfl, Nat.le_of_ble_eq_true rfl, Nat.le_of_ble_eq_true rfl, Nat.le_of_ble_eq_true rfl, Nat.le_of_ble_eq_true rfl⟩ dL_act_215 (fun r_215 u_215 h_215 => ?_)
          obtain ⟨rfl, rfl⟩ := h_215
          try dsimp only
          refine g_goto F 229 dL_act_218 (by decide) ?_
          refine g_callIv (na := 3) F 8 _ (c_X5_frame hj C) (by decide) rfl rfl lk_L_50 rfl rfl (by decide +kernel) ⟨rfl, rfl, Nat.le_of_ble_eq_true rfl, Nat.le_of_ble_eq_true rfl, Nat.le_of_ble_eq_true rfl, Nat.le_of_ble_eq_true rfl, Nat.le_of_ble_eq_true rfl⟩ dL_act_229 (fun r_229 u_229 h_229 => ?_)
          
          refine g_iret F hr hlk rfl dL_act_232 ?_
          obtain ⟨q, hq, hC⟩ := h_229
          first
          | exact ⟨q, act_frame hA (by unfold ckF; rw [if_pos c_206]; exact hq), hC⟩
          | exact ⟨q, act_frame hA (by unfold ckF; rw [if_neg c_206]; exact hq), hC⟩
      · have hs_67_8 : (v &&& 15) = 8 := by rw [ej_67, hq] <;> rfl
        refine g_tableIn (off := 129) F 196 dL_act_67 (by rw [hs_67_8]; decide) (by rw [hs_67_8]; decide) (by rw [hs_67_8]; rfl) (by decide) ?_
        have hA : v &&& 15 = 7 ∨ v &&& 15 = 8 := Or.inr (hs_67_8)
        refine g_aload_n F 1 dL_act_196 rfl rfl ?_
        refine g_iload_n F 4 dL_act_197 rfl rfl ?_
        refine g_iload F 0 dL_act_198 rfl ?_
        refine g_iload_n F 3 dL_act_200 rfl rfl ?_
        refine g_bipush (v := 20) F dL_act_201 (by decide) ?_
        refine g_ishr F dL_act_203 ?_
        refine g_iconst (v := 3) F dL_act_204 (by decide) ?_
        refine g_iand F dL_act_205 ?_
        refine g_if_ne F 221 dL_act_206 (by decide) (fun c_206 => ?_) (fun c_206 => ?_)
        · refine g_iload_n F 4 dL_act_221 rfl rfl ?_
          refine g_iload F 0 dL_act_222 rfl ?_
          refine g_ixor F dL_act_224 ?_
          refine g_sipush (v := 255) F dL_act_225 (by decide) ?_
          refine g_iand F dL_act_228 ?_
          refine g_callIv (na := 3) F 8 _ (c_X5_frame hj C) (by decide) rfl rfl lk_L_50 rfl rfl (by decide +kernel) ⟨rfl, rfl, Nat.le_of_ble_eq_true rfl, Nat.le_of_ble_eq_true rfl, Nat.le_of_ble_eq_true rfl, Nat.le_of_ble_eq_true rfl, Nat.le_of_ble_eq_true rfl⟩ dL_act_229 (fun r_229 u_229 h_229 => ?_)
          
          refine g_iret F hr hlk rfl dL_act_232 ?_
          obtain ⟨q, hq, hC⟩ := h_229
          first
          | exact ⟨q, act_frame hA (by unfold ckF; rw [if_pos c_206]; exact hq), hC⟩
          | exact ⟨q, act_frame hA (by unfold ckF; rw [if_neg c_206]; exact hq), hC⟩
        · refine g_iload_n F 3 dL_act_209 rfl rfl ?_
          refine g_iconst (v := 3) F dL_act_210 (by decide) ?_
          refine g_ishr F dL_act_211 ?_
          refine g_sipush (v := 256) F dL_act_212 (by decide) ?_
          refine g_callIs (na := 2) F (c_L_low hj (by decide)) lk_L_31 rfl rfl (by decide +kernel) ⟨rfl, rfl, Nat.le_of_ble_eq_true rfl, Nat.le_of_ble_eq_true rfl, Nat.le_of_ble_eq_true rfl, Nat.le_of_ble_eq_true rfl, Nat.le_of_ble_eq_true rfl⟩ dL_act_215 (fun r_215 u_215 h_215 => ?_)
          obtain ⟨rfl, rfl⟩ := h_215
          try dsimp only
          refine g_goto F 229 dL_act_218 (by decide) ?_
          refine g_callIv (na := 3) F 8 _ (c_X5_frame hj C) (by decide) rfl rfl lk_L_50 rfl rfl (by decide +kernel) ⟨rfl, rfl, Nat.le_of_ble_eq_true rfl, Nat.le_of_ble_eq_true rfl, Nat.le_of_ble_eq_true rfl, Nat.le_of_ble_eq_true rfl, Nat.le_of_ble_eq_true rfl⟩ dL_act_229 (fun r_229 u_229 h_229 => ?_)
          
          refine g_iret F hr hlk rfl dL_act_232 ?_
          obtain ⟨q, hq, hC⟩ := h_229
          first
          | exact ⟨q, act_frame hA (by unfold ckF; rw [if_pos c_206]; exact hq), hC⟩
          | exact ⟨q, act_frame hA (by unfold ckF; rw [if_neg c_206]; exact hq), hC⟩
      · have hs_67_9 : (v &&& 15) = 9 := by rw [ej_67, hq] <;> rfl
        refine g_tableIn (off := 166) F 233 dL_act_67 (by rw [hs_67_9]; decide) (by rw [hs_67_9]; decide) (by rw [hs_67_9]; rfl) (by decide) ?_
        have hA : v &&& 15 = 9 := hs_67_9
        refine g_aload_n F 1 dL_act_233 rfl rfl ?_
        refine g_iload_n F 3 dL_act_234 rfl rfl ?_
        refine g_bipush (v := 9) F dL_act_235 (by decide) ?_
        refine g_callIs (na := 2) F (c_L_low hj (by decide)) lk_L_31 rfl rfl (by decide +kernel) ⟨rfl, rfl, Nat.le_of_ble_eq_true rfl, Nat.le_of_ble_eq_true rfl, Nat.le_of_ble_eq_true rfl, Nat.le_of_ble_eq_true rfl, Nat.le_of_ble_eq_true rfl⟩ dL_act_237 (fun r_237 u_237 h_237 => ?_)
        obtain ⟨rfl, rfl⟩ := h_237
        try dsimp only
        refine g_iload_n F 3 dL_act_240 rfl rfl ?_
        refine g_iconst (v := 4) F dL_act_241 (by decide) ?_
        refine g_ishr F dL_act_242 ?_
        refine g_bipush (v := 20) F dL_act_243 (by decide) ?_
        refine g_callIs (na := 2) F (c_L_low hj (by decide)) lk_L_31 rfl rfl (by decide +kernel) ⟨rfl, rfl, Nat.le_of_ble_eq_true rfl, Nat.le_of_ble_eq_true rfl, Nat.le_of_ble_eq_true rfl, Nat.le_of_ble_eq_true rfl, Nat.le_of_ble_eq_true rfl⟩ dL_act_245 (fun r_245 u_245 h_245 => ?_)
        obtain ⟨rfl, rfl⟩ := h_245
        try dsimp only
        refine g_callIv (na := 2) F 8 _ (c_X5_shorts hj C) (by decide) rfl rfl lk_L_53 rfl rfl (by decide +kernel) ⟨rfl, rfl, Nat.le_of_ble_eq_true rfl, Nat.le_of_ble_eq_true rfl, Nat.le_of_ble_eq_true rfl, Nat.le_of_ble_eq_true rfl, Nat.le_of_ble_eq_true rfl⟩ dL_act_248 (fun r_248 u_248 h_248 => ?_)
        
        refine g_iret F hr hlk rfl dL_act_251 ?_
        obtain ⟨q, hq, hC⟩ := h_248
        exact ⟨q, act_shorts hA hq, hC⟩
      · have hs_67_10 : (v &&& 15) = 10 := by rw [ej_67, hq] <;> rfl
        refine g_tableIn (off := 185) F 252 dL_act_67 (by rw [hs_67_10]; decide) (by rw [hs_67_10]; decide) (by rw [hs_67_10]; rfl) (by decide) ?_
        have hA : v &&& 15 = 10 := hs_67_10
        refine g_aload_n F 1 dL_act_252 rfl rfl ?_
        refine g_iload_n F 3 dL_act_253 rfl rfl ?_
        refine g_iconst (v := 1) F dL_act_254 (by decide) ?_
        refine g_iand F dL_act_255 ?_
        refine g_callIv (na := 1) F 8 _ (c_X5_restore hj C) (by decide) rfl rfl lk_L_56 rfl rfl (by decide +kernel) ⟨rfl, rfl, Nat.le_of_ble_eq_true rfl, Nat.le_of_ble_eq_true rfl, Nat.le_of_ble_eq_true rfl, Nat.le_of_ble_eq_true rfl, Nat.le_of_ble_eq_true rfl⟩ dL_act_256 (fun r_256 u_256 h_256 => ?_)
        
        refine g_iret F hr hlk rfl dL_act_259 ?_
        rcases and1 w with e1 | e1
        · rw [e1] at h_256
          rcases h_256 with ⟨a, -, -⟩ | ⟨-, a, -, -⟩ | ⟨-, -, a, b, f⟩
          · exact absurd (by decide) a
          · exact absurd (h0.symm.trans a) (by decide)
          · exact ⟨(sl 0 6, sl 0), act_restore hA (Or.inl ⟨e1, rfl⟩), a, Or.inr ⟨hs0, b⟩, f⟩
        · rw [e1] at h_256
          rcases h_256 with ⟨a, -, -⟩ | ⟨-, -, a, rfl⟩ | ⟨-, a, -⟩
          · exact absurd (by decide) a
          · exact ⟨(-5, σ), act_restore hA (Or.inr ⟨e1, rfl⟩), a, Or.inl ⟨by show (-5 : Int32) < 0; decide, C⟩, FC.rf⟩
          · exact absurd (h1.symm.trans a) (by decide)
    · refine g_tableOut F 260 dL_act_67 (by omega) (by decide) ?_
      refine g_aload_n F 1 dL_act_260 rfl rfl ?_
      refine g_iload_n F 3 dL_act_261 rfl rfl ?_
      refine g_iload_n F 3 dL_act_262 rfl rfl ?_
      refine g_bipush (v := 8) F dL_act_263 (by decide) ?_
      refine g_ishr F dL_act_265 ?_
      refine g_iconst (v := 3) F dL_act_266 (by decide) ?_
      refine g_iand F dL_act_267 ?_
      refine g_tif_ne (12) (101) 278 (fun kt kf => ?_) ?_
      · refine g_if_ne F 276 dL_act_268 (by decide) (fun q => ?_) (fun q => ?_)
        · refine g_bipush (v := 12) F dL_act_276 (by decide) ?_
          exact kt q
        · refine g_bipush (v := 101) F dL_act_271 (by decide) ?_
          refine g_goto F 278 dL_act_273 (by decide) ?_
          exact kf (by first | exact q | exact not_not_intro q)
      refine g_callIs (na := 2) F (c_L_low hj lowN2) lk_L_31 rfl rfl (by decide +kernel) ⟨rfl, rfl, Nat.le_of_ble_eq_true rfl, Nat.le_of_ble_eq_true rfl, Nat.le_of_ble_eq_true rfl, Nat.le_of_ble_eq_true rfl, Nat.le_of_ble_eq_true rfl⟩ dL_act_278 (fun r_278 u_278 h_278 => ?_)
      obtain ⟨rfl, rfl⟩ := h_278
      try dsimp only
      refine g_callIv (na := 1) F 8 _ (c_X5_pass hj C) (by decide) rfl rfl lk_L_59 rfl rfl (by decide +kernel) ⟨rfl, rfl, Nat.le_of_ble_eq_true rfl, Nat.le_of_ble_eq_true rfl, Nat.le_of_ble_eq_true rfl, Nat.le_of_ble_eq_true rfl, Nat.le_of_ble_eq_true rfl⟩ dL_act_281 (fun r_281 u_281 h_281 => ?_)
      
      refine g_iret F hr hlk rfl dL_act_284 ?_
      obtain ⟨q, hq, hC⟩ := h_281
      exact ⟨q, act_pass hs_67 hq, hC⟩
  refine g_iload_n F 1 dL_act_0 rfl rfl ?_
  refine g_iconst (v := 4) F dL_act_1 (by decide) ?_
  refine g_ishr F dL_act_2 ?_
  refine g_iload_n F 1 dL_act_3 rfl rfl ?_
  refine g_bipush (v := 20) F dL_act_4 (by decide) ?_
  refine g_ishr F dL_act_6 ?_
  refine g_bipush (v := 7) F dL_act_7 (by decide) ?_
  refine g_iand F dL_act_9 ?_
  refine g_tif_ne (9) (101) 20 (fun kt kf => ?_) ?_
  · refine g_if_ne F 18 dL_act_10 (by decide) (fun q => ?_) (fun q => ?_)
    · refine g_bipush (v := 9) F dL_act_18 (by decide) ?_
      exact kt q
    · refine g_bipush (v := 101) F dL_act_13 (by decide) ?_
      refine g_goto F 20 dL_act_15 (by decide) ?_
      exact kf (by first | exact q | exact not_not_intro q)
  refine g_callIs (na := 2) F (c_L_low hj lowN1) lk_L_31 rfl rfl (by decide +kernel) ⟨rfl, rfl, Nat.le_of_ble_eq_true rfl, Nat.le_of_ble_eq_true rfl, Nat.le_of_ble_eq_true rfl, Nat.le_of_ble_eq_true rfl, Nat.le_of_ble_eq_true rfl⟩ dL_act_20 (fun r_20 u_20 h_20 => ?_)
  obtain ⟨rfl, rfl⟩ := h_20
  try dsimp only
  refine g_topi (fun x3_23 ex3_23 => ?_)
  refine g_istore_n (L' := [(3, _), (0, _), (1, _), (2, _)]) F dL_act_23 rfl (by decide) rfl ?_
  refine g_iload_n F 3 dL_act_24 rfl rfl ?_
  refine g_iconst (v := 3) F dL_act_25 (by decide) ?_
  refine g_iand F dL_act_26 ?_
  refine g_if_le F 52 dL_act_27 (by decide) (fun c_27 => ?_) (fun c_27 => ?_)
  · refine g_iload_n F 3 dL_act_52 rfl rfl ?_
    refine g_iconst (v := 2) F dL_act_53 (by decide) ?_
    refine g_ishr F dL_act_54 ?_
    refine g_sipush (v := 258) F dL_act_55 (by decide) ?_
    refine g_callIs (na := 2) F (c_L_low hj (by decide)) lk_L_31 rfl rfl (by decide +kernel) ⟨rfl, rfl, Nat.le_of_ble_eq_true rfl, Nat.le_of_ble_eq_true rfl, Nat.le_of_ble_eq_true rfl, Nat.le_of_ble_eq_true rfl, Nat.le_of_ble_eq_true rfl⟩ dL_act_58 (fun r_58 u_58 h_58 => ?_)
    obtain ⟨rfl, rfl⟩ := h_58
    try dsimp only
    refine g_sub [1, 2, 3, 0] rfl ?_
    first
    | exact SW _ (by rw [ex3_23]; rfl) _ (by unfold dtF; rw [if_pos (Int32.not_le.mp c_27)])
    | exact SW _ (by rw [ex3_23]; rfl) _ (by unfold dtF; rw [if_neg (Int32.not_lt.mpr c_27)])
  · refine g_iload_n F 3 dL_act_30 rfl rfl ?_
    refine g_iconst (v := 2) F dL_act_31 (by decide) ?_
    refine g_ishr F dL_act_32 ?_
    refine g_bipush (v := 29) F dL_act_33 (by decide) ?_
    refine g_callIs (na := 2) F (c_L_low hj (by decide)) lk_L_31 rfl rfl (by decide +kernel) ⟨rfl, rfl, Nat.le_of_ble_eq_true rfl, Nat.le_of_ble_eq_true rfl, Nat.le_of_ble_eq_true rfl, Nat.le_of_ble_eq_true rfl, Nat.le_of_ble_eq_true rfl⟩ dL_act_35 (fun r_35 u_35 h_35 => ?_)
    obtain ⟨rfl, rfl⟩ := h_35
    try dsimp only
    refine g_sipush (v := 128) F dL_act_38 (by decide) ?_
    refine g_iload_n F 3 dL_act_41 rfl rfl ?_
    refine g_bipush (v := 8) F dL_act_42 (by decide) ?_
    refine g_ishr F dL_act_44 ?_
    refine g_iconst (v := 1) F dL_act_45 (by decide) ?_
    refine g_iand F dL_act_46 ?_
    refine g_imul F dL_act_47 ?_
    refine g_iadd F dL_act_48 ?_
    refine g_goto F 61 dL_act_49 (by decide) ?_
    refine g_sub [1, 2, 3, 0] rfl ?_
    first
    | exact SW _ (by rw [ex3_23]; rfl) _ (by unfold dtF; rw [if_pos (Int32.not_le.mp c_27)])
    | exact SW _ (by rw [ex3_23]; rfl) _ (by unfold dtF; rw [if_neg (Int32.not_lt.mpr c_27)])
end
